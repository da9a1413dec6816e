theorem dX0_init_0 : decode cX0_init 0 = .ok (.aload_n 0, 1) := by decide +kernel
theorem dX0_init_1 : decode cX0_init 1 = .ok (.invokespecial 3, 3) := by decide +kernel
theorem dX0_init_4 : decode cX0_init 4 = .ok (.aload_n 0, 1) := by decide +kernel
theorem dX0_init_5 : decode cX0_init 5 = .ok (.bipush 8, 2) := by decide +kernel
theorem dX0_init_7 : decode cX0_init 7 = .ok (.newarray .int, 2) := by decide +kernel
theorem dX0_init_9 : decode cX0_init 9 = .ok (.putfield 9, 3) := by decide +kernel
theorem dX0_init_12 : decode cX0_init 12 = .ok (.aload_n 0, 1) := by decide +kernel
theorem dX0_init_13 : decode cX0_init 13 = .ok (.bipush 8, 2) := by decide +kernel
theorem dX0_init_15 : decode cX0_init 15 = .ok (.newarray .int, 2) := by decide +kernel
theorem dX0_init_17 : decode cX0_init 17 = .ok (.putfield 15, 3) := by decide +kernel
theorem dX0_init_20 : decode cX0_init 20 = .ok (.return_, 1) := by decide +kernel
theorem dX0_left_0 : decode cX0_left 0 = .ok (.iload_n 2, 1) := by decide +kernel
theorem dX0_left_1 : decode cX0_left 1 = .ok (.istore_n 3, 1) := by decide +kernel
theorem dX0_left_2 : decode cX0_left 2 = .ok (.iconst 0, 1) := by decide +kernel
theorem dX0_left_3 : decode cX0_left 3 = .ok (.istore 4, 2) := by decide +kernel
theorem dX0_left_5 : decode cX0_left 5 = .ok (.iload 4, 2) := by decide +kernel
theorem dX0_left_7 : decode cX0_left 7 = .ok (.aload_n 0, 1) := by decide +kernel
theorem dX0_left_8 : decode cX0_left 8 = .ok (.getfield 24, 3) := by decide +kernel
theorem dX0_left_11 : decode cX0_left 11 = .ok (.if_icmp .ge 37, 3) := by decide +kernel
theorem dX0_left_48 : decode cX0_left 48 = .ok (.iload_n 3, 1) := by decide +kernel
theorem dX0_left_49 : decode cX0_left 49 = .ok (.ireturn, 1) := by decide +kernel
theorem dX0_take_0 : decode cX0_take 0 = .ok (.aload_n 1, 1) := by decide +kernel
theorem dX0_take_1 : decode cX0_take 1 = .ok (.getfield 9, 3) := by decide +kernel
theorem dX0_take_4 : decode cX0_take 4 = .ok (.iconst 0, 1) := by decide +kernel
theorem dX0_take_5 : decode cX0_take 5 = .ok (.aload_n 0, 1) := by decide +kernel
theorem dX0_take_6 : decode cX0_take 6 = .ok (.getfield 9, 3) := by decide +kernel
theorem dX0_take_9 : decode cX0_take 9 = .ok (.iconst 0, 1) := by decide +kernel
theorem dX0_take_10 : decode cX0_take 10 = .ok (.bipush 8, 2) := by decide +kernel
theorem dX0_take_12 : decode cX0_take 12 = .ok (.invokestatic 18, 3) := by decide +kernel
theorem dX0_take_15 : decode cX0_take 15 = .ok (.aload_n 1, 1) := by decide +kernel
theorem dX0_take_16 : decode cX0_take 16 = .ok (.getfield 15, 3) := by decide +kernel
theorem dX0_take_19 : decode cX0_take 19 = .ok (.iconst 0, 1) := by decide +kernel
theorem dX0_take_20 : decode cX0_take 20 = .ok (.aload_n 0, 1) := by decide +kernel
theorem dX0_take_21 : decode cX0_take 21 = .ok (.getfield 15, 3) := by decide +kernel
theorem dX0_take_24 : decode cX0_take 24 = .ok (.iconst 0, 1) := by decide +kernel
theorem dX0_take_25 : decode cX0_take 25 = .ok (.bipush 8, 2) := by decide +kernel
theorem dX0_take_27 : decode cX0_take 27 = .ok (.invokestatic 18, 3) := by decide +kernel
theorem dX0_take_30 : decode cX0_take 30 = .ok (.aload_n 0, 1) := by decide +kernel
theorem dX0_take_31 : decode cX0_take 31 = .ok (.aload_n 1, 1) := by decide +kernel
theorem dX0_take_32 : decode cX0_take 32 = .ok (.getfield 24, 3) := by decide +kernel
theorem dX0_take_35 : decode cX0_take 35 = .ok (.putfield 24, 3) := by decide +kernel
theorem dX0_take_38 : decode cX0_take 38 = .ok (.return_, 1) := by decide +kernel
theorem dX1_all_0 : decode cX1_all 0 = .ok (.iconst 1, 1) := by decide +kernel
theorem dX1_all_1 : decode cX1_all 1 = .ok (.aload_n 0, 1) := by decide +kernel
theorem dX1_all_2 : decode cX1_all 2 = .ok (.getfield 39, 3) := by decide +kernel
theorem dX1_all_5 : decode cX1_all 5 = .ok (.ishl, 1) := by decide +kernel
theorem dX1_all_6 : decode cX1_all 6 = .ok (.iconst 1, 1) := by decide +kernel
theorem dX1_all_7 : decode cX1_all 7 = .ok (.isub, 1) := by decide +kernel
theorem dX1_all_8 : decode cX1_all 8 = .ok (.ireturn, 1) := by decide +kernel
theorem dX1_canMend_0 : decode cX1_canMend 0 = .ok (.aload_n 1, 1) := by decide +kernel
theorem dX1_canMend_1 : decode cX1_canMend 1 = .ok (.iconst 0, 1) := by decide +kernel
theorem dX1_canMend_2 : decode cX1_canMend 2 = .ok (.aload_n 0, 1) := by decide +kernel
theorem dX1_canMend_3 : decode cX1_canMend 3 = .ok (.getfield 27, 3) := by decide +kernel
theorem dX1_canMend_6 : decode cX1_canMend 6 = .ok (.iconst 0, 1) := by decide +kernel
theorem dX1_canMend_7 : decode cX1_canMend 7 = .ok (.bipush 10, 2) := by decide +kernel
theorem dX1_canMend_9 : decode cX1_canMend 9 = .ok (.invokestatic 33, 3) := by decide +kernel
theorem dX1_canMend_12 : decode cX1_canMend 12 = .ok (.iconst 1, 1) := by decide +kernel
theorem dX1_canMend_13 : decode cX1_canMend 13 = .ok (.istore_n 3, 1) := by decide +kernel
theorem dX1_canMend_14 : decode cX1_canMend 14 = .ok (.iconst 0, 1) := by decide +kernel
theorem dX1_canMend_15 : decode cX1_canMend 15 = .ok (.istore 4, 2) := by decide +kernel
theorem dX1_canMend_17 : decode cX1_canMend 17 = .ok (.iload 4, 2) := by decide +kernel
theorem dX1_canMend_19 : decode cX1_canMend 19 = .ok (.sipush 10000, 3) := by decide +kernel
theorem dX1_canMend_22 : decode cX1_canMend 22 = .ok (.if_icmp .ge 85, 3) := by decide +kernel
theorem dX1_canMend_25 : decode cX1_canMend 25 = .ok (.iload_n 3, 1) := by decide +kernel
theorem dX1_canMend_26 : decode cX1_canMend 26 = .ok (.ifCond .eq 81, 3) := by decide +kernel
theorem dX1_canMend_29 : decode cX1_canMend 29 = .ok (.iconst 0, 1) := by decide +kernel
theorem dX1_canMend_30 : decode cX1_canMend 30 = .ok (.istore_n 3, 1) := by decide +kernel
theorem dX1_canMend_31 : decode cX1_canMend 31 = .ok (.iconst 0, 1) := by decide +kernel
theorem dX1_canMend_32 : decode cX1_canMend 32 = .ok (.istore 5, 2) := by decide +kernel
theorem dX1_canMend_34 : decode cX1_canMend 34 = .ok (.iload 5, 2) := by decide +kernel
theorem dX1_canMend_36 : decode cX1_canMend 36 = .ok (.aload_n 0, 1) := by decide +kernel
theorem dX1_canMend_37 : decode cX1_canMend 37 = .ok (.getfield 39, 3) := by decide +kernel
theorem dX1_canMend_40 : decode cX1_canMend 40 = .ok (.if_icmp .ge 61, 3) := by decide +kernel
theorem dX1_canMend_101 : decode cX1_canMend 101 = .ok (.iinc 4 1, 3) := by decide +kernel
theorem dX1_canMend_104 : decode cX1_canMend 104 = .ok (.goto (-87), 3) := by decide +kernel
theorem dX1_canMend_107 : decode cX1_canMend 107 = .ok (.iconst 1, 1) := by decide +kernel
theorem dX1_canMend_108 : decode cX1_canMend 108 = .ok (.ireturn, 1) := by decide +kernel
theorem dX1_countPairs_0 : decode cX1_countPairs 0 = .ok (.aload_n 0, 1) := by decide +kernel
theorem dX1_countPairs_1 : decode cX1_countPairs 1 = .ok (.getfield 66, 3) := by decide +kernel
theorem dX1_countPairs_4 : decode cX1_countPairs 4 = .ok (.ifnonnull 12, 3) := by decide +kernel
theorem dX1_countPairs_7 : decode cX1_countPairs 7 = .ok (.aload_n 0, 1) := by decide +kernel
theorem dX1_countPairs_8 : decode cX1_countPairs 8 = .ok (.sipush 1024, 3) := by decide +kernel
theorem dX1_countPairs_11 : decode cX1_countPairs 11 = .ok (.newarray .int, 2) := by decide +kernel
theorem dX1_countPairs_13 : decode cX1_countPairs 13 = .ok (.putfield 66, 3) := by decide +kernel
theorem dX1_countPairs_16 : decode cX1_countPairs 16 = .ok (.iconst 0, 1) := by decide +kernel
theorem dX1_countPairs_17 : decode cX1_countPairs 17 = .ok (.istore_n 1, 1) := by decide +kernel
theorem dX1_countPairs_18 : decode cX1_countPairs 18 = .ok (.iload_n 1, 1) := by decide +kernel
theorem dX1_countPairs_19 : decode cX1_countPairs 19 = .ok (.aload_n 0, 1) := by decide +kernel
theorem dX1_countPairs_20 : decode cX1_countPairs 20 = .ok (.getfield 39, 3) := by decide +kernel
theorem dX1_countPairs_23 : decode cX1_countPairs 23 = .ok (.if_icmp .ge 40, 3) := by decide +kernel
theorem dX1_countPairs_63 : decode cX1_countPairs 63 = .ok (.return_, 1) := by decide +kernel
theorem dX1_has_0 : decode cX1_has 0 = .ok (.iload_n 1, 1) := by decide +kernel
theorem dX1_has_1 : decode cX1_has 1 = .ok (.ifCond .lt 21, 3) := by decide +kernel
theorem dX1_has_4 : decode cX1_has 4 = .ok (.iload_n 1, 1) := by decide +kernel
theorem dX1_has_5 : decode cX1_has 5 = .ok (.aload_n 0, 1) := by decide +kernel
theorem dX1_has_6 : decode cX1_has 6 = .ok (.getfield 39, 3) := by decide +kernel
theorem dX1_has_9 : decode cX1_has 9 = .ok (.if_icmp .ge 13, 3) := by decide +kernel
theorem dX1_has_22 : decode cX1_has 22 = .ok (.iconst 0, 1) := by decide +kernel
theorem dX1_has_23 : decode cX1_has 23 = .ok (.ireturn, 1) := by decide +kernel
theorem dX1_highestBid_0 : decode cX1_highestBid 0 = .ok (.iconst (-1), 1) := by decide +kernel
theorem dX1_highestBid_1 : decode cX1_highestBid 1 = .ok (.istore_n 2, 1) := by decide +kernel
theorem dX1_highestBid_2 : decode cX1_highestBid 2 = .ok (.iconst 0, 1) := by decide +kernel
theorem dX1_highestBid_3 : decode cX1_highestBid 3 = .ok (.istore_n 3, 1) := by decide +kernel
theorem dX1_highestBid_4 : decode cX1_highestBid 4 = .ok (.iload_n 3, 1) := by decide +kernel
theorem dX1_highestBid_5 : decode cX1_highestBid 5 = .ok (.aload_n 0, 1) := by decide +kernel
theorem dX1_highestBid_6 : decode cX1_highestBid 6 = .ok (.getfield 39, 3) := by decide +kernel
theorem dX1_highestBid_9 : decode cX1_highestBid 9 = .ok (.if_icmp .ge 52, 3) := by decide +kernel
theorem dX1_highestBid_61 : decode cX1_highestBid 61 = .ok (.iload_n 2, 1) := by decide +kernel
theorem dX1_highestBid_62 : decode cX1_highestBid 62 = .ok (.ireturn, 1) := by decide +kernel
theorem dX1_init_0 : decode cX1_init 0 = .ok (.aload_n 0, 1) := by decide +kernel
theorem dX1_init_1 : decode cX1_init 1 = .ok (.invokespecial 3, 3) := by decide +kernel
theorem dX1_init_4 : decode cX1_init 4 = .ok (.aload_n 0, 1) := by decide +kernel
theorem dX1_init_5 : decode cX1_init 5 = .ok (.bipush 10, 2) := by decide +kernel
theorem dX1_init_7 : decode cX1_init 7 = .ok (.newarray .int, 2) := by decide +kernel
theorem dX1_init_9 : decode cX1_init 9 = .ok (.putfield 9, 3) := by decide +kernel
theorem dX1_init_12 : decode cX1_init 12 = .ok (.aload_n 0, 1) := by decide +kernel
theorem dX1_init_13 : decode cX1_init 13 = .ok (.bipush 10, 2) := by decide +kernel
theorem dX1_init_15 : decode cX1_init 15 = .ok (.newarray .int, 2) := by decide +kernel
theorem dX1_init_17 : decode cX1_init 17 = .ok (.putfield 15, 3) := by decide +kernel
theorem dX1_init_20 : decode cX1_init 20 = .ok (.aload_n 0, 1) := by decide +kernel
theorem dX1_init_21 : decode cX1_init 21 = .ok (.bipush 10, 2) := by decide +kernel
theorem dX1_init_23 : decode cX1_init 23 = .ok (.newarray .int, 2) := by decide +kernel
theorem dX1_init_25 : decode cX1_init 25 = .ok (.putfield 18, 3) := by decide +kernel
theorem dX1_init_28 : decode cX1_init 28 = .ok (.aload_n 0, 1) := by decide +kernel
theorem dX1_init_29 : decode cX1_init 29 = .ok (.bipush 10, 2) := by decide +kernel
theorem dX1_init_31 : decode cX1_init 31 = .ok (.newarray .int, 2) := by decide +kernel
theorem dX1_init_33 : decode cX1_init 33 = .ok (.putfield 21, 3) := by decide +kernel
theorem dX1_init_36 : decode cX1_init 36 = .ok (.aload_n 0, 1) := by decide +kernel
theorem dX1_init_37 : decode cX1_init 37 = .ok (.bipush 10, 2) := by decide +kernel
theorem dX1_init_39 : decode cX1_init 39 = .ok (.newarray .int, 2) := by decide +kernel
theorem dX1_init_41 : decode cX1_init 41 = .ok (.putfield 24, 3) := by decide +kernel
theorem dX1_init_44 : decode cX1_init 44 = .ok (.aload_n 0, 1) := by decide +kernel
theorem dX1_init_45 : decode cX1_init 45 = .ok (.bipush 10, 2) := by decide +kernel
theorem dX1_init_47 : decode cX1_init 47 = .ok (.newarray .int, 2) := by decide +kernel
theorem dX1_init_49 : decode cX1_init 49 = .ok (.putfield 27, 3) := by decide +kernel
theorem dX1_init_52 : decode cX1_init 52 = .ok (.aload_n 0, 1) := by decide +kernel
theorem dX1_init_53 : decode cX1_init 53 = .ok (.bipush 10, 2) := by decide +kernel
theorem dX1_init_55 : decode cX1_init 55 = .ok (.newarray .int, 2) := by decide +kernel
theorem dX1_init_57 : decode cX1_init 57 = .ok (.putfield 30, 3) := by decide +kernel
theorem dX1_init_60 : decode cX1_init 60 = .ok (.return_, 1) := by decide +kernel
theorem dX1_isFree_0 : decode cX1_isFree 0 = .ok (.iload_n 1, 1) := by decide +kernel
theorem dX1_isFree_1 : decode cX1_isFree 1 = .ok (.ifCond .lt 9, 3) := by decide +kernel
theorem dX1_isFree_4 : decode cX1_isFree 4 = .ok (.iload_n 1, 1) := by decide +kernel
theorem dX1_isFree_5 : decode cX1_isFree 5 = .ok (.bipush 63, 2) := by decide +kernel
theorem dX1_isFree_7 : decode cX1_isFree 7 = .ok (.if_icmp .le 5, 3) := by decide +kernel
theorem dX1_isFree_10 : decode cX1_isFree 10 = .ok (.iconst 0, 1) := by decide +kernel
theorem dX1_isFree_11 : decode cX1_isFree 11 = .ok (.ireturn, 1) := by decide +kernel
theorem dX1_isFree_12 : decode cX1_isFree 12 = .ok (.iconst 0, 1) := by decide +kernel
theorem dX1_isFree_13 : decode cX1_isFree 13 = .ok (.istore_n 2, 1) := by decide +kernel
theorem dX1_isFree_14 : decode cX1_isFree 14 = .ok (.iload_n 2, 1) := by decide +kernel
theorem dX1_isFree_15 : decode cX1_isFree 15 = .ok (.aload_n 0, 1) := by decide +kernel
theorem dX1_isFree_16 : decode cX1_isFree 16 = .ok (.getfield 39, 3) := by decide +kernel
theorem dX1_isFree_19 : decode cX1_isFree 19 = .ok (.if_icmp .ge 21, 3) := by decide +kernel
theorem dX1_isFree_40 : decode cX1_isFree 40 = .ok (.iconst 1, 1) := by decide +kernel
theorem dX1_isFree_41 : decode cX1_isFree 41 = .ok (.ireturn, 1) := by decide +kernel
theorem dX1_pairUp_0 : decode cX1_pairUp 0 = .ok (.aload_n 0, 1) := by decide +kernel
theorem dX1_pairUp_1 : decode cX1_pairUp 1 = .ok (.invokevirtual 52, 3) := by decide +kernel
theorem dX1_pairUp_4 : decode cX1_pairUp 4 = .ok (.aload_n 0, 1) := by decide +kernel
theorem dX1_pairUp_5 : decode cX1_pairUp 5 = .ok (.invokevirtual 55, 3) := by decide +kernel
theorem dX1_pairUp_8 : decode cX1_pairUp 8 = .ok (.istore_n 1, 1) := by decide +kernel
theorem dX1_pairUp_9 : decode cX1_pairUp 9 = .ok (.iconst 0, 1) := by decide +kernel
theorem dX1_pairUp_10 : decode cX1_pairUp 10 = .ok (.istore_n 2, 1) := by decide +kernel
theorem dX1_pairUp_11 : decode cX1_pairUp 11 = .ok (.iload_n 2, 1) := by decide +kernel
theorem dX1_pairUp_12 : decode cX1_pairUp 12 = .ok (.aload_n 0, 1) := by decide +kernel
theorem dX1_pairUp_13 : decode cX1_pairUp 13 = .ok (.getfield 39, 3) := by decide +kernel
theorem dX1_pairUp_16 : decode cX1_pairUp 16 = .ok (.if_icmp .ge 60, 3) := by decide +kernel
theorem dX1_pairUp_76 : decode cX1_pairUp 76 = .ok (.aload_n 0, 1) := by decide +kernel
theorem dX1_pairUp_77 : decode cX1_pairUp 77 = .ok (.aload_n 0, 1) := by decide +kernel
theorem dX1_pairUp_78 : decode cX1_pairUp 78 = .ok (.invokevirtual 55, 3) := by decide +kernel
theorem dX1_pairUp_81 : decode cX1_pairUp 81 = .ok (.invokevirtual 62, 3) := by decide +kernel
theorem dX1_pairUp_84 : decode cX1_pairUp 84 = .ok (.ireturn, 1) := by decide +kernel
theorem dX1_pairsIn_0 : decode cX1_pairsIn 0 = .ok (.aload_n 0, 1) := by decide +kernel
theorem dX1_pairsIn_1 : decode cX1_pairsIn 1 = .ok (.getfield 66, 3) := by decide +kernel
theorem dX1_pairsIn_4 : decode cX1_pairsIn 4 = .ok (.ifnull 25, 3) := by decide +kernel
theorem dX1_pairsIn_7 : decode cX1_pairsIn 7 = .ok (.iload_n 1, 1) := by decide +kernel
theorem dX1_pairsIn_8 : decode cX1_pairsIn 8 = .ok (.ifCond .le 21, 3) := by decide +kernel
theorem dX1_pairsIn_29 : decode cX1_pairsIn 29 = .ok (.iconst 0, 1) := by decide +kernel
theorem dX1_pairsIn_30 : decode cX1_pairsIn 30 = .ok (.ireturn, 1) := by decide +kernel
theorem dX1_take_0 : decode cX1_take 0 = .ok (.aload_n 1, 1) := by decide +kernel
theorem dX1_take_1 : decode cX1_take 1 = .ok (.getfield 9, 3) := by decide +kernel
theorem dX1_take_4 : decode cX1_take 4 = .ok (.iconst 0, 1) := by decide +kernel
theorem dX1_take_5 : decode cX1_take 5 = .ok (.aload_n 0, 1) := by decide +kernel
theorem dX1_take_6 : decode cX1_take 6 = .ok (.getfield 9, 3) := by decide +kernel
theorem dX1_take_9 : decode cX1_take 9 = .ok (.iconst 0, 1) := by decide +kernel
theorem dX1_take_10 : decode cX1_take 10 = .ok (.bipush 10, 2) := by decide +kernel
theorem dX1_take_12 : decode cX1_take 12 = .ok (.invokestatic 33, 3) := by decide +kernel
theorem dX1_take_15 : decode cX1_take 15 = .ok (.aload_n 1, 1) := by decide +kernel
theorem dX1_take_16 : decode cX1_take 16 = .ok (.getfield 15, 3) := by decide +kernel
theorem dX1_take_19 : decode cX1_take 19 = .ok (.iconst 0, 1) := by decide +kernel
theorem dX1_take_20 : decode cX1_take 20 = .ok (.aload_n 0, 1) := by decide +kernel
theorem dX1_take_21 : decode cX1_take 21 = .ok (.getfield 15, 3) := by decide +kernel
theorem dX1_take_24 : decode cX1_take 24 = .ok (.iconst 0, 1) := by decide +kernel
theorem dX1_take_25 : decode cX1_take 25 = .ok (.bipush 10, 2) := by decide +kernel
theorem dX1_take_27 : decode cX1_take 27 = .ok (.invokestatic 33, 3) := by decide +kernel
theorem dX1_take_30 : decode cX1_take 30 = .ok (.aload_n 1, 1) := by decide +kernel
theorem dX1_take_31 : decode cX1_take 31 = .ok (.getfield 18, 3) := by decide +kernel
theorem dX1_take_34 : decode cX1_take 34 = .ok (.iconst 0, 1) := by decide +kernel
theorem dX1_take_35 : decode cX1_take 35 = .ok (.aload_n 0, 1) := by decide +kernel
theorem dX1_take_36 : decode cX1_take 36 = .ok (.getfield 18, 3) := by decide +kernel
theorem dX1_take_39 : decode cX1_take 39 = .ok (.iconst 0, 1) := by decide +kernel
theorem dX1_take_40 : decode cX1_take 40 = .ok (.bipush 10, 2) := by decide +kernel
theorem dX1_take_42 : decode cX1_take 42 = .ok (.invokestatic 33, 3) := by decide +kernel
theorem dX1_take_45 : decode cX1_take 45 = .ok (.aload_n 1, 1) := by decide +kernel
theorem dX1_take_46 : decode cX1_take 46 = .ok (.getfield 21, 3) := by decide +kernel
theorem dX1_take_49 : decode cX1_take 49 = .ok (.iconst 0, 1) := by decide +kernel
theorem dX1_take_50 : decode cX1_take 50 = .ok (.aload_n 0, 1) := by decide +kernel
theorem dX1_take_51 : decode cX1_take 51 = .ok (.getfield 21, 3) := by decide +kernel
theorem dX1_take_54 : decode cX1_take 54 = .ok (.iconst 0, 1) := by decide +kernel
theorem dX1_take_55 : decode cX1_take 55 = .ok (.bipush 10, 2) := by decide +kernel
theorem dX1_take_57 : decode cX1_take 57 = .ok (.invokestatic 33, 3) := by decide +kernel
theorem dX1_take_60 : decode cX1_take 60 = .ok (.aload_n 1, 1) := by decide +kernel
theorem dX1_take_61 : decode cX1_take 61 = .ok (.getfield 24, 3) := by decide +kernel
theorem dX1_take_64 : decode cX1_take 64 = .ok (.iconst 0, 1) := by decide +kernel
theorem dX1_take_65 : decode cX1_take 65 = .ok (.aload_n 0, 1) := by decide +kernel
theorem dX1_take_66 : decode cX1_take 66 = .ok (.getfield 24, 3) := by decide +kernel
theorem dX1_take_69 : decode cX1_take 69 = .ok (.iconst 0, 1) := by decide +kernel
theorem dX1_take_70 : decode cX1_take 70 = .ok (.bipush 10, 2) := by decide +kernel
theorem dX1_take_72 : decode cX1_take 72 = .ok (.invokestatic 33, 3) := by decide +kernel
theorem dX1_take_75 : decode cX1_take 75 = .ok (.aload_n 0, 1) := by decide +kernel
theorem dX1_take_76 : decode cX1_take 76 = .ok (.aload_n 1, 1) := by decide +kernel
theorem dX1_take_77 : decode cX1_take 77 = .ok (.getfield 39, 3) := by decide +kernel
theorem dX1_take_80 : decode cX1_take 80 = .ok (.putfield 39, 3) := by decide +kernel
theorem dX1_take_83 : decode cX1_take 83 = .ok (.return_, 1) := by decide +kernel
theorem dX10_init_0 : decode cX10_init 0 = .ok (.aload_n 0, 1) := by decide +kernel
theorem dX10_init_1 : decode cX10_init 1 = .ok (.invokespecial 3, 3) := by decide +kernel
theorem dX10_init_4 : decode cX10_init 4 = .ok (.aload_n 0, 1) := by decide +kernel
theorem dX10_init_5 : decode cX10_init 5 = .ok (.new 9, 3) := by decide +kernel
theorem dX10_init_8 : decode cX10_init 8 = .ok (.dup, 1) := by decide +kernel
theorem dX10_init_9 : decode cX10_init 9 = .ok (.invokespecial 11, 3) := by decide +kernel
theorem dX10_init_12 : decode cX10_init 12 = .ok (.putfield 12, 3) := by decide +kernel
theorem dX10_init_15 : decode cX10_init 15 = .ok (.aload_n 0, 1) := by decide +kernel
theorem dX10_init_16 : decode cX10_init 16 = .ok (.new 18, 3) := by decide +kernel
theorem dX10_init_19 : decode cX10_init 19 = .ok (.dup, 1) := by decide +kernel
theorem dX10_init_20 : decode cX10_init 20 = .ok (.invokespecial 20, 3) := by decide +kernel
theorem dX10_init_23 : decode cX10_init 23 = .ok (.putfield 21, 3) := by decide +kernel
theorem dX10_init_26 : decode cX10_init 26 = .ok (.aload_n 0, 1) := by decide +kernel
theorem dX10_init_27 : decode cX10_init 27 = .ok (.new 25, 3) := by decide +kernel
theorem dX10_init_30 : decode cX10_init 30 = .ok (.dup, 1) := by decide +kernel
theorem dX10_init_31 : decode cX10_init 31 = .ok (.invokespecial 27, 3) := by decide +kernel
theorem dX10_init_34 : decode cX10_init 34 = .ok (.putfield 28, 3) := by decide +kernel
theorem dX10_init_37 : decode cX10_init 37 = .ok (.aload_n 0, 1) := by decide +kernel
theorem dX10_init_38 : decode cX10_init 38 = .ok (.new 32, 3) := by decide +kernel
theorem dX10_init_41 : decode cX10_init 41 = .ok (.dup, 1) := by decide +kernel
theorem dX10_init_42 : decode cX10_init 42 = .ok (.invokespecial 34, 3) := by decide +kernel
theorem dX10_init_45 : decode cX10_init 45 = .ok (.putfield 35, 3) := by decide +kernel
theorem dX10_init_48 : decode cX10_init 48 = .ok (.aload_n 0, 1) := by decide +kernel
theorem dX10_init_49 : decode cX10_init 49 = .ok (.new 39, 3) := by decide +kernel
theorem dX10_init_52 : decode cX10_init 52 = .ok (.dup, 1) := by decide +kernel
theorem dX10_init_53 : decode cX10_init 53 = .ok (.invokespecial 41, 3) := by decide +kernel
theorem dX10_init_56 : decode cX10_init 56 = .ok (.putfield 42, 3) := by decide +kernel
theorem dX10_init_59 : decode cX10_init 59 = .ok (.aload_n 0, 1) := by decide +kernel
theorem dX10_init_60 : decode cX10_init 60 = .ok (.new 39, 3) := by decide +kernel
theorem dX10_init_63 : decode cX10_init 63 = .ok (.dup, 1) := by decide +kernel
theorem dX10_init_64 : decode cX10_init 64 = .ok (.invokespecial 41, 3) := by decide +kernel
theorem dX10_init_67 : decode cX10_init 67 = .ok (.putfield 46, 3) := by decide +kernel
theorem dX10_init_70 : decode cX10_init 70 = .ok (.aload_n 0, 1) := by decide +kernel
theorem dX10_init_71 : decode cX10_init 71 = .ok (.new 49, 3) := by decide +kernel
theorem dX10_init_74 : decode cX10_init 74 = .ok (.dup, 1) := by decide +kernel
theorem dX10_init_75 : decode cX10_init 75 = .ok (.invokespecial 51, 3) := by decide +kernel
theorem dX10_init_78 : decode cX10_init 78 = .ok (.putfield 52, 3) := by decide +kernel
theorem dX10_init_81 : decode cX10_init 81 = .ok (.aload_n 0, 1) := by decide +kernel
theorem dX10_init_82 : decode cX10_init 82 = .ok (.new 56, 3) := by decide +kernel
theorem dX10_init_85 : decode cX10_init 85 = .ok (.dup, 1) := by decide +kernel
theorem dX10_init_86 : decode cX10_init 86 = .ok (.invokespecial 58, 3) := by decide +kernel
theorem dX10_init_89 : decode cX10_init 89 = .ok (.putfield 59, 3) := by decide +kernel
theorem dX10_init_92 : decode cX10_init 92 = .ok (.aload_n 0, 1) := by decide +kernel
theorem dX10_init_93 : decode cX10_init 93 = .ok (.sipush 900, 3) := by decide +kernel
theorem dX10_init_96 : decode cX10_init 96 = .ok (.newarray .int, 2) := by decide +kernel
theorem dX10_init_98 : decode cX10_init 98 = .ok (.putfield 63, 3) := by decide +kernel
theorem dX10_init_101 : decode cX10_init 101 = .ok (.aload_n 0, 1) := by decide +kernel
theorem dX10_init_102 : decode cX10_init 102 = .ok (.bipush 20, 2) := by decide +kernel
theorem dX10_init_104 : decode cX10_init 104 = .ok (.putfield 67, 3) := by decide +kernel
theorem dX10_init_107 : decode cX10_init 107 = .ok (.aload_n 0, 1) := by decide +kernel
theorem dX10_init_108 : decode cX10_init 108 = .ok (.bipush 30, 2) := by decide +kernel
theorem dX10_init_110 : decode cX10_init 110 = .ok (.putfield 71, 3) := by decide +kernel
theorem dX10_init_113 : decode cX10_init 113 = .ok (.aload_n 0, 1) := by decide +kernel
theorem dX10_init_114 : decode cX10_init 114 = .ok (.bipush 10, 2) := by decide +kernel
theorem dX10_init_116 : decode cX10_init 116 = .ok (.newarray .int, 2) := by decide +kernel
theorem dX10_init_118 : decode cX10_init 118 = .ok (.putfield 74, 3) := by decide +kernel
theorem dX10_init_121 : decode cX10_init 121 = .ok (.aload_n 0, 1) := by decide +kernel
theorem dX10_init_122 : decode cX10_init 122 = .ok (.bipush 10, 2) := by decide +kernel
theorem dX10_init_124 : decode cX10_init 124 = .ok (.newarray .int, 2) := by decide +kernel
theorem dX10_init_126 : decode cX10_init 126 = .ok (.putfield 77, 3) := by decide +kernel
theorem dX10_init_129 : decode cX10_init 129 = .ok (.aload_n 0, 1) := by decide +kernel
theorem dX10_init_130 : decode cX10_init 130 = .ok (.bipush 10, 2) := by decide +kernel
theorem dX10_init_132 : decode cX10_init 132 = .ok (.newarray .int, 2) := by decide +kernel
theorem dX10_init_134 : decode cX10_init 134 = .ok (.putfield 80, 3) := by decide +kernel
theorem dX10_init_137 : decode cX10_init 137 = .ok (.aload_n 0, 1) := by decide +kernel
theorem dX10_init_138 : decode cX10_init 138 = .ok (.bipush 10, 2) := by decide +kernel
theorem dX10_init_140 : decode cX10_init 140 = .ok (.newarray .int, 2) := by decide +kernel
theorem dX10_init_142 : decode cX10_init 142 = .ok (.putfield 83, 3) := by decide +kernel
theorem dX10_init_145 : decode cX10_init 145 = .ok (.return_, 1) := by decide +kernel
theorem dX10_take_0 : decode cX10_take 0 = .ok (.aload_n 0, 1) := by decide +kernel
theorem dX10_take_1 : decode cX10_take 1 = .ok (.getfield 12, 3) := by decide +kernel
theorem dX10_take_4 : decode cX10_take 4 = .ok (.aload_n 1, 1) := by decide +kernel
theorem dX10_take_5 : decode cX10_take 5 = .ok (.getfield 12, 3) := by decide +kernel
theorem dX10_take_8 : decode cX10_take 8 = .ok (.invokevirtual 86, 3) := by decide +kernel
theorem dX10_take_11 : decode cX10_take 11 = .ok (.aload_n 0, 1) := by decide +kernel
theorem dX10_take_12 : decode cX10_take 12 = .ok (.getfield 21, 3) := by decide +kernel
theorem dX10_take_15 : decode cX10_take 15 = .ok (.aload_n 1, 1) := by decide +kernel
theorem dX10_take_16 : decode cX10_take 16 = .ok (.getfield 21, 3) := by decide +kernel
theorem dX10_take_19 : decode cX10_take 19 = .ok (.invokevirtual 90, 3) := by decide +kernel
theorem dX10_take_22 : decode cX10_take 22 = .ok (.aload_n 0, 1) := by decide +kernel
theorem dX10_take_23 : decode cX10_take 23 = .ok (.getfield 28, 3) := by decide +kernel
theorem dX10_take_26 : decode cX10_take 26 = .ok (.aload_n 1, 1) := by decide +kernel
theorem dX10_take_27 : decode cX10_take 27 = .ok (.getfield 28, 3) := by decide +kernel
theorem dX10_take_30 : decode cX10_take 30 = .ok (.invokevirtual 93, 3) := by decide +kernel
theorem dX10_take_33 : decode cX10_take 33 = .ok (.aload_n 0, 1) := by decide +kernel
theorem dX10_take_34 : decode cX10_take 34 = .ok (.getfield 35, 3) := by decide +kernel
theorem dX10_take_37 : decode cX10_take 37 = .ok (.aload_n 1, 1) := by decide +kernel
theorem dX10_take_38 : decode cX10_take 38 = .ok (.getfield 35, 3) := by decide +kernel
theorem dX10_take_41 : decode cX10_take 41 = .ok (.invokevirtual 96, 3) := by decide +kernel
theorem dX10_take_44 : decode cX10_take 44 = .ok (.aload_n 0, 1) := by decide +kernel
theorem dX10_take_45 : decode cX10_take 45 = .ok (.getfield 42, 3) := by decide +kernel
theorem dX10_take_48 : decode cX10_take 48 = .ok (.aload_n 1, 1) := by decide +kernel
theorem dX10_take_49 : decode cX10_take 49 = .ok (.getfield 42, 3) := by decide +kernel
theorem dX10_take_52 : decode cX10_take 52 = .ok (.invokevirtual 99, 3) := by decide +kernel
theorem dX10_take_55 : decode cX10_take 55 = .ok (.aload_n 0, 1) := by decide +kernel
theorem dX10_take_56 : decode cX10_take 56 = .ok (.getfield 46, 3) := by decide +kernel
theorem dX10_take_59 : decode cX10_take 59 = .ok (.aload_n 1, 1) := by decide +kernel
theorem dX10_take_60 : decode cX10_take 60 = .ok (.getfield 46, 3) := by decide +kernel
theorem dX10_take_63 : decode cX10_take 63 = .ok (.invokevirtual 99, 3) := by decide +kernel
theorem dX10_take_66 : decode cX10_take 66 = .ok (.aload_n 0, 1) := by decide +kernel
theorem dX10_take_67 : decode cX10_take 67 = .ok (.getfield 52, 3) := by decide +kernel
theorem dX10_take_70 : decode cX10_take 70 = .ok (.aload_n 1, 1) := by decide +kernel
theorem dX10_take_71 : decode cX10_take 71 = .ok (.getfield 52, 3) := by decide +kernel
theorem dX10_take_74 : decode cX10_take 74 = .ok (.invokevirtual 102, 3) := by decide +kernel
theorem dX10_take_77 : decode cX10_take 77 = .ok (.aload_n 0, 1) := by decide +kernel
theorem dX10_take_78 : decode cX10_take 78 = .ok (.getfield 59, 3) := by decide +kernel
theorem dX10_take_81 : decode cX10_take 81 = .ok (.aload_n 1, 1) := by decide +kernel
theorem dX10_take_82 : decode cX10_take 82 = .ok (.getfield 59, 3) := by decide +kernel
theorem dX10_take_85 : decode cX10_take 85 = .ok (.invokevirtual 105, 3) := by decide +kernel
theorem dX10_take_88 : decode cX10_take 88 = .ok (.aload_n 1, 1) := by decide +kernel
theorem dX10_take_89 : decode cX10_take 89 = .ok (.getfield 63, 3) := by decide +kernel
theorem dX10_take_92 : decode cX10_take 92 = .ok (.iconst 0, 1) := by decide +kernel
theorem dX10_take_93 : decode cX10_take 93 = .ok (.aload_n 0, 1) := by decide +kernel
theorem dX10_take_94 : decode cX10_take 94 = .ok (.getfield 63, 3) := by decide +kernel
theorem dX10_take_97 : decode cX10_take 97 = .ok (.iconst 0, 1) := by decide +kernel
theorem dX10_take_98 : decode cX10_take 98 = .ok (.sipush 900, 3) := by decide +kernel
theorem dX10_take_101 : decode cX10_take 101 = .ok (.invokestatic 108, 3) := by decide +kernel
theorem dX10_take_104 : decode cX10_take 104 = .ok (.aload_n 0, 1) := by decide +kernel
theorem dX10_take_105 : decode cX10_take 105 = .ok (.aload_n 1, 1) := by decide +kernel
theorem dX10_take_106 : decode cX10_take 106 = .ok (.getfield 114, 3) := by decide +kernel
theorem dX10_take_109 : decode cX10_take 109 = .ok (.putfield 114, 3) := by decide +kernel
theorem dX10_take_112 : decode cX10_take 112 = .ok (.aload_n 0, 1) := by decide +kernel
theorem dX10_take_113 : decode cX10_take 113 = .ok (.aload_n 1, 1) := by decide +kernel
theorem dX10_take_114 : decode cX10_take 114 = .ok (.getfield 117, 3) := by decide +kernel
theorem dX10_take_117 : decode cX10_take 117 = .ok (.putfield 117, 3) := by decide +kernel
theorem dX10_take_120 : decode cX10_take 120 = .ok (.aload_n 0, 1) := by decide +kernel
theorem dX10_take_121 : decode cX10_take 121 = .ok (.aload_n 1, 1) := by decide +kernel
theorem dX10_take_122 : decode cX10_take 122 = .ok (.getfield 67, 3) := by decide +kernel
theorem dX10_take_125 : decode cX10_take 125 = .ok (.putfield 67, 3) := by decide +kernel
theorem dX10_take_128 : decode cX10_take 128 = .ok (.aload_n 0, 1) := by decide +kernel
theorem dX10_take_129 : decode cX10_take 129 = .ok (.aload_n 1, 1) := by decide +kernel
theorem dX10_take_130 : decode cX10_take 130 = .ok (.getfield 71, 3) := by decide +kernel
theorem dX10_take_133 : decode cX10_take 133 = .ok (.putfield 71, 3) := by decide +kernel
theorem dX10_take_136 : decode cX10_take 136 = .ok (.return_, 1) := by decide +kernel
theorem dX10_tellOfAll_0 : decode cX10_tellOfAll 0 = .ok (.iload_n 1, 1) := by decide +kernel
theorem dX10_tellOfAll_1 : decode cX10_tellOfAll 1 = .ok (.tableswitch 78 0 4 #[35, 46, 54, 62, 70], 35) := by decide +kernel
theorem dX10_tellOfAll_36 : decode cX10_tellOfAll 36 = .ok (.aload_n 0, 1) := by decide +kernel
theorem dX10_tellOfAll_37 : decode cX10_tellOfAll 37 = .ok (.getfield 12, 3) := by decide +kernel
theorem dX10_tellOfAll_40 : decode cX10_tellOfAll 40 = .ok (.iload_n 2, 1) := by decide +kernel
theorem dX10_tellOfAll_41 : decode cX10_tellOfAll 41 = .ok (.putfield 120, 3) := by decide +kernel
theorem dX10_tellOfAll_44 : decode cX10_tellOfAll 44 = .ok (.goto 43, 3) := by decide +kernel
theorem dX10_tellOfAll_47 : decode cX10_tellOfAll 47 = .ok (.aload_n 0, 1) := by decide +kernel
theorem dX10_tellOfAll_48 : decode cX10_tellOfAll 48 = .ok (.iload_n 2, 1) := by decide +kernel
theorem dX10_tellOfAll_49 : decode cX10_tellOfAll 49 = .ok (.putfield 114, 3) := by decide +kernel
theorem dX10_tellOfAll_52 : decode cX10_tellOfAll 52 = .ok (.goto 35, 3) := by decide +kernel
theorem dX10_tellOfAll_55 : decode cX10_tellOfAll 55 = .ok (.aload_n 0, 1) := by decide +kernel
theorem dX10_tellOfAll_56 : decode cX10_tellOfAll 56 = .ok (.iload_n 2, 1) := by decide +kernel
theorem dX10_tellOfAll_57 : decode cX10_tellOfAll 57 = .ok (.putfield 117, 3) := by decide +kernel
theorem dX10_tellOfAll_60 : decode cX10_tellOfAll 60 = .ok (.goto 27, 3) := by decide +kernel
theorem dX10_tellOfAll_63 : decode cX10_tellOfAll 63 = .ok (.aload_n 0, 1) := by decide +kernel
theorem dX10_tellOfAll_64 : decode cX10_tellOfAll 64 = .ok (.iload_n 2, 1) := by decide +kernel
theorem dX10_tellOfAll_65 : decode cX10_tellOfAll 65 = .ok (.putfield 67, 3) := by decide +kernel
theorem dX10_tellOfAll_68 : decode cX10_tellOfAll 68 = .ok (.goto 19, 3) := by decide +kernel
theorem dX10_tellOfAll_71 : decode cX10_tellOfAll 71 = .ok (.aload_n 0, 1) := by decide +kernel
theorem dX10_tellOfAll_72 : decode cX10_tellOfAll 72 = .ok (.iload_n 2, 1) := by decide +kernel
theorem dX10_tellOfAll_73 : decode cX10_tellOfAll 73 = .ok (.putfield 71, 3) := by decide +kernel
theorem dX10_tellOfAll_76 : decode cX10_tellOfAll 76 = .ok (.goto 11, 3) := by decide +kernel
theorem dX10_tellOfAll_87 : decode cX10_tellOfAll 87 = .ok (.return_, 1) := by decide +kernel
theorem dX11_ask_0 : decode cX11_ask 0 = .ok (.iload_n 1, 1) := by decide +kernel
theorem dX11_ask_1 : decode cX11_ask 1 = .ok (.iconst 1, 1) := by decide +kernel
theorem dX11_ask_2 : decode cX11_ask 2 = .ok (.if_icmp .lt 18, 3) := by decide +kernel
theorem dX11_ask_5 : decode cX11_ask 5 = .ok (.iload_n 1, 1) := by decide +kernel
theorem dX11_ask_6 : decode cX11_ask 6 = .ok (.bipush 10, 2) := by decide +kernel
theorem dX11_ask_8 : decode cX11_ask 8 = .ok (.if_icmp .gt 12, 3) := by decide +kernel
theorem dX11_ask_11 : decode cX11_ask 11 = .ok (.iload_n 2, 1) := by decide +kernel
theorem dX11_ask_12 : decode cX11_ask 12 = .ok (.ifCond .lt 8, 3) := by decide +kernel
theorem dX11_ask_15 : decode cX11_ask 15 = .ok (.iload_n 2, 1) := by decide +kernel
theorem dX11_ask_16 : decode cX11_ask 16 = .ok (.iconst 1, 1) := by decide +kernel
theorem dX11_ask_17 : decode cX11_ask 17 = .ok (.if_icmp .le 5, 3) := by decide +kernel
theorem dX11_ask_20 : decode cX11_ask 20 = .ok (.iconst (-1), 1) := by decide +kernel
theorem dX11_ask_21 : decode cX11_ask 21 = .ok (.ireturn, 1) := by decide +kernel
theorem dX11_ask_22 : decode cX11_ask 22 = .ok (.aload_n 0, 1) := by decide +kernel
theorem dX11_ask_23 : decode cX11_ask 23 = .ok (.getfield 61, 3) := by decide +kernel
theorem dX11_ask_26 : decode cX11_ask 26 = .ok (.aload_n 0, 1) := by decide +kernel
theorem dX11_ask_27 : decode cX11_ask 27 = .ok (.getfield 12, 3) := by decide +kernel
theorem dX11_ask_30 : decode cX11_ask 30 = .ok (.iload_n 1, 1) := by decide +kernel
theorem dX11_ask_31 : decode cX11_ask 31 = .ok (.invokevirtual 358, 3) := by decide +kernel
theorem dX11_ask_34 : decode cX11_ask 34 = .ok (.lstore_n 3, 1) := by decide +kernel
theorem dX11_ask_35 : decode cX11_ask 35 = .ok (.lload_n 3, 1) := by decide +kernel
theorem dX11_ask_36 : decode cX11_ask 36 = .ok (.lconst 0, 1) := by decide +kernel
theorem dX11_ask_37 : decode cX11_ask 37 = .ok (.lcmp, 1) := by decide +kernel
theorem dX11_ask_38 : decode cX11_ask 38 = .ok (.ifCond .ne 5, 3) := by decide +kernel
theorem dX11_ask_41 : decode cX11_ask 41 = .ok (.iconst (-1), 1) := by decide +kernel
theorem dX11_ask_42 : decode cX11_ask 42 = .ok (.ireturn, 1) := by decide +kernel
theorem dX11_been_0 : decode cX11_been 0 = .ok (.iload_n 1, 1) := by decide +kernel
theorem dX11_been_1 : decode cX11_been 1 = .ok (.iconst 1, 1) := by decide +kernel
theorem dX11_been_2 : decode cX11_been 2 = .ok (.if_icmp .lt 18, 3) := by decide +kernel
theorem dX11_been_5 : decode cX11_been 5 = .ok (.iload_n 1, 1) := by decide +kernel
theorem dX11_been_6 : decode cX11_been 6 = .ok (.bipush 10, 2) := by decide +kernel
theorem dX11_been_8 : decode cX11_been 8 = .ok (.if_icmp .gt 12, 3) := by decide +kernel
theorem dX11_been_11 : decode cX11_been 11 = .ok (.iload_n 2, 1) := by decide +kernel
theorem dX11_been_12 : decode cX11_been 12 = .ok (.ifCond .lt 8, 3) := by decide +kernel
theorem dX11_been_15 : decode cX11_been 15 = .ok (.iload_n 2, 1) := by decide +kernel
theorem dX11_been_16 : decode cX11_been 16 = .ok (.iload_n 1, 1) := by decide +kernel
theorem dX11_been_17 : decode cX11_been 17 = .ok (.if_icmp .lt 5, 3) := by decide +kernel
theorem dX11_been_20 : decode cX11_been 20 = .ok (.iconst (-1), 1) := by decide +kernel
theorem dX11_been_21 : decode cX11_been 21 = .ok (.ireturn, 1) := by decide +kernel
theorem dX11_been_22 : decode cX11_been 22 = .ok (.aload_n 0, 1) := by decide +kernel
theorem dX11_been_23 : decode cX11_been 23 = .ok (.getfield 61, 3) := by decide +kernel
theorem dX11_been_26 : decode cX11_been 26 = .ok (.aload_n 0, 1) := by decide +kernel
theorem dX11_been_27 : decode cX11_been 27 = .ok (.getfield 12, 3) := by decide +kernel
theorem dX11_been_30 : decode cX11_been 30 = .ok (.iload_n 1, 1) := by decide +kernel
theorem dX11_been_31 : decode cX11_been 31 = .ok (.invokevirtual 358, 3) := by decide +kernel
theorem dX11_been_34 : decode cX11_been 34 = .ok (.pop2, 1) := by decide +kernel
theorem dX11_been_35 : decode cX11_been 35 = .ok (.iconst 0, 1) := by decide +kernel
theorem dX11_been_36 : decode cX11_been 36 = .ok (.istore_n 3, 1) := by decide +kernel
theorem dX11_been_37 : decode cX11_been 37 = .ok (.iconst 0, 1) := by decide +kernel
theorem dX11_been_38 : decode cX11_been 38 = .ok (.istore 4, 2) := by decide +kernel
theorem dX11_been_40 : decode cX11_been 40 = .ok (.iload 4, 2) := by decide +kernel
theorem dX11_been_42 : decode cX11_been 42 = .ok (.aload_n 0, 1) := by decide +kernel
theorem dX11_been_43 : decode cX11_been 43 = .ok (.getfield 12, 3) := by decide +kernel
theorem dX11_been_46 : decode cX11_been 46 = .ok (.getfield 79, 3) := by decide +kernel
theorem dX11_been_49 : decode cX11_been 49 = .ok (.getfield 89, 3) := by decide +kernel
theorem dX11_been_52 : decode cX11_been 52 = .ok (.if_icmp .ge 31, 3) := by decide +kernel
theorem dX11_been_83 : decode cX11_been 83 = .ok (.iload_n 3, 1) := by decide +kernel
theorem dX11_been_84 : decode cX11_been 84 = .ok (.ireturn, 1) := by decide +kernel
theorem dX11_best_0 : decode cX11_best 0 = .ok (.aload_n 0, 1) := by decide +kernel
theorem dX11_best_1 : decode cX11_best 1 = .ok (.getfield 12, 3) := by decide +kernel
theorem dX11_best_4 : decode cX11_best 4 = .ok (.getfield 79, 3) := by decide +kernel
theorem dX11_best_7 : decode cX11_best 7 = .ok (.iload_n 1, 1) := by decide +kernel
theorem dX11_best_8 : decode cX11_best 8 = .ok (.invokevirtual 111, 3) := by decide +kernel
theorem dX11_best_11 : decode cX11_best 11 = .ok (.ifCond .eq 14, 3) := by decide +kernel
theorem dX11_best_25 : decode cX11_best 25 = .ok (.iconst (-1), 1) := by decide +kernel
theorem dX11_best_26 : decode cX11_best 26 = .ok (.ireturn, 1) := by decide +kernel
theorem dX11_book_0 : decode cX11_book 0 = .ok (.iload_n 1, 1) := by decide +kernel
theorem dX11_book_1 : decode cX11_book 1 = .ok (.ifCond .lt 34, 3) := by decide +kernel
theorem dX11_book_4 : decode cX11_book 4 = .ok (.iload_n 1, 1) := by decide +kernel
theorem dX11_book_5 : decode cX11_book 5 = .ok (.aload_n 0, 1) := by decide +kernel
theorem dX11_book_6 : decode cX11_book 6 = .ok (.getfield 12, 3) := by decide +kernel
theorem dX11_book_9 : decode cX11_book 9 = .ok (.getfield 69, 3) := by decide +kernel
theorem dX11_book_12 : decode cX11_book 12 = .ok (.getfield 297, 3) := by decide +kernel
theorem dX11_book_15 : decode cX11_book 15 = .ok (.if_icmp .ge 20, 3) := by decide +kernel
theorem dX11_book_35 : decode cX11_book 35 = .ok (.iconst (-1), 1) := by decide +kernel
theorem dX11_book_36 : decode cX11_book 36 = .ok (.ireturn, 1) := by decide +kernel
theorem dX11_clue_0 : decode cX11_clue 0 = .ok (.aload_n 0, 1) := by decide +kernel
theorem dX11_clue_1 : decode cX11_clue 1 = .ok (.getfield 12, 3) := by decide +kernel
theorem dX11_clue_4 : decode cX11_clue 4 = .ok (.getfield 341, 3) := by decide +kernel
theorem dX11_clue_7 : decode cX11_clue 7 = .ok (.astore_n 3, 1) := by decide +kernel
theorem dX11_clue_8 : decode cX11_clue 8 = .ok (.iload_n 1, 1) := by decide +kernel
theorem dX11_clue_9 : decode cX11_clue 9 = .ok (.iconst (-1), 1) := by decide +kernel
theorem dX11_clue_10 : decode cX11_clue 10 = .ok (.if_icmp .ne 10, 3) := by decide +kernel
theorem dX11_clue_13 : decode cX11_clue 13 = .ok (.aload_n 3, 1) := by decide +kernel
theorem dX11_clue_14 : decode cX11_clue 14 = .ok (.iconst 0, 1) := by decide +kernel
theorem dX11_clue_15 : decode cX11_clue 15 = .ok (.putfield 345, 3) := by decide +kernel
theorem dX11_clue_18 : decode cX11_clue 18 = .ok (.iconst 0, 1) := by decide +kernel
theorem dX11_clue_19 : decode cX11_clue 19 = .ok (.ireturn, 1) := by decide +kernel
theorem dX11_clue_20 : decode cX11_clue 20 = .ok (.iload_n 2, 1) := by decide +kernel
theorem dX11_clue_21 : decode cX11_clue 21 = .ok (.ifCond .eq 24, 3) := by decide +kernel
theorem dX11_clue_24 : decode cX11_clue 24 = .ok (.iload_n 2, 1) := by decide +kernel
theorem dX11_clue_25 : decode cX11_clue 25 = .ok (.aload_n 0, 1) := by decide +kernel
theorem dX11_clue_26 : decode cX11_clue 26 = .ok (.getfield 12, 3) := by decide +kernel
theorem dX11_clue_29 : decode cX11_clue 29 = .ok (.getfield 79, 3) := by decide +kernel
theorem dX11_clue_32 : decode cX11_clue 32 = .ok (.invokevirtual 348, 3) := by decide +kernel
theorem dX11_clue_35 : decode cX11_clue 35 = .ok (.iconst (-1), 1) := by decide +kernel
theorem dX11_clue_36 : decode cX11_clue 36 = .ok (.ixor, 1) := by decide +kernel
theorem dX11_clue_37 : decode cX11_clue 37 = .ok (.iand, 1) := by decide +kernel
theorem dX11_clue_38 : decode cX11_clue 38 = .ok (.ifCond .ne 7, 3) := by decide +kernel
theorem dX11_clue_45 : decode cX11_clue 45 = .ok (.iconst 0, 1) := by decide +kernel
theorem dX11_clue_46 : decode cX11_clue 46 = .ok (.istore 4, 2) := by decide +kernel
theorem dX11_clue_48 : decode cX11_clue 48 = .ok (.iload_n 1, 1) := by decide +kernel
theorem dX11_clue_49 : decode cX11_clue 49 = .ok (.ifCond .lt 23, 3) := by decide +kernel
theorem dX11_clue_52 : decode cX11_clue 52 = .ok (.iload_n 1, 1) := by decide +kernel
theorem dX11_clue_53 : decode cX11_clue 53 = .ok (.bipush 10, 2) := by decide +kernel
theorem dX11_clue_55 : decode cX11_clue 55 = .ok (.if_icmp .ge 17, 3) := by decide +kernel
theorem dX11_clue_58 : decode cX11_clue 58 = .ok (.iload 4, 2) := by decide +kernel
theorem dX11_clue_60 : decode cX11_clue 60 = .ok (.ifCond .eq 12, 3) := by decide +kernel
theorem dX11_clue_72 : decode cX11_clue 72 = .ok (.iconst (-1), 1) := by decide +kernel
theorem dX11_clue_73 : decode cX11_clue 73 = .ok (.ireturn, 1) := by decide +kernel
theorem dX11_end_0 : decode cX11_end 0 = .ok (.iload_n 1, 1) := by decide +kernel
theorem dX11_end_1 : decode cX11_end 1 = .ok (.ifCond .lt 14, 3) := by decide +kernel
theorem dX11_end_4 : decode cX11_end 4 = .ok (.iload_n 1, 1) := by decide +kernel
theorem dX11_end_5 : decode cX11_end 5 = .ok (.aload_n 0, 1) := by decide +kernel
theorem dX11_end_6 : decode cX11_end 6 = .ok (.getfield 19, 3) := by decide +kernel
theorem dX11_end_9 : decode cX11_end 9 = .ok (.getfield 126, 3) := by decide +kernel
theorem dX11_end_12 : decode cX11_end 12 = .ok (.if_icmp .le 5, 3) := by decide +kernel
theorem dX11_end_15 : decode cX11_end 15 = .ok (.iconst 0, 1) := by decide +kernel
theorem dX11_end_16 : decode cX11_end 16 = .ok (.ireturn, 1) := by decide +kernel
theorem dX11_end_17 : decode cX11_end 17 = .ok (.aload_n 0, 1) := by decide +kernel
theorem dX11_end_18 : decode cX11_end 18 = .ok (.getfield 19, 3) := by decide +kernel
theorem dX11_end_21 : decode cX11_end 21 = .ok (.iload_n 1, 1) := by decide +kernel
theorem dX11_end_22 : decode cX11_end 22 = .ok (.putfield 126, 3) := by decide +kernel
theorem dX11_end_25 : decode cX11_end 25 = .ok (.iconst 1, 1) := by decide +kernel
theorem dX11_end_26 : decode cX11_end 26 = .ok (.ireturn, 1) := by decide +kernel
theorem dX11_far_0 : decode cX11_far 0 = .ok (.aload_n 0, 1) := by decide +kernel
theorem dX11_far_1 : decode cX11_far 1 = .ok (.getfield 12, 3) := by decide +kernel
theorem dX11_far_4 : decode cX11_far 4 = .ok (.getfield 79, 3) := by decide +kernel
theorem dX11_far_7 : decode cX11_far 7 = .ok (.iload_n 1, 1) := by decide +kernel
theorem dX11_far_8 : decode cX11_far 8 = .ok (.invokevirtual 111, 3) := by decide +kernel
theorem dX11_far_11 : decode cX11_far 11 = .ok (.ifCond .eq 17, 3) := by decide +kernel
theorem dX11_far_28 : decode cX11_far 28 = .ok (.iconst (-1), 1) := by decide +kernel
theorem dX11_far_29 : decode cX11_far 29 = .ok (.ireturn, 1) := by decide +kernel
theorem dX11_fault_0 : decode cX11_fault 0 = .ok (.iload_n 1, 1) := by decide +kernel
theorem dX11_fault_1 : decode cX11_fault 1 = .ok (.ifCond .ne 11, 3) := by decide +kernel
theorem dX11_fault_4 : decode cX11_fault 4 = .ok (.aload_n 0, 1) := by decide +kernel
theorem dX11_fault_5 : decode cX11_fault 5 = .ok (.getfield 19, 3) := by decide +kernel
theorem dX11_fault_8 : decode cX11_fault 8 = .ok (.getfield 145, 3) := by decide +kernel
theorem dX11_fault_11 : decode cX11_fault 11 = .ok (.ireturn, 1) := by decide +kernel
theorem dX11_fault_12 : decode cX11_fault 12 = .ok (.iload_n 1, 1) := by decide +kernel
theorem dX11_fault_13 : decode cX11_fault 13 = .ok (.iconst 1, 1) := by decide +kernel
theorem dX11_fault_14 : decode cX11_fault 14 = .ok (.if_icmp .ne 13, 3) := by decide +kernel
theorem dX11_fault_17 : decode cX11_fault 17 = .ok (.aload_n 0, 1) := by decide +kernel
theorem dX11_fault_18 : decode cX11_fault 18 = .ok (.getfield 19, 3) := by decide +kernel
theorem dX11_fault_21 : decode cX11_fault 21 = .ok (.getfield 192, 3) := by decide +kernel
theorem dX11_fault_24 : decode cX11_fault 24 = .ok (.goto 4, 3) := by decide +kernel
theorem dX11_fault_27 : decode cX11_fault 27 = .ok (.iconst (-1), 1) := by decide +kernel
theorem dX11_fault_28 : decode cX11_fault 28 = .ok (.ireturn, 1) := by decide +kernel
theorem dX11_feed_0 : decode cX11_feed 0 = .ok (.aload_n 0, 1) := by decide +kernel
theorem dX11_feed_1 : decode cX11_feed 1 = .ok (.getfield 19, 3) := by decide +kernel
theorem dX11_feed_4 : decode cX11_feed 4 = .ok (.getfield 126, 3) := by decide +kernel
theorem dX11_feed_7 : decode cX11_feed 7 = .ok (.bipush 20, 2) := by decide +kernel
theorem dX11_feed_9 : decode cX11_feed 9 = .ok (.iadd, 1) := by decide +kernel
theorem dX11_feed_10 : decode cX11_feed 10 = .ok (.sipush 400, 3) := by decide +kernel
theorem dX11_feed_13 : decode cX11_feed 13 = .ok (.if_icmp .le 5, 3) := by decide +kernel
theorem dX11_feed_18 : decode cX11_feed 18 = .ok (.aload_n 0, 1) := by decide +kernel
theorem dX11_feed_19 : decode cX11_feed 19 = .ok (.getfield 19, 3) := by decide +kernel
theorem dX11_feed_22 : decode cX11_feed 22 = .ok (.iload_n 1, 1) := by decide +kernel
theorem dX11_feed_23 : decode cX11_feed 23 = .ok (.invokevirtual 129, 3) := by decide +kernel
theorem dX11_feed_26 : decode cX11_feed 26 = .ok (.aload_n 0, 1) := by decide +kernel
theorem dX11_feed_27 : decode cX11_feed 27 = .ok (.getfield 19, 3) := by decide +kernel
theorem dX11_feed_30 : decode cX11_feed 30 = .ok (.iload_n 2, 1) := by decide +kernel
theorem dX11_feed_31 : decode cX11_feed 31 = .ok (.invokevirtual 129, 3) := by decide +kernel
theorem dX11_feed_34 : decode cX11_feed 34 = .ok (.aload_n 0, 1) := by decide +kernel
theorem dX11_feed_35 : decode cX11_feed 35 = .ok (.getfield 19, 3) := by decide +kernel
theorem dX11_feed_38 : decode cX11_feed 38 = .ok (.iload_n 3, 1) := by decide +kernel
theorem dX11_feed_39 : decode cX11_feed 39 = .ok (.invokevirtual 129, 3) := by decide +kernel
theorem dX11_feed_42 : decode cX11_feed 42 = .ok (.aload_n 0, 1) := by decide +kernel
theorem dX11_feed_43 : decode cX11_feed 43 = .ok (.getfield 19, 3) := by decide +kernel
theorem dX11_feed_46 : decode cX11_feed 46 = .ok (.iload 4, 2) := by decide +kernel
theorem dX11_feed_48 : decode cX11_feed 48 = .ok (.invokevirtual 129, 3) := by decide +kernel
theorem dX11_feed_51 : decode cX11_feed 51 = .ok (.aload_n 0, 1) := by decide +kernel
theorem dX11_feed_52 : decode cX11_feed 52 = .ok (.getfield 19, 3) := by decide +kernel
theorem dX11_feed_55 : decode cX11_feed 55 = .ok (.iload 5, 2) := by decide +kernel
theorem dX11_feed_57 : decode cX11_feed 57 = .ok (.invokevirtual 129, 3) := by decide +kernel
theorem dX11_feed_60 : decode cX11_feed 60 = .ok (.aload_n 0, 1) := by decide +kernel
theorem dX11_feed_61 : decode cX11_feed 61 = .ok (.getfield 19, 3) := by decide +kernel
theorem dX11_feed_64 : decode cX11_feed 64 = .ok (.getfield 126, 3) := by decide +kernel
theorem dX11_feed_67 : decode cX11_feed 67 = .ok (.ireturn, 1) := by decide +kernel
theorem dX11_forgetNights_0 : decode cX11_forgetNights 0 = .ok (.aload_n 0, 1) := by decide +kernel
theorem dX11_forgetNights_1 : decode cX11_forgetNights 1 = .ok (.iconst 0, 1) := by decide +kernel
theorem dX11_forgetNights_2 : decode cX11_forgetNights 2 = .ok (.putfield 211, 3) := by decide +kernel
theorem dX11_forgetNights_5 : decode cX11_forgetNights 5 = .ok (.aload_n 0, 1) := by decide +kernel
theorem dX11_forgetNights_6 : decode cX11_forgetNights 6 = .ok (.iconst 0, 1) := by decide +kernel
theorem dX11_forgetNights_7 : decode cX11_forgetNights 7 = .ok (.putfield 208, 3) := by decide +kernel
theorem dX11_forgetNights_10 : decode cX11_forgetNights 10 = .ok (.aload_n 0, 1) := by decide +kernel
theorem dX11_forgetNights_11 : decode cX11_forgetNights 11 = .ok (.invokevirtual 205, 3) := by decide +kernel
theorem dX11_forgetNights_14 : decode cX11_forgetNights 14 = .ok (.return_, 1) := by decide +kernel
theorem dX11_forgetPlan_0 : decode cX11_forgetPlan 0 = .ok (.aload_n 0, 1) := by decide +kernel
theorem dX11_forgetPlan_1 : decode cX11_forgetPlan 1 = .ok (.getfield 217, 3) := by decide +kernel
theorem dX11_forgetPlan_4 : decode cX11_forgetPlan 4 = .ok (.ifnull 11, 3) := by decide +kernel
theorem dX11_forgetPlan_15 : decode cX11_forgetPlan 15 = .ok (.return_, 1) := by decide +kernel
theorem dX11_friends_0 : decode cX11_friends 0 = .ok (.aload_n 0, 1) := by decide +kernel
theorem dX11_friends_1 : decode cX11_friends 1 = .ok (.getfield 12, 3) := by decide +kernel
theorem dX11_friends_4 : decode cX11_friends 4 = .ok (.getfield 79, 3) := by decide +kernel
theorem dX11_friends_7 : decode cX11_friends 7 = .ok (.astore 4, 2) := by decide +kernel
theorem dX11_friends_9 : decode cX11_friends 9 = .ok (.aload 4, 2) := by decide +kernel
theorem dX11_friends_11 : decode cX11_friends 11 = .ok (.iload_n 1, 1) := by decide +kernel
theorem dX11_friends_12 : decode cX11_friends 12 = .ok (.invokevirtual 111, 3) := by decide +kernel
theorem dX11_friends_15 : decode cX11_friends 15 = .ok (.ifCond .eq 17, 3) := by decide +kernel
theorem dX11_friends_32 : decode cX11_friends 32 = .ok (.iconst 0, 1) := by decide +kernel
theorem dX11_friends_33 : decode cX11_friends 33 = .ok (.ireturn, 1) := by decide +kernel
theorem dX11_house_0 : decode cX11_house 0 = .ok (.aload_n 0, 1) := by decide +kernel
theorem dX11_house_1 : decode cX11_house 1 = .ok (.getfield 12, 3) := by decide +kernel
theorem dX11_house_4 : decode cX11_house 4 = .ok (.getfield 79, 3) := by decide +kernel
theorem dX11_house_7 : decode cX11_house 7 = .ok (.astore 4, 2) := by decide +kernel
theorem dX11_house_9 : decode cX11_house 9 = .ok (.iload_n 2, 1) := by decide +kernel
theorem dX11_house_10 : decode cX11_house 10 = .ok (.iconst 1, 1) := by decide +kernel
theorem dX11_house_11 : decode cX11_house 11 = .ok (.if_icmp .lt 29, 3) := by decide +kernel
theorem dX11_house_14 : decode cX11_house 14 = .ok (.iload_n 2, 1) := by decide +kernel
theorem dX11_house_15 : decode cX11_house 15 = .ok (.bipush 20, 2) := by decide +kernel
theorem dX11_house_17 : decode cX11_house 17 = .ok (.if_icmp .gt 23, 3) := by decide +kernel
theorem dX11_house_20 : decode cX11_house 20 = .ok (.iload_n 3, 1) := by decide +kernel
theorem dX11_house_21 : decode cX11_house 21 = .ok (.ifCond .lt 19, 3) := by decide +kernel
theorem dX11_house_24 : decode cX11_house 24 = .ok (.iload_n 3, 1) := by decide +kernel
theorem dX11_house_25 : decode cX11_house 25 = .ok (.sipush 999, 3) := by decide +kernel
theorem dX11_house_28 : decode cX11_house 28 = .ok (.if_icmp .gt 12, 3) := by decide +kernel
theorem dX11_house_31 : decode cX11_house 31 = .ok (.aload 4, 2) := by decide +kernel
theorem dX11_house_33 : decode cX11_house 33 = .ok (.iload_n 1, 1) := by decide +kernel
theorem dX11_house_34 : decode cX11_house 34 = .ok (.invokevirtual 83, 3) := by decide +kernel
theorem dX11_house_37 : decode cX11_house 37 = .ok (.ifCond .ne 5, 3) := by decide +kernel
theorem dX11_house_40 : decode cX11_house 40 = .ok (.iconst (-1), 1) := by decide +kernel
theorem dX11_house_41 : decode cX11_house 41 = .ok (.ireturn, 1) := by decide +kernel
theorem dX11_house_42 : decode cX11_house 42 = .ok (.aload 4, 2) := by decide +kernel
theorem dX11_house_44 : decode cX11_house 44 = .ok (.getfield 89, 3) := by decide +kernel
theorem dX11_house_47 : decode cX11_house 47 = .ok (.bipush 10, 2) := by decide +kernel
theorem dX11_house_49 : decode cX11_house 49 = .ok (.if_icmp .lt 5, 3) := by decide +kernel
theorem dX11_house_54 : decode cX11_house 54 = .ok (.aload 4, 2) := by decide +kernel
theorem dX11_house_56 : decode cX11_house 56 = .ok (.getfield 89, 3) := by decide +kernel
theorem dX11_house_59 : decode cX11_house 59 = .ok (.istore 5, 2) := by decide +kernel
theorem dX11_house_61 : decode cX11_house 61 = .ok (.aload 4, 2) := by decide +kernel
theorem dX11_house_63 : decode cX11_house 63 = .ok (.getfield 92, 3) := by decide +kernel
theorem dX11_house_66 : decode cX11_house 66 = .ok (.iload 5, 2) := by decide +kernel
theorem dX11_house_68 : decode cX11_house 68 = .ok (.iload_n 1, 1) := by decide +kernel
theorem dX11_house_69 : decode cX11_house 69 = .ok (.iastore, 1) := by decide +kernel
theorem dX11_house_70 : decode cX11_house 70 = .ok (.aload 4, 2) := by decide +kernel
theorem dX11_house_72 : decode cX11_house 72 = .ok (.getfield 96, 3) := by decide +kernel
theorem dX11_house_75 : decode cX11_house 75 = .ok (.iload 5, 2) := by decide +kernel
theorem dX11_house_77 : decode cX11_house 77 = .ok (.iload_n 2, 1) := by decide +kernel
theorem dX11_house_78 : decode cX11_house 78 = .ok (.iastore, 1) := by decide +kernel
theorem dX11_house_79 : decode cX11_house 79 = .ok (.aload_n 0, 1) := by decide +kernel
theorem dX11_house_80 : decode cX11_house 80 = .ok (.getfield 12, 3) := by decide +kernel
theorem dX11_house_83 : decode cX11_house 83 = .ok (.getfield 69, 3) := by decide +kernel
theorem dX11_house_86 : decode cX11_house 86 = .ok (.getfield 99, 3) := by decide +kernel
theorem dX11_house_89 : decode cX11_house 89 = .ok (.iload 5, 2) := by decide +kernel
theorem dX11_house_91 : decode cX11_house 91 = .ok (.iload_n 3, 1) := by decide +kernel
theorem dX11_house_92 : decode cX11_house 92 = .ok (.iastore, 1) := by decide +kernel
theorem dX11_house_93 : decode cX11_house 93 = .ok (.aload 4, 2) := by decide +kernel
theorem dX11_house_95 : decode cX11_house 95 = .ok (.iload 5, 2) := by decide +kernel
theorem dX11_house_97 : decode cX11_house 97 = .ok (.iconst 1, 1) := by decide +kernel
theorem dX11_house_98 : decode cX11_house 98 = .ok (.iadd, 1) := by decide +kernel
theorem dX11_house_99 : decode cX11_house 99 = .ok (.putfield 89, 3) := by decide +kernel
theorem dX11_house_102 : decode cX11_house 102 = .ok (.iload 5, 2) := by decide +kernel
theorem dX11_house_104 : decode cX11_house 104 = .ok (.ifCond .ne 14, 3) := by decide +kernel
theorem dX11_house_107 : decode cX11_house 107 = .ok (.aload_n 0, 1) := by decide +kernel
theorem dX11_house_108 : decode cX11_house 108 = .ok (.getfield 12, 3) := by decide +kernel
theorem dX11_house_111 : decode cX11_house 111 = .ok (.getfield 69, 3) := by decide +kernel
theorem dX11_house_114 : decode cX11_house 114 = .ok (.iconst 0, 1) := by decide +kernel
theorem dX11_house_115 : decode cX11_house 115 = .ok (.putfield 102, 3) := by decide +kernel
theorem dX11_house_118 : decode cX11_house 118 = .ok (.aload_n 0, 1) := by decide +kernel
theorem dX11_house_119 : decode cX11_house 119 = .ok (.invokevirtual 76, 3) := by decide +kernel
theorem dX11_house_122 : decode cX11_house 122 = .ok (.iload 5, 2) := by decide +kernel
theorem dX11_house_124 : decode cX11_house 124 = .ok (.ireturn, 1) := by decide +kernel
theorem dX11_image_0 : decode cX11_image 0 = .ok (.iload_n 1, 1) := by decide +kernel
theorem dX11_image_1 : decode cX11_image 1 = .ok (.ifCond .eq 34, 3) := by decide +kernel
theorem dX11_image_4 : decode cX11_image 4 = .ok (.aload_n 0, 1) := by decide +kernel
theorem dX11_image_5 : decode cX11_image 5 = .ok (.getfield 370, 3) := by decide +kernel
theorem dX11_image_8 : decode cX11_image 8 = .ok (.ifnonnull 14, 3) := by decide +kernel
theorem dX11_image_11 : decode cX11_image 11 = .ok (.aload_n 0, 1) := by decide +kernel
theorem dX11_image_12 : decode cX11_image 12 = .ok (.new 9, 3) := by decide +kernel
theorem dX11_image_15 : decode cX11_image 15 = .ok (.dup, 1) := by decide +kernel
theorem dX11_image_16 : decode cX11_image 16 = .ok (.invokespecial 11, 3) := by decide +kernel
theorem dX11_image_19 : decode cX11_image 19 = .ok (.putfield 370, 3) := by decide +kernel
theorem dX11_image_22 : decode cX11_image 22 = .ok (.aload_n 0, 1) := by decide +kernel
theorem dX11_image_23 : decode cX11_image 23 = .ok (.getfield 370, 3) := by decide +kernel
theorem dX11_image_26 : decode cX11_image 26 = .ok (.aload_n 0, 1) := by decide +kernel
theorem dX11_image_27 : decode cX11_image 27 = .ok (.getfield 12, 3) := by decide +kernel
theorem dX11_image_30 : decode cX11_image 30 = .ok (.invokevirtual 373, 3) := by decide +kernel
theorem dX11_image_33 : decode cX11_image 33 = .ok (.iconst 1, 1) := by decide +kernel
theorem dX11_image_34 : decode cX11_image 34 = .ok (.ireturn, 1) := by decide +kernel
theorem dX11_image_35 : decode cX11_image 35 = .ok (.aload_n 0, 1) := by decide +kernel
theorem dX11_image_36 : decode cX11_image 36 = .ok (.getfield 370, 3) := by decide +kernel
theorem dX11_image_39 : decode cX11_image 39 = .ok (.ifnonnull 5, 3) := by decide +kernel
theorem dX11_image_42 : decode cX11_image 42 = .ok (.iconst 0, 1) := by decide +kernel
theorem dX11_image_43 : decode cX11_image 43 = .ok (.ireturn, 1) := by decide +kernel
theorem dX11_init_0 : decode cX11_init 0 = .ok (.aload_n 0, 1) := by decide +kernel
theorem dX11_init_1 : decode cX11_init 1 = .ok (.invokespecial 3, 3) := by decide +kernel
theorem dX11_init_4 : decode cX11_init 4 = .ok (.aload_n 0, 1) := by decide +kernel
theorem dX11_init_5 : decode cX11_init 5 = .ok (.new 9, 3) := by decide +kernel
theorem dX11_init_8 : decode cX11_init 8 = .ok (.dup, 1) := by decide +kernel
theorem dX11_init_9 : decode cX11_init 9 = .ok (.invokespecial 11, 3) := by decide +kernel
theorem dX11_init_12 : decode cX11_init 12 = .ok (.putfield 12, 3) := by decide +kernel
theorem dX11_init_15 : decode cX11_init 15 = .ok (.aload_n 0, 1) := by decide +kernel
theorem dX11_init_16 : decode cX11_init 16 = .ok (.new 16, 3) := by decide +kernel
theorem dX11_init_19 : decode cX11_init 19 = .ok (.dup, 1) := by decide +kernel
theorem dX11_init_20 : decode cX11_init 20 = .ok (.invokespecial 18, 3) := by decide +kernel
theorem dX11_init_23 : decode cX11_init 23 = .ok (.putfield 19, 3) := by decide +kernel
theorem dX11_init_26 : decode cX11_init 26 = .ok (.aload_n 0, 1) := by decide +kernel
theorem dX11_init_27 : decode cX11_init 27 = .ok (.new 23, 3) := by decide +kernel
theorem dX11_init_30 : decode cX11_init 30 = .ok (.dup, 1) := by decide +kernel
theorem dX11_init_31 : decode cX11_init 31 = .ok (.invokespecial 25, 3) := by decide +kernel
theorem dX11_init_34 : decode cX11_init 34 = .ok (.putfield 26, 3) := by decide +kernel
theorem dX11_init_37 : decode cX11_init 37 = .ok (.aload_n 0, 1) := by decide +kernel
theorem dX11_init_38 : decode cX11_init 38 = .ok (.new 30, 3) := by decide +kernel
theorem dX11_init_41 : decode cX11_init 41 = .ok (.dup, 1) := by decide +kernel
theorem dX11_init_42 : decode cX11_init 42 = .ok (.invokespecial 32, 3) := by decide +kernel
theorem dX11_init_45 : decode cX11_init 45 = .ok (.putfield 33, 3) := by decide +kernel
theorem dX11_init_48 : decode cX11_init 48 = .ok (.aload_n 0, 1) := by decide +kernel
theorem dX11_init_49 : decode cX11_init 49 = .ok (.new 37, 3) := by decide +kernel
theorem dX11_init_52 : decode cX11_init 52 = .ok (.dup, 1) := by decide +kernel
theorem dX11_init_53 : decode cX11_init 53 = .ok (.invokespecial 39, 3) := by decide +kernel
theorem dX11_init_56 : decode cX11_init 56 = .ok (.putfield 40, 3) := by decide +kernel
theorem dX11_init_59 : decode cX11_init 59 = .ok (.aload_n 0, 1) := by decide +kernel
theorem dX11_init_60 : decode cX11_init 60 = .ok (.new 44, 3) := by decide +kernel
theorem dX11_init_63 : decode cX11_init 63 = .ok (.dup, 1) := by decide +kernel
theorem dX11_init_64 : decode cX11_init 64 = .ok (.invokespecial 46, 3) := by decide +kernel
theorem dX11_init_67 : decode cX11_init 67 = .ok (.putfield 47, 3) := by decide +kernel
theorem dX11_init_70 : decode cX11_init 70 = .ok (.aload_n 0, 1) := by decide +kernel
theorem dX11_init_71 : decode cX11_init 71 = .ok (.new 51, 3) := by decide +kernel
theorem dX11_init_74 : decode cX11_init 74 = .ok (.dup, 1) := by decide +kernel
theorem dX11_init_75 : decode cX11_init 75 = .ok (.invokespecial 53, 3) := by decide +kernel
theorem dX11_init_78 : decode cX11_init 78 = .ok (.putfield 54, 3) := by decide +kernel
theorem dX11_init_81 : decode cX11_init 81 = .ok (.aload_n 0, 1) := by decide +kernel
theorem dX11_init_82 : decode cX11_init 82 = .ok (.new 58, 3) := by decide +kernel
theorem dX11_init_85 : decode cX11_init 85 = .ok (.dup, 1) := by decide +kernel
theorem dX11_init_86 : decode cX11_init 86 = .ok (.invokespecial 60, 3) := by decide +kernel
theorem dX11_init_89 : decode cX11_init 89 = .ok (.putfield 61, 3) := by decide +kernel
theorem dX11_init_92 : decode cX11_init 92 = .ok (.aload_n 0, 1) := by decide +kernel
theorem dX11_init_93 : decode cX11_init 93 = .ok (.bipush 6, 2) := by decide +kernel
theorem dX11_init_95 : decode cX11_init 95 = .ok (.anewarray 51, 3) := by decide +kernel
theorem dX11_init_98 : decode cX11_init 98 = .ok (.putfield 65, 3) := by decide +kernel
theorem dX11_init_101 : decode cX11_init 101 = .ok (.iconst 0, 1) := by decide +kernel
theorem dX11_init_102 : decode cX11_init 102 = .ok (.istore_n 1, 1) := by decide +kernel
theorem dX11_init_103 : decode cX11_init 103 = .ok (.iload_n 1, 1) := by decide +kernel
theorem dX11_init_104 : decode cX11_init 104 = .ok (.bipush 6, 2) := by decide +kernel
theorem dX11_init_106 : decode cX11_init 106 = .ok (.if_icmp .ge 22, 3) := by decide +kernel
theorem dX11_init_109 : decode cX11_init 109 = .ok (.aload_n 0, 1) := by decide +kernel
theorem dX11_init_110 : decode cX11_init 110 = .ok (.getfield 65, 3) := by decide +kernel
theorem dX11_init_113 : decode cX11_init 113 = .ok (.iload_n 1, 1) := by decide +kernel
theorem dX11_init_114 : decode cX11_init 114 = .ok (.new 51, 3) := by decide +kernel
theorem dX11_init_117 : decode cX11_init 117 = .ok (.dup, 1) := by decide +kernel
theorem dX11_init_118 : decode cX11_init 118 = .ok (.invokespecial 53, 3) := by decide +kernel
theorem dX11_init_121 : decode cX11_init 121 = .ok (.aastore, 1) := by decide +kernel
theorem dX11_init_122 : decode cX11_init 122 = .ok (.iinc 1 1, 3) := by decide +kernel
theorem dX11_init_125 : decode cX11_init 125 = .ok (.goto (-22), 3) := by decide +kernel
theorem dX11_init_128 : decode cX11_init 128 = .ok (.return_, 1) := by decide +kernel
theorem dX11_liars_0 : decode cX11_liars 0 = .ok (.iconst 0, 1) := by decide +kernel
theorem dX11_liars_1 : decode cX11_liars 1 = .ok (.istore_n 1, 1) := by decide +kernel
theorem dX11_liars_2 : decode cX11_liars 2 = .ok (.iconst 0, 1) := by decide +kernel
theorem dX11_liars_3 : decode cX11_liars 3 = .ok (.istore_n 2, 1) := by decide +kernel
theorem dX11_liars_4 : decode cX11_liars 4 = .ok (.iload_n 2, 1) := by decide +kernel
theorem dX11_liars_5 : decode cX11_liars 5 = .ok (.aload_n 0, 1) := by decide +kernel
theorem dX11_liars_6 : decode cX11_liars 6 = .ok (.getfield 12, 3) := by decide +kernel
theorem dX11_liars_9 : decode cX11_liars 9 = .ok (.getfield 79, 3) := by decide +kernel
theorem dX11_liars_12 : decode cX11_liars 12 = .ok (.getfield 89, 3) := by decide +kernel
theorem dX11_liars_15 : decode cX11_liars 15 = .ok (.if_icmp .ge 48, 3) := by decide +kernel
theorem dX11_liars_63 : decode cX11_liars 63 = .ok (.iload_n 1, 1) := by decide +kernel
theorem dX11_liars_64 : decode cX11_liars 64 = .ok (.ireturn, 1) := by decide +kernel
theorem dX11_look_0 : decode cX11_look 0 = .ok (.aload_n 0, 1) := by decide +kernel
theorem dX11_look_1 : decode cX11_look 1 = .ok (.getfield 12, 3) := by decide +kernel
theorem dX11_look_4 : decode cX11_look 4 = .ok (.getfield 69, 3) := by decide +kernel
theorem dX11_look_7 : decode cX11_look 7 = .ok (.astore_n 2, 1) := by decide +kernel
theorem dX11_look_8 : decode cX11_look 8 = .ok (.iload_n 1, 1) := by decide +kernel
theorem dX11_look_9 : decode cX11_look 9 = .ok (.tableswitch 259 0 24 #[115, 126, 131, 136, 141, 146, 157, 168, 184, 195, 206, 217, 259, 259, 259, 259, 259, 259, 259, 259, 222, 227, 235, 243, 251], 115) := by decide +kernel
theorem dX11_look_124 : decode cX11_look 124 = .ok (.aload_n 0, 1) := by decide +kernel
theorem dX11_look_125 : decode cX11_look 125 = .ok (.getfield 12, 3) := by decide +kernel
theorem dX11_look_128 : decode cX11_look 128 = .ok (.getfield 79, 3) := by decide +kernel
theorem dX11_look_131 : decode cX11_look 131 = .ok (.getfield 89, 3) := by decide +kernel
theorem dX11_look_134 : decode cX11_look 134 = .ok (.ireturn, 1) := by decide +kernel
theorem dX11_look_135 : decode cX11_look 135 = .ok (.aload_n 2, 1) := by decide +kernel
theorem dX11_look_136 : decode cX11_look 136 = .ok (.getfield 102, 3) := by decide +kernel
theorem dX11_look_139 : decode cX11_look 139 = .ok (.ireturn, 1) := by decide +kernel
theorem dX11_look_140 : decode cX11_look 140 = .ok (.aload_n 2, 1) := by decide +kernel
theorem dX11_look_141 : decode cX11_look 141 = .ok (.getfield 195, 3) := by decide +kernel
theorem dX11_look_144 : decode cX11_look 144 = .ok (.ireturn, 1) := by decide +kernel
theorem dX11_look_145 : decode cX11_look 145 = .ok (.aload_n 2, 1) := by decide +kernel
theorem dX11_look_146 : decode cX11_look 146 = .ok (.getfield 297, 3) := by decide +kernel
theorem dX11_look_149 : decode cX11_look 149 = .ok (.ireturn, 1) := by decide +kernel
theorem dX11_look_150 : decode cX11_look 150 = .ok (.aload_n 2, 1) := by decide +kernel
theorem dX11_look_151 : decode cX11_look 151 = .ok (.getfield 72, 3) := by decide +kernel
theorem dX11_look_154 : decode cX11_look 154 = .ok (.ireturn, 1) := by decide +kernel
theorem dX11_look_155 : decode cX11_look 155 = .ok (.aload_n 0, 1) := by decide +kernel
theorem dX11_look_156 : decode cX11_look 156 = .ok (.getfield 12, 3) := by decide +kernel
theorem dX11_look_159 : decode cX11_look 159 = .ok (.getfield 172, 3) := by decide +kernel
theorem dX11_look_162 : decode cX11_look 162 = .ok (.getfield 181, 3) := by decide +kernel
theorem dX11_look_165 : decode cX11_look 165 = .ok (.ireturn, 1) := by decide +kernel
theorem dX11_look_166 : decode cX11_look 166 = .ok (.aload_n 0, 1) := by decide +kernel
theorem dX11_look_167 : decode cX11_look 167 = .ok (.getfield 12, 3) := by decide +kernel
theorem dX11_look_170 : decode cX11_look 170 = .ok (.getfield 165, 3) := by decide +kernel
theorem dX11_look_173 : decode cX11_look 173 = .ok (.getfield 171, 3) := by decide +kernel
theorem dX11_look_176 : decode cX11_look 176 = .ok (.ireturn, 1) := by decide +kernel
theorem dX11_look_177 : decode cX11_look 177 = .ok (.aload_n 0, 1) := by decide +kernel
theorem dX11_look_178 : decode cX11_look 178 = .ok (.getfield 12, 3) := by decide +kernel
theorem dX11_look_181 : decode cX11_look 181 = .ok (.getfield 182, 3) := by decide +kernel
theorem dX11_look_184 : decode cX11_look 184 = .ok (.getfield 191, 3) := by decide +kernel
theorem dX11_look_187 : decode cX11_look 187 = .ok (.aload_n 2, 1) := by decide +kernel
theorem dX11_look_188 : decode cX11_look 188 = .ok (.getfield 188, 3) := by decide +kernel
theorem dX11_look_191 : decode cX11_look 191 = .ok (.isub, 1) := by decide +kernel
theorem dX11_look_192 : decode cX11_look 192 = .ok (.ireturn, 1) := by decide +kernel
theorem dX11_look_193 : decode cX11_look 193 = .ok (.aload_n 0, 1) := by decide +kernel
theorem dX11_look_194 : decode cX11_look 194 = .ok (.getfield 12, 3) := by decide +kernel
theorem dX11_look_197 : decode cX11_look 197 = .ok (.getfield 152, 3) := by decide +kernel
theorem dX11_look_200 : decode cX11_look 200 = .ok (.getfield 159, 3) := by decide +kernel
theorem dX11_look_203 : decode cX11_look 203 = .ok (.ireturn, 1) := by decide +kernel
theorem dX11_look_204 : decode cX11_look 204 = .ok (.aload_n 0, 1) := by decide +kernel
theorem dX11_look_205 : decode cX11_look 205 = .ok (.getfield 12, 3) := by decide +kernel
theorem dX11_look_208 : decode cX11_look 208 = .ok (.getfield 162, 3) := by decide +kernel
theorem dX11_look_211 : decode cX11_look 211 = .ok (.getfield 159, 3) := by decide +kernel
theorem dX11_look_214 : decode cX11_look 214 = .ok (.ireturn, 1) := by decide +kernel
theorem dX11_look_215 : decode cX11_look 215 = .ok (.aload_n 0, 1) := by decide +kernel
theorem dX11_look_216 : decode cX11_look 216 = .ok (.getfield 12, 3) := by decide +kernel
theorem dX11_look_219 : decode cX11_look 219 = .ok (.getfield 341, 3) := by decide +kernel
theorem dX11_look_222 : decode cX11_look 222 = .ok (.getfield 345, 3) := by decide +kernel
theorem dX11_look_225 : decode cX11_look 225 = .ok (.ireturn, 1) := by decide +kernel
theorem dX11_look_226 : decode cX11_look 226 = .ok (.aload_n 0, 1) := by decide +kernel
theorem dX11_look_227 : decode cX11_look 227 = .ok (.getfield 211, 3) := by decide +kernel
theorem dX11_look_230 : decode cX11_look 230 = .ok (.ireturn, 1) := by decide +kernel
theorem dX11_look_231 : decode cX11_look 231 = .ok (.aload_n 2, 1) := by decide +kernel
theorem dX11_look_232 : decode cX11_look 232 = .ok (.getfield 265, 3) := by decide +kernel
theorem dX11_look_235 : decode cX11_look 235 = .ok (.ireturn, 1) := by decide +kernel
theorem dX11_look_236 : decode cX11_look 236 = .ok (.aload_n 0, 1) := by decide +kernel
theorem dX11_look_237 : decode cX11_look 237 = .ok (.getfield 12, 3) := by decide +kernel
theorem dX11_look_240 : decode cX11_look 240 = .ok (.getfield 376, 3) := by decide +kernel
theorem dX11_look_243 : decode cX11_look 243 = .ok (.ireturn, 1) := by decide +kernel
theorem dX11_look_244 : decode cX11_look 244 = .ok (.aload_n 0, 1) := by decide +kernel
theorem dX11_look_245 : decode cX11_look 245 = .ok (.getfield 12, 3) := by decide +kernel
theorem dX11_look_248 : decode cX11_look 248 = .ok (.getfield 255, 3) := by decide +kernel
theorem dX11_look_251 : decode cX11_look 251 = .ok (.ireturn, 1) := by decide +kernel
theorem dX11_look_252 : decode cX11_look 252 = .ok (.aload_n 0, 1) := by decide +kernel
theorem dX11_look_253 : decode cX11_look 253 = .ok (.getfield 12, 3) := by decide +kernel
theorem dX11_look_256 : decode cX11_look 256 = .ok (.getfield 379, 3) := by decide +kernel
theorem dX11_look_259 : decode cX11_look 259 = .ok (.ireturn, 1) := by decide +kernel
theorem dX11_look_260 : decode cX11_look 260 = .ok (.aload_n 0, 1) := by decide +kernel
theorem dX11_look_261 : decode cX11_look 261 = .ok (.getfield 12, 3) := by decide +kernel
theorem dX11_look_264 : decode cX11_look 264 = .ok (.getfield 382, 3) := by decide +kernel
theorem dX11_look_267 : decode cX11_look 267 = .ok (.ireturn, 1) := by decide +kernel
theorem dX11_look_268 : decode cX11_look 268 = .ok (.sipush (-1000), 3) := by decide +kernel
theorem dX11_look_271 : decode cX11_look 271 = .ok (.ireturn, 1) := by decide +kernel
theorem dX11_mend_0 : decode cX11_mend 0 = .ok (.iload_n 1, 1) := by decide +kernel
theorem dX11_mend_1 : decode cX11_mend 1 = .ok (.iconst (-1), 1) := by decide +kernel
theorem dX11_mend_2 : decode cX11_mend 2 = .ok (.if_icmp .eq 19, 3) := by decide +kernel
theorem dX11_mend_5 : decode cX11_mend 5 = .ok (.aload_n 0, 1) := by decide +kernel
theorem dX11_mend_6 : decode cX11_mend 6 = .ok (.getfield 12, 3) := by decide +kernel
theorem dX11_mend_9 : decode cX11_mend 9 = .ok (.getfield 79, 3) := by decide +kernel
theorem dX11_mend_12 : decode cX11_mend 12 = .ok (.iload_n 1, 1) := by decide +kernel
theorem dX11_mend_13 : decode cX11_mend 13 = .ok (.invokevirtual 111, 3) := by decide +kernel
theorem dX11_mend_16 : decode cX11_mend 16 = .ok (.ifCond .ne 5, 3) := by decide +kernel
theorem dX11_mend_19 : decode cX11_mend 19 = .ok (.iconst (-1), 1) := by decide +kernel
theorem dX11_mend_20 : decode cX11_mend 20 = .ok (.ireturn, 1) := by decide +kernel
theorem dX11_mend_21 : decode cX11_mend 21 = .ok (.aload_n 0, 1) := by decide +kernel
theorem dX11_mend_22 : decode cX11_mend 22 = .ok (.getfield 12, 3) := by decide +kernel
theorem dX11_mend_25 : decode cX11_mend 25 = .ok (.getfield 69, 3) := by decide +kernel
theorem dX11_mend_28 : decode cX11_mend 28 = .ok (.getfield 230, 3) := by decide +kernel
theorem dX11_mend_31 : decode cX11_mend 31 = .ok (.astore_n 2, 1) := by decide +kernel
theorem dX11_mend_32 : decode cX11_mend 32 = .ok (.aload_n 0, 1) := by decide +kernel
theorem dX11_mend_33 : decode cX11_mend 33 = .ok (.getfield 12, 3) := by decide +kernel
theorem dX11_mend_36 : decode cX11_mend 36 = .ok (.getfield 79, 3) := by decide +kernel
theorem dX11_mend_39 : decode cX11_mend 39 = .ok (.aload_n 2, 1) := by decide +kernel
theorem dX11_mend_40 : decode cX11_mend 40 = .ok (.aload_n 0, 1) := by decide +kernel
theorem dX11_mend_41 : decode cX11_mend 41 = .ok (.getfield 12, 3) := by decide +kernel
theorem dX11_mend_44 : decode cX11_mend 44 = .ok (.getfield 255, 3) := by decide +kernel
theorem dX11_mend_47 : decode cX11_mend 47 = .ok (.invokevirtual 319, 3) := by decide +kernel
theorem dX11_mend_50 : decode cX11_mend 50 = .ok (.ifCond .ne 5, 3) := by decide +kernel
theorem dX11_mend_55 : decode cX11_mend 55 = .ok (.iload_n 1, 1) := by decide +kernel
theorem dX11_mend_56 : decode cX11_mend 56 = .ok (.iconst (-1), 1) := by decide +kernel
theorem dX11_mend_57 : decode cX11_mend 57 = .ok (.if_icmp .eq 20, 3) := by decide +kernel
theorem dX11_mend_77 : decode cX11_mend 77 = .ok (.iconst 0, 1) := by decide +kernel
theorem dX11_mend_78 : decode cX11_mend 78 = .ok (.istore_n 3, 1) := by decide +kernel
theorem dX11_mend_79 : decode cX11_mend 79 = .ok (.iconst 0, 1) := by decide +kernel
theorem dX11_mend_80 : decode cX11_mend 80 = .ok (.istore 4, 2) := by decide +kernel
theorem dX11_mend_82 : decode cX11_mend 82 = .ok (.iload 4, 2) := by decide +kernel
theorem dX11_mend_84 : decode cX11_mend 84 = .ok (.aload_n 0, 1) := by decide +kernel
theorem dX11_mend_85 : decode cX11_mend 85 = .ok (.getfield 12, 3) := by decide +kernel
theorem dX11_mend_88 : decode cX11_mend 88 = .ok (.getfield 79, 3) := by decide +kernel
theorem dX11_mend_91 : decode cX11_mend 91 = .ok (.getfield 89, 3) := by decide +kernel
theorem dX11_mend_94 : decode cX11_mend 94 = .ok (.if_icmp .ge 30, 3) := by decide +kernel
theorem dX11_mend_124 : decode cX11_mend 124 = .ok (.iload_n 3, 1) := by decide +kernel
theorem dX11_mend_125 : decode cX11_mend 125 = .ok (.ireturn, 1) := by decide +kernel
theorem dX11_need_0 : decode cX11_need 0 = .ok (.aload_n 0, 1) := by decide +kernel
theorem dX11_need_1 : decode cX11_need 1 = .ok (.getfield 12, 3) := by decide +kernel
theorem dX11_need_4 : decode cX11_need 4 = .ok (.getfield 172, 3) := by decide +kernel
theorem dX11_need_7 : decode cX11_need 7 = .ok (.astore_n 3, 1) := by decide +kernel
theorem dX11_need_8 : decode cX11_need 8 = .ok (.iload_n 1, 1) := by decide +kernel
theorem dX11_need_9 : decode cX11_need 9 = .ok (.ifCond .lt 17, 3) := by decide +kernel
theorem dX11_need_12 : decode cX11_need 12 = .ok (.iload_n 1, 1) := by decide +kernel
theorem dX11_need_13 : decode cX11_need 13 = .ok (.aload_n 3, 1) := by decide +kernel
theorem dX11_need_14 : decode cX11_need 14 = .ok (.getfield 181, 3) := by decide +kernel
theorem dX11_need_17 : decode cX11_need 17 = .ok (.if_icmp .ge 9, 3) := by decide +kernel
theorem dX11_need_26 : decode cX11_need 26 = .ok (.bipush (-2), 2) := by decide +kernel
theorem dX11_need_28 : decode cX11_need 28 = .ok (.ireturn, 1) := by decide +kernel
theorem dX11_nights_0 : decode cX11_nights 0 = .ok (.iload_n 1, 1) := by decide +kernel
theorem dX11_nights_1 : decode cX11_nights 1 = .ok (.iconst 1, 1) := by decide +kernel
theorem dX11_nights_2 : decode cX11_nights 2 = .ok (.if_icmp .lt 40, 3) := by decide +kernel
theorem dX11_nights_5 : decode cX11_nights 5 = .ok (.iload_n 1, 1) := by decide +kernel
theorem dX11_nights_6 : decode cX11_nights 6 = .ok (.bipush 60, 2) := by decide +kernel
theorem dX11_nights_8 : decode cX11_nights 8 = .ok (.if_icmp .gt 34, 3) := by decide +kernel
theorem dX11_nights_11 : decode cX11_nights 11 = .ok (.aload_n 0, 1) := by decide +kernel
theorem dX11_nights_12 : decode cX11_nights 12 = .ok (.getfield 12, 3) := by decide +kernel
theorem dX11_nights_15 : decode cX11_nights 15 = .ok (.getfield 79, 3) := by decide +kernel
theorem dX11_nights_18 : decode cX11_nights 18 = .ok (.getfield 89, 3) := by decide +kernel
theorem dX11_nights_21 : decode cX11_nights 21 = .ok (.ifCond .eq 21, 3) := by decide +kernel
theorem dX11_nights_42 : decode cX11_nights 42 = .ok (.iconst (-1), 1) := by decide +kernel
theorem dX11_nights_43 : decode cX11_nights 43 = .ok (.ireturn, 1) := by decide +kernel
theorem dX11_of_0 : decode cX11_of 0 = .ok (.aload_n 0, 1) := by decide +kernel
theorem dX11_of_1 : decode cX11_of 1 = .ok (.getfield 12, 3) := by decide +kernel
theorem dX11_of_4 : decode cX11_of 4 = .ok (.getfield 79, 3) := by decide +kernel
theorem dX11_of_7 : decode cX11_of 7 = .ok (.iload_n 1, 1) := by decide +kernel
theorem dX11_of_8 : decode cX11_of 8 = .ok (.invokevirtual 111, 3) := by decide +kernel
theorem dX11_of_11 : decode cX11_of 11 = .ok (.ifCond .ne 6, 3) := by decide +kernel
theorem dX11_of_14 : decode cX11_of 14 = .ok (.ldc 226, 2) := by decide +kernel
theorem dX11_of_16 : decode cX11_of 16 = .ok (.ireturn, 1) := by decide +kernel
theorem dX11_plan_0 : decode cX11_plan 0 = .ok (.iload_n 2, 1) := by decide +kernel
theorem dX11_plan_1 : decode cX11_plan 1 = .ok (.ifCond .eq 22, 3) := by decide +kernel
theorem dX11_plan_4 : decode cX11_plan 4 = .ok (.iload_n 2, 1) := by decide +kernel
theorem dX11_plan_5 : decode cX11_plan 5 = .ok (.iconst 1, 1) := by decide +kernel
theorem dX11_plan_6 : decode cX11_plan 6 = .ok (.if_icmp .eq 17, 3) := by decide +kernel
theorem dX11_plan_9 : decode cX11_plan 9 = .ok (.iload_n 2, 1) := by decide +kernel
theorem dX11_plan_10 : decode cX11_plan 10 = .ok (.bipush 10, 2) := by decide +kernel
theorem dX11_plan_12 : decode cX11_plan 12 = .ok (.if_icmp .lt 15, 3) := by decide +kernel
theorem dX11_plan_15 : decode cX11_plan 15 = .ok (.iload_n 2, 1) := by decide +kernel
theorem dX11_plan_16 : decode cX11_plan 16 = .ok (.bipush 10, 2) := by decide +kernel
theorem dX11_plan_18 : decode cX11_plan 18 = .ok (.isub, 1) := by decide +kernel
theorem dX11_plan_19 : decode cX11_plan 19 = .ok (.iload_n 1, 1) := by decide +kernel
theorem dX11_plan_20 : decode cX11_plan 20 = .ok (.if_icmp .ge 7, 3) := by decide +kernel
theorem dX11_plan_23 : decode cX11_plan 23 = .ok (.iconst 1, 1) := by decide +kernel
theorem dX11_plan_24 : decode cX11_plan 24 = .ok (.goto 4, 3) := by decide +kernel
theorem dX11_plan_27 : decode cX11_plan 27 = .ok (.iconst 0, 1) := by decide +kernel
theorem dX11_plan_28 : decode cX11_plan 28 = .ok (.istore_n 3, 1) := by decide +kernel
theorem dX11_plan_29 : decode cX11_plan 29 = .ok (.iload_n 1, 1) := by decide +kernel
theorem dX11_plan_30 : decode cX11_plan 30 = .ok (.iconst 1, 1) := by decide +kernel
theorem dX11_plan_31 : decode cX11_plan 31 = .ok (.if_icmp .lt 26, 3) := by decide +kernel
theorem dX11_plan_34 : decode cX11_plan 34 = .ok (.iload_n 1, 1) := by decide +kernel
theorem dX11_plan_35 : decode cX11_plan 35 = .ok (.bipush 10, 2) := by decide +kernel
theorem dX11_plan_37 : decode cX11_plan 37 = .ok (.if_icmp .gt 20, 3) := by decide +kernel
theorem dX11_plan_40 : decode cX11_plan 40 = .ok (.iload_n 3, 1) := by decide +kernel
theorem dX11_plan_41 : decode cX11_plan 41 = .ok (.ifCond .eq 16, 3) := by decide +kernel
theorem dX11_plan_44 : decode cX11_plan 44 = .ok (.aload_n 0, 1) := by decide +kernel
theorem dX11_plan_45 : decode cX11_plan 45 = .ok (.getfield 12, 3) := by decide +kernel
theorem dX11_plan_48 : decode cX11_plan 48 = .ok (.getfield 79, 3) := by decide +kernel
theorem dX11_plan_51 : decode cX11_plan 51 = .ok (.getfield 89, 3) := by decide +kernel
theorem dX11_plan_54 : decode cX11_plan 54 = .ok (.ifCond .ne 5, 3) := by decide +kernel
theorem dX11_plan_57 : decode cX11_plan 57 = .ok (.iconst (-1), 1) := by decide +kernel
theorem dX11_plan_58 : decode cX11_plan 58 = .ok (.ireturn, 1) := by decide +kernel
theorem dX11_rooms_0 : decode cX11_rooms 0 = .ok (.iload_n 1, 1) := by decide +kernel
theorem dX11_rooms_1 : decode cX11_rooms 1 = .ok (.ifCond .eq 28, 3) := by decide +kernel
theorem dX11_rooms_4 : decode cX11_rooms 4 = .ok (.iload_n 1, 1) := by decide +kernel
theorem dX11_rooms_5 : decode cX11_rooms 5 = .ok (.bipush 10, 2) := by decide +kernel
theorem dX11_rooms_7 : decode cX11_rooms 7 = .ok (.if_icmp .lt 20, 3) := by decide +kernel
theorem dX11_rooms_10 : decode cX11_rooms 10 = .ok (.aload_n 0, 1) := by decide +kernel
theorem dX11_rooms_11 : decode cX11_rooms 11 = .ok (.getfield 12, 3) := by decide +kernel
theorem dX11_rooms_14 : decode cX11_rooms 14 = .ok (.getfield 79, 3) := by decide +kernel
theorem dX11_rooms_17 : decode cX11_rooms 17 = .ok (.iload_n 1, 1) := by decide +kernel
theorem dX11_rooms_18 : decode cX11_rooms 18 = .ok (.bipush 10, 2) := by decide +kernel
theorem dX11_rooms_20 : decode cX11_rooms 20 = .ok (.isub, 1) := by decide +kernel
theorem dX11_rooms_21 : decode cX11_rooms 21 = .ok (.invokevirtual 111, 3) := by decide +kernel
theorem dX11_rooms_24 : decode cX11_rooms 24 = .ok (.ifCond .ne 5, 3) := by decide +kernel
theorem dX11_rooms_27 : decode cX11_rooms 27 = .ok (.iconst (-1), 1) := by decide +kernel
theorem dX11_rooms_28 : decode cX11_rooms 28 = .ok (.ireturn, 1) := by decide +kernel
theorem dX11_rooms_29 : decode cX11_rooms 29 = .ok (.aload_n 0, 1) := by decide +kernel
theorem dX11_rooms_30 : decode cX11_rooms 30 = .ok (.getfield 12, 3) := by decide +kernel
theorem dX11_rooms_33 : decode cX11_rooms 33 = .ok (.getfield 79, 3) := by decide +kernel
theorem dX11_rooms_36 : decode cX11_rooms 36 = .ok (.invokevirtual 326, 3) := by decide +kernel
theorem dX11_rooms_39 : decode cX11_rooms 39 = .ok (.istore_n 2, 1) := by decide +kernel
theorem dX11_rooms_40 : decode cX11_rooms 40 = .ok (.iload_n 1, 1) := by decide +kernel
theorem dX11_rooms_41 : decode cX11_rooms 41 = .ok (.ifCond .ne 7, 3) := by decide +kernel
theorem dX11_rooms_44 : decode cX11_rooms 44 = .ok (.iload_n 2, 1) := by decide +kernel
theorem dX11_rooms_45 : decode cX11_rooms 45 = .ok (.goto 18, 3) := by decide +kernel
theorem dX11_rooms_63 : decode cX11_rooms 63 = .ok (.ireturn, 1) := by decide +kernel
theorem dX11_run_0 : decode cX11_run 0 = .ok (.iload_n 1, 1) := by decide +kernel
theorem dX11_run_1 : decode cX11_run 1 = .ok (.iconst 1, 1) := by decide +kernel
theorem dX11_run_2 : decode cX11_run 2 = .ok (.if_icmp .lt 31, 3) := by decide +kernel
theorem dX11_run_5 : decode cX11_run 5 = .ok (.iload_n 1, 1) := by decide +kernel
theorem dX11_run_6 : decode cX11_run 6 = .ok (.bipush 99, 2) := by decide +kernel
theorem dX11_run_8 : decode cX11_run 8 = .ok (.if_icmp .gt 25, 3) := by decide +kernel
theorem dX11_run_11 : decode cX11_run 11 = .ok (.iload_n 2, 1) := by decide +kernel
theorem dX11_run_12 : decode cX11_run 12 = .ok (.ifCond .lt 21, 3) := by decide +kernel
theorem dX11_run_15 : decode cX11_run 15 = .ok (.iload_n 2, 1) := by decide +kernel
theorem dX11_run_16 : decode cX11_run 16 = .ok (.iconst 3, 1) := by decide +kernel
theorem dX11_run_17 : decode cX11_run 17 = .ok (.if_icmp .gt 16, 3) := by decide +kernel
theorem dX11_run_20 : decode cX11_run 20 = .ok (.aload_n 0, 1) := by decide +kernel
theorem dX11_run_21 : decode cX11_run 21 = .ok (.getfield 12, 3) := by decide +kernel
theorem dX11_run_24 : decode cX11_run 24 = .ok (.getfield 79, 3) := by decide +kernel
theorem dX11_run_27 : decode cX11_run 27 = .ok (.getfield 89, 3) := by decide +kernel
theorem dX11_run_30 : decode cX11_run 30 = .ok (.ifCond .ne 5, 3) := by decide +kernel
theorem dX11_run_33 : decode cX11_run 33 = .ok (.iconst (-1), 1) := by decide +kernel
theorem dX11_run_34 : decode cX11_run 34 = .ok (.ireturn, 1) := by decide +kernel
theorem dX11_sale_0 : decode cX11_sale 0 = .ok (.iload_n 1, 1) := by decide +kernel
theorem dX11_sale_1 : decode cX11_sale 1 = .ok (.ifCond .eq 10, 3) := by decide +kernel
theorem dX11_sale_4 : decode cX11_sale 4 = .ok (.iload_n 1, 1) := by decide +kernel
theorem dX11_sale_5 : decode cX11_sale 5 = .ok (.iconst 1, 1) := by decide +kernel
theorem dX11_sale_6 : decode cX11_sale 6 = .ok (.if_icmp .eq 5, 3) := by decide +kernel
theorem dX11_sale_9 : decode cX11_sale 9 = .ok (.iconst (-1), 1) := by decide +kernel
theorem dX11_sale_10 : decode cX11_sale 10 = .ok (.ireturn, 1) := by decide +kernel
theorem dX11_sale_11 : decode cX11_sale 11 = .ok (.aload_n 0, 1) := by decide +kernel
theorem dX11_sale_12 : decode cX11_sale 12 = .ok (.getfield 12, 3) := by decide +kernel
theorem dX11_sale_15 : decode cX11_sale 15 = .ok (.getfield 79, 3) := by decide +kernel
theorem dX11_sale_18 : decode cX11_sale 18 = .ok (.iconst (-1), 1) := by decide +kernel
theorem dX11_sale_19 : decode cX11_sale 19 = .ok (.invokevirtual 332, 3) := by decide +kernel
theorem dX11_sale_22 : decode cX11_sale 22 = .ok (.istore_n 2, 1) := by decide +kernel
theorem dX11_sale_23 : decode cX11_sale 23 = .ok (.iload_n 2, 1) := by decide +kernel
theorem dX11_sale_24 : decode cX11_sale 24 = .ok (.iconst (-1), 1) := by decide +kernel
theorem dX11_sale_25 : decode cX11_sale 25 = .ok (.if_icmp .eq 7, 3) := by decide +kernel
theorem dX11_sale_32 : decode cX11_sale 32 = .ok (.iload_n 2, 1) := by decide +kernel
theorem dX11_sale_33 : decode cX11_sale 33 = .ok (.ireturn, 1) := by decide +kernel
theorem dX11_state_0 : decode cX11_state 0 = .ok (.aload_n 0, 1) := by decide +kernel
theorem dX11_state_1 : decode cX11_state 1 = .ok (.getfield 12, 3) := by decide +kernel
theorem dX11_state_4 : decode cX11_state 4 = .ok (.getfield 69, 3) := by decide +kernel
theorem dX11_state_7 : decode cX11_state 7 = .ok (.getfield 72, 3) := by decide +kernel
theorem dX11_state_10 : decode cX11_state 10 = .ok (.istore_n 2, 1) := by decide +kernel
theorem dX11_state_11 : decode cX11_state 11 = .ok (.aload_n 0, 1) := by decide +kernel
theorem dX11_state_12 : decode cX11_state 12 = .ok (.getfield 12, 3) := by decide +kernel
theorem dX11_state_15 : decode cX11_state 15 = .ok (.getfield 69, 3) := by decide +kernel
theorem dX11_state_18 : decode cX11_state 18 = .ok (.iload_n 1, 1) := by decide +kernel
theorem dX11_state_19 : decode cX11_state 19 = .ok (.putfield 72, 3) := by decide +kernel
theorem dX11_state_22 : decode cX11_state 22 = .ok (.aload_n 0, 1) := by decide +kernel
theorem dX11_state_23 : decode cX11_state 23 = .ok (.invokevirtual 76, 3) := by decide +kernel
theorem dX11_state_26 : decode cX11_state 26 = .ok (.iload_n 2, 1) := by decide +kernel
theorem dX11_state_27 : decode cX11_state 27 = .ok (.ireturn, 1) := by decide +kernel
theorem dX11_sure_0 : decode cX11_sure 0 = .ok (.aload_n 0, 1) := by decide +kernel
theorem dX11_sure_1 : decode cX11_sure 1 = .ok (.getfield 12, 3) := by decide +kernel
theorem dX11_sure_4 : decode cX11_sure 4 = .ok (.getfield 79, 3) := by decide +kernel
theorem dX11_sure_7 : decode cX11_sure 7 = .ok (.iload_n 1, 1) := by decide +kernel
theorem dX11_sure_8 : decode cX11_sure 8 = .ok (.invokevirtual 111, 3) := by decide +kernel
theorem dX11_sure_11 : decode cX11_sure 11 = .ok (.ifCond .eq 28, 3) := by decide +kernel
theorem dX11_sure_39 : decode cX11_sure 39 = .ok (.iconst (-1), 1) := by decide +kernel
theorem dX11_sure_40 : decode cX11_sure 40 = .ok (.ireturn, 1) := by decide +kernel
theorem dX11_takeDraft_0 : decode cX11_takeDraft 0 = .ok (.iload_n 1, 1) := by decide +kernel
theorem dX11_takeDraft_1 : decode cX11_takeDraft 1 = .ok (.tableswitch 178 0 4 #[35, 57, 79, 105, 141], 35) := by decide +kernel
theorem dX11_takeDraft_36 : decode cX11_takeDraft 36 = .ok (.aload_n 0, 1) := by decide +kernel
theorem dX11_takeDraft_37 : decode cX11_takeDraft 37 = .ok (.getfield 12, 3) := by decide +kernel
theorem dX11_takeDraft_40 : decode cX11_takeDraft 40 = .ok (.getfield 152, 3) := by decide +kernel
theorem dX11_takeDraft_43 : decode cX11_takeDraft 43 = .ok (.aload_n 0, 1) := by decide +kernel
theorem dX11_takeDraft_44 : decode cX11_takeDraft 44 = .ok (.getfield 26, 3) := by decide +kernel
theorem dX11_takeDraft_47 : decode cX11_takeDraft 47 = .ok (.invokevirtual 155, 3) := by decide +kernel
theorem dX11_takeDraft_50 : decode cX11_takeDraft 50 = .ok (.aload_n 0, 1) := by decide +kernel
theorem dX11_takeDraft_51 : decode cX11_takeDraft 51 = .ok (.getfield 26, 3) := by decide +kernel
theorem dX11_takeDraft_54 : decode cX11_takeDraft 54 = .ok (.getfield 159, 3) := by decide +kernel
theorem dX11_takeDraft_57 : decode cX11_takeDraft 57 = .ok (.ireturn, 1) := by decide +kernel
theorem dX11_takeDraft_58 : decode cX11_takeDraft 58 = .ok (.aload_n 0, 1) := by decide +kernel
theorem dX11_takeDraft_59 : decode cX11_takeDraft 59 = .ok (.getfield 12, 3) := by decide +kernel
theorem dX11_takeDraft_62 : decode cX11_takeDraft 62 = .ok (.getfield 162, 3) := by decide +kernel
theorem dX11_takeDraft_65 : decode cX11_takeDraft 65 = .ok (.aload_n 0, 1) := by decide +kernel
theorem dX11_takeDraft_66 : decode cX11_takeDraft 66 = .ok (.getfield 26, 3) := by decide +kernel
theorem dX11_takeDraft_69 : decode cX11_takeDraft 69 = .ok (.invokevirtual 155, 3) := by decide +kernel
theorem dX11_takeDraft_72 : decode cX11_takeDraft 72 = .ok (.aload_n 0, 1) := by decide +kernel
theorem dX11_takeDraft_73 : decode cX11_takeDraft 73 = .ok (.getfield 26, 3) := by decide +kernel
theorem dX11_takeDraft_76 : decode cX11_takeDraft 76 = .ok (.getfield 159, 3) := by decide +kernel
theorem dX11_takeDraft_79 : decode cX11_takeDraft 79 = .ok (.ireturn, 1) := by decide +kernel
theorem dX11_takeDraft_80 : decode cX11_takeDraft 80 = .ok (.aload_n 0, 1) := by decide +kernel
theorem dX11_takeDraft_81 : decode cX11_takeDraft 81 = .ok (.getfield 12, 3) := by decide +kernel
theorem dX11_takeDraft_84 : decode cX11_takeDraft 84 = .ok (.getfield 165, 3) := by decide +kernel
theorem dX11_takeDraft_87 : decode cX11_takeDraft 87 = .ok (.aload_n 0, 1) := by decide +kernel
theorem dX11_takeDraft_88 : decode cX11_takeDraft 88 = .ok (.getfield 33, 3) := by decide +kernel
theorem dX11_takeDraft_91 : decode cX11_takeDraft 91 = .ok (.invokevirtual 168, 3) := by decide +kernel
theorem dX11_takeDraft_94 : decode cX11_takeDraft 94 = .ok (.aload_n 0, 1) := by decide +kernel
theorem dX11_takeDraft_95 : decode cX11_takeDraft 95 = .ok (.invokevirtual 76, 3) := by decide +kernel
theorem dX11_takeDraft_98 : decode cX11_takeDraft 98 = .ok (.aload_n 0, 1) := by decide +kernel
theorem dX11_takeDraft_99 : decode cX11_takeDraft 99 = .ok (.getfield 33, 3) := by decide +kernel
theorem dX11_takeDraft_102 : decode cX11_takeDraft 102 = .ok (.getfield 171, 3) := by decide +kernel
theorem dX11_takeDraft_105 : decode cX11_takeDraft 105 = .ok (.ireturn, 1) := by decide +kernel
theorem dX11_takeDraft_106 : decode cX11_takeDraft 106 = .ok (.aload_n 0, 1) := by decide +kernel
theorem dX11_takeDraft_107 : decode cX11_takeDraft 107 = .ok (.getfield 12, 3) := by decide +kernel
theorem dX11_takeDraft_110 : decode cX11_takeDraft 110 = .ok (.getfield 172, 3) := by decide +kernel
theorem dX11_takeDraft_113 : decode cX11_takeDraft 113 = .ok (.aload_n 0, 1) := by decide +kernel
theorem dX11_takeDraft_114 : decode cX11_takeDraft 114 = .ok (.getfield 40, 3) := by decide +kernel
theorem dX11_takeDraft_117 : decode cX11_takeDraft 117 = .ok (.invokevirtual 175, 3) := by decide +kernel
theorem dX11_takeDraft_120 : decode cX11_takeDraft 120 = .ok (.aload_n 0, 1) := by decide +kernel
theorem dX11_takeDraft_121 : decode cX11_takeDraft 121 = .ok (.getfield 12, 3) := by decide +kernel
theorem dX11_takeDraft_124 : decode cX11_takeDraft 124 = .ok (.getfield 69, 3) := by decide +kernel
theorem dX11_takeDraft_127 : decode cX11_takeDraft 127 = .ok (.invokevirtual 178, 3) := by decide +kernel
theorem dX11_takeDraft_130 : decode cX11_takeDraft 130 = .ok (.aload_n 0, 1) := by decide +kernel
theorem dX11_takeDraft_131 : decode cX11_takeDraft 131 = .ok (.invokevirtual 76, 3) := by decide +kernel
theorem dX11_takeDraft_134 : decode cX11_takeDraft 134 = .ok (.aload_n 0, 1) := by decide +kernel
theorem dX11_takeDraft_135 : decode cX11_takeDraft 135 = .ok (.getfield 40, 3) := by decide +kernel
theorem dX11_takeDraft_138 : decode cX11_takeDraft 138 = .ok (.getfield 181, 3) := by decide +kernel
theorem dX11_takeDraft_141 : decode cX11_takeDraft 141 = .ok (.ireturn, 1) := by decide +kernel
theorem dX11_takeDraft_142 : decode cX11_takeDraft 142 = .ok (.aload_n 0, 1) := by decide +kernel
theorem dX11_takeDraft_143 : decode cX11_takeDraft 143 = .ok (.getfield 12, 3) := by decide +kernel
theorem dX11_takeDraft_146 : decode cX11_takeDraft 146 = .ok (.getfield 182, 3) := by decide +kernel
theorem dX11_takeDraft_149 : decode cX11_takeDraft 149 = .ok (.aload_n 0, 1) := by decide +kernel
theorem dX11_takeDraft_150 : decode cX11_takeDraft 150 = .ok (.getfield 47, 3) := by decide +kernel
theorem dX11_takeDraft_153 : decode cX11_takeDraft 153 = .ok (.invokevirtual 185, 3) := by decide +kernel
theorem dX11_takeDraft_156 : decode cX11_takeDraft 156 = .ok (.aload_n 0, 1) := by decide +kernel
theorem dX11_takeDraft_157 : decode cX11_takeDraft 157 = .ok (.getfield 12, 3) := by decide +kernel
theorem dX11_takeDraft_160 : decode cX11_takeDraft 160 = .ok (.getfield 69, 3) := by decide +kernel
theorem dX11_takeDraft_163 : decode cX11_takeDraft 163 = .ok (.iconst 0, 1) := by decide +kernel
theorem dX11_takeDraft_164 : decode cX11_takeDraft 164 = .ok (.putfield 188, 3) := by decide +kernel
theorem dX11_takeDraft_167 : decode cX11_takeDraft 167 = .ok (.aload_n 0, 1) := by decide +kernel
theorem dX11_takeDraft_168 : decode cX11_takeDraft 168 = .ok (.invokevirtual 76, 3) := by decide +kernel
theorem dX11_takeDraft_171 : decode cX11_takeDraft 171 = .ok (.aload_n 0, 1) := by decide +kernel
theorem dX11_takeDraft_172 : decode cX11_takeDraft 172 = .ok (.getfield 47, 3) := by decide +kernel
theorem dX11_takeDraft_175 : decode cX11_takeDraft 175 = .ok (.getfield 191, 3) := by decide +kernel
theorem dX11_takeDraft_178 : decode cX11_takeDraft 178 = .ok (.ireturn, 1) := by decide +kernel
theorem dX11_takeDraft_179 : decode cX11_takeDraft 179 = .ok (.iconst (-1), 1) := by decide +kernel
theorem dX11_takeDraft_180 : decode cX11_takeDraft 180 = .ok (.ireturn, 1) := by decide +kernel
theorem dX11_text_0 : decode cX11_text 0 = .ok (.aload_n 0, 1) := by decide +kernel
theorem dX11_text_1 : decode cX11_text 1 = .ok (.getfield 12, 3) := by decide +kernel
theorem dX11_text_4 : decode cX11_text 4 = .ok (.getfield 79, 3) := by decide +kernel
theorem dX11_text_7 : decode cX11_text 7 = .ok (.getfield 89, 3) := by decide +kernel
theorem dX11_text_10 : decode cX11_text 10 = .ok (.istore_n 2, 1) := by decide +kernel
theorem dX11_text_11 : decode cX11_text 11 = .ok (.aload_n 0, 1) := by decide +kernel
theorem dX11_text_12 : decode cX11_text 12 = .ok (.getfield 19, 3) := by decide +kernel
theorem dX11_text_15 : decode cX11_text 15 = .ok (.iload_n 1, 1) := by decide +kernel
theorem dX11_text_16 : decode cX11_text 16 = .ok (.invokevirtual 133, 3) := by decide +kernel
theorem dX11_text_19 : decode cX11_text 19 = .ok (.iload_n 1, 1) := by decide +kernel
theorem dX11_text_20 : decode cX11_text 20 = .ok (.tableswitch 95 0 4 #[36, 36, 50, 65, 80], 36) := by decide +kernel
theorem dX11_text_56 : decode cX11_text 56 = .ok (.aload_n 0, 1) := by decide +kernel
theorem dX11_text_57 : decode cX11_text 57 = .ok (.getfield 26, 3) := by decide +kernel
theorem dX11_text_60 : decode cX11_text 60 = .ok (.aload_n 0, 1) := by decide +kernel
theorem dX11_text_61 : decode cX11_text 61 = .ok (.getfield 19, 3) := by decide +kernel
theorem dX11_text_64 : decode cX11_text 64 = .ok (.invokevirtual 136, 3) := by decide +kernel
theorem dX11_text_67 : decode cX11_text 67 = .ok (.goto 48, 3) := by decide +kernel
theorem dX11_text_70 : decode cX11_text 70 = .ok (.aload_n 0, 1) := by decide +kernel
theorem dX11_text_71 : decode cX11_text 71 = .ok (.getfield 33, 3) := by decide +kernel
theorem dX11_text_74 : decode cX11_text 74 = .ok (.aload_n 0, 1) := by decide +kernel
theorem dX11_text_75 : decode cX11_text 75 = .ok (.getfield 19, 3) := by decide +kernel
theorem dX11_text_78 : decode cX11_text 78 = .ok (.iload_n 2, 1) := by decide +kernel
theorem dX11_text_79 : decode cX11_text 79 = .ok (.invokevirtual 140, 3) := by decide +kernel
theorem dX11_text_82 : decode cX11_text 82 = .ok (.goto 33, 3) := by decide +kernel
theorem dX11_text_85 : decode cX11_text 85 = .ok (.aload_n 0, 1) := by decide +kernel
theorem dX11_text_86 : decode cX11_text 86 = .ok (.getfield 40, 3) := by decide +kernel
theorem dX11_text_89 : decode cX11_text 89 = .ok (.aload_n 0, 1) := by decide +kernel
theorem dX11_text_90 : decode cX11_text 90 = .ok (.getfield 19, 3) := by decide +kernel
theorem dX11_text_93 : decode cX11_text 93 = .ok (.iload_n 2, 1) := by decide +kernel
theorem dX11_text_94 : decode cX11_text 94 = .ok (.invokevirtual 143, 3) := by decide +kernel
theorem dX11_text_97 : decode cX11_text 97 = .ok (.goto 18, 3) := by decide +kernel
theorem dX11_text_100 : decode cX11_text 100 = .ok (.aload_n 0, 1) := by decide +kernel
theorem dX11_text_101 : decode cX11_text 101 = .ok (.getfield 47, 3) := by decide +kernel
theorem dX11_text_104 : decode cX11_text 104 = .ok (.aload_n 0, 1) := by decide +kernel
theorem dX11_text_105 : decode cX11_text 105 = .ok (.getfield 19, 3) := by decide +kernel
theorem dX11_text_108 : decode cX11_text 108 = .ok (.iload_n 2, 1) := by decide +kernel
theorem dX11_text_109 : decode cX11_text 109 = .ok (.invokevirtual 144, 3) := by decide +kernel
theorem dX11_text_112 : decode cX11_text 112 = .ok (.goto 3, 3) := by decide +kernel
theorem dX11_text_115 : decode cX11_text 115 = .ok (.aload_n 0, 1) := by decide +kernel
theorem dX11_text_116 : decode cX11_text 116 = .ok (.getfield 19, 3) := by decide +kernel
theorem dX11_text_119 : decode cX11_text 119 = .ok (.iconst 0, 1) := by decide +kernel
theorem dX11_text_120 : decode cX11_text 120 = .ok (.putfield 126, 3) := by decide +kernel
theorem dX11_text_123 : decode cX11_text 123 = .ok (.aload_n 0, 1) := by decide +kernel
theorem dX11_text_124 : decode cX11_text 124 = .ok (.getfield 19, 3) := by decide +kernel
theorem dX11_text_127 : decode cX11_text 127 = .ok (.getfield 145, 3) := by decide +kernel
theorem dX11_text_130 : decode cX11_text 130 = .ok (.ifCond .ne 11, 3) := by decide +kernel
theorem dX11_text_133 : decode cX11_text 133 = .ok (.aload_n 0, 1) := by decide +kernel
theorem dX11_text_134 : decode cX11_text 134 = .ok (.iload_n 1, 1) := by decide +kernel
theorem dX11_text_135 : decode cX11_text 135 = .ok (.invokevirtual 148, 3) := by decide +kernel
theorem dX11_text_138 : decode cX11_text 138 = .ok (.goto 4, 3) := by decide +kernel
theorem dX11_text_142 : decode cX11_text 142 = .ok (.ireturn, 1) := by decide +kernel
theorem dX11_undo_0 : decode cX11_undo 0 = .ok (.aload_n 0, 1) := by decide +kernel
theorem dX11_undo_1 : decode cX11_undo 1 = .ok (.getfield 211, 3) := by decide +kernel
theorem dX11_undo_4 : decode cX11_undo 4 = .ok (.ifCond .gt 5, 3) := by decide +kernel
theorem dX11_undo_7 : decode cX11_undo 7 = .ok (.iconst 0, 1) := by decide +kernel
theorem dX11_undo_8 : decode cX11_undo 8 = .ok (.ireturn, 1) := by decide +kernel
theorem dX11_ways_0 : decode cX11_ways 0 = .ok (.iload_n 1, 1) := by decide +kernel
theorem dX11_ways_1 : decode cX11_ways 1 = .ok (.iconst 1, 1) := by decide +kernel
theorem dX11_ways_2 : decode cX11_ways 2 = .ok (.if_icmp .lt 9, 3) := by decide +kernel
theorem dX11_ways_5 : decode cX11_ways 5 = .ok (.iload_n 1, 1) := by decide +kernel
theorem dX11_ways_6 : decode cX11_ways 6 = .ok (.bipush 10, 2) := by decide +kernel
theorem dX11_ways_8 : decode cX11_ways 8 = .ok (.if_icmp .le 7, 3) := by decide +kernel
theorem dX11_ways_11 : decode cX11_ways 11 = .ok (.ldc2_w 356, 3) := by decide +kernel
theorem dX11_ways_14 : decode cX11_ways 14 = .ok (.lreturn, 1) := by decide +kernel
theorem dX11_ways_15 : decode cX11_ways 15 = .ok (.aload_n 0, 1) := by decide +kernel
theorem dX11_ways_16 : decode cX11_ways 16 = .ok (.getfield 61, 3) := by decide +kernel
theorem dX11_ways_19 : decode cX11_ways 19 = .ok (.aload_n 0, 1) := by decide +kernel
theorem dX11_ways_20 : decode cX11_ways 20 = .ok (.getfield 12, 3) := by decide +kernel
theorem dX11_ways_23 : decode cX11_ways 23 = .ok (.iload_n 1, 1) := by decide +kernel
theorem dX11_ways_24 : decode cX11_ways 24 = .ok (.invokevirtual 358, 3) := by decide +kernel
theorem dX11_ways_27 : decode cX11_ways 27 = .ok (.lreturn, 1) := by decide +kernel
theorem dX12_allRows_0 : decode cX12_allRows 0 = .ok (.lconst 0, 1) := by decide +kernel
theorem dX12_allRows_1 : decode cX12_allRows 1 = .ok (.lstore_n 2, 1) := by decide +kernel
theorem dX12_allRows_2 : decode cX12_allRows 2 = .ok (.iconst 0, 1) := by decide +kernel
theorem dX12_allRows_3 : decode cX12_allRows 3 = .ok (.istore 4, 2) := by decide +kernel
theorem dX12_allRows_5 : decode cX12_allRows 5 = .ok (.iload 4, 2) := by decide +kernel
theorem dX12_allRows_7 : decode cX12_allRows 7 = .ok (.aload_n 0, 1) := by decide +kernel
theorem dX12_allRows_8 : decode cX12_allRows 8 = .ok (.getfield 148, 3) := by decide +kernel
theorem dX12_allRows_11 : decode cX12_allRows 11 = .ok (.if_icmp .ge 26, 3) := by decide +kernel
theorem dX12_allRows_37 : decode cX12_allRows 37 = .ok (.lload_n 2, 1) := by decide +kernel
theorem dX12_allRows_38 : decode cX12_allRows 38 = .ok (.lreturn, 1) := by decide +kernel
theorem dX12_ask_0 : decode cX12_ask 0 = .ok (.aload_n 0, 1) := by decide +kernel
theorem dX12_ask_1 : decode cX12_ask 1 = .ok (.iconst 0, 1) := by decide +kernel
theorem dX12_ask_2 : decode cX12_ask 2 = .ok (.putfield 130, 3) := by decide +kernel
theorem dX12_ask_5 : decode cX12_ask 5 = .ok (.aload_n 0, 1) := by decide +kernel
theorem dX12_ask_6 : decode cX12_ask 6 = .ok (.iload_n 1, 1) := by decide +kernel
theorem dX12_ask_7 : decode cX12_ask 7 = .ok (.iconst 1, 1) := by decide +kernel
theorem dX12_ask_8 : decode cX12_ask 8 = .ok (.bipush 10, 2) := by decide +kernel
theorem dX12_ask_10 : decode cX12_ask 10 = .ok (.invokevirtual 151, 3) := by decide +kernel
theorem dX12_ask_13 : decode cX12_ask 13 = .ok (.ifCond .eq 13, 3) := by decide +kernel
theorem dX12_ask_16 : decode cX12_ask 16 = .ok (.aload_n 0, 1) := by decide +kernel
theorem dX12_ask_17 : decode cX12_ask 17 = .ok (.iload_n 2, 1) := by decide +kernel
theorem dX12_ask_18 : decode cX12_ask 18 = .ok (.iconst 0, 1) := by decide +kernel
theorem dX12_ask_19 : decode cX12_ask 19 = .ok (.iconst 1, 1) := by decide +kernel
theorem dX12_ask_20 : decode cX12_ask 20 = .ok (.invokevirtual 151, 3) := by decide +kernel
theorem dX12_ask_23 : decode cX12_ask 23 = .ok (.ifCond .ne 5, 3) := by decide +kernel
theorem dX12_ask_26 : decode cX12_ask 26 = .ok (.iconst (-1), 1) := by decide +kernel
theorem dX12_ask_27 : decode cX12_ask 27 = .ok (.ireturn, 1) := by decide +kernel
theorem dX12_ask_28 : decode cX12_ask 28 = .ok (.aload_n 0, 1) := by decide +kernel
theorem dX12_ask_29 : decode cX12_ask 29 = .ok (.iload_n 1, 1) := by decide +kernel
theorem dX12_ask_30 : decode cX12_ask 30 = .ok (.invokevirtual 529, 3) := by decide +kernel
theorem dX12_ask_33 : decode cX12_ask 33 = .ok (.aload_n 0, 1) := by decide +kernel
theorem dX12_ask_34 : decode cX12_ask 34 = .ok (.iload_n 1, 1) := by decide +kernel
theorem dX12_ask_35 : decode cX12_ask 35 = .ok (.invokevirtual 532, 3) := by decide +kernel
theorem dX12_ask_38 : decode cX12_ask 38 = .ok (.lstore_n 3, 1) := by decide +kernel
theorem dX12_ask_39 : decode cX12_ask 39 = .ok (.iconst (-1), 1) := by decide +kernel
theorem dX12_ask_40 : decode cX12_ask 40 = .ok (.istore 5, 2) := by decide +kernel
theorem dX12_ask_42 : decode cX12_ask 42 = .ok (.lload_n 3, 1) := by decide +kernel
theorem dX12_ask_43 : decode cX12_ask 43 = .ok (.lstore 6, 2) := by decide +kernel
theorem dX12_ask_45 : decode cX12_ask 45 = .ok (.iconst 0, 1) := by decide +kernel
theorem dX12_ask_46 : decode cX12_ask 46 = .ok (.istore 8, 2) := by decide +kernel
theorem dX12_ask_48 : decode cX12_ask 48 = .ok (.iload 8, 2) := by decide +kernel
theorem dX12_ask_50 : decode cX12_ask 50 = .ok (.iload_n 1, 1) := by decide +kernel
theorem dX12_ask_51 : decode cX12_ask 51 = .ok (.if_icmp .ge 95, 3) := by decide +kernel
theorem dX12_ask_54 : decode cX12_ask 54 = .ok (.lload_n 3, 1) := by decide +kernel
theorem dX12_ask_55 : decode cX12_ask 55 = .ok (.lconst 0, 1) := by decide +kernel
theorem dX12_ask_56 : decode cX12_ask 56 = .ok (.lcmp, 1) := by decide +kernel
theorem dX12_ask_57 : decode cX12_ask 57 = .ok (.ifCond .le 89, 3) := by decide +kernel
theorem dX12_ask_146 : decode cX12_ask 146 = .ok (.iload 5, 2) := by decide +kernel
theorem dX12_ask_148 : decode cX12_ask 148 = .ok (.iconst (-1), 1) := by decide +kernel
theorem dX12_ask_149 : decode cX12_ask 149 = .ok (.if_icmp .ne 7, 3) := by decide +kernel
theorem dX12_ask_152 : decode cX12_ask 152 = .ok (.iconst (-1), 1) := by decide +kernel
theorem dX12_ask_153 : decode cX12_ask 153 = .ok (.goto 20, 3) := by decide +kernel
theorem dX12_ask_173 : decode cX12_ask 173 = .ok (.ireturn, 1) := by decide +kernel
theorem dX12_been_0 : decode cX12_been 0 = .ok (.aload_n 0, 1) := by decide +kernel
theorem dX12_been_1 : decode cX12_been 1 = .ok (.iconst 0, 1) := by decide +kernel
theorem dX12_been_2 : decode cX12_been 2 = .ok (.putfield 130, 3) := by decide +kernel
theorem dX12_been_5 : decode cX12_been 5 = .ok (.aload_n 0, 1) := by decide +kernel
theorem dX12_been_6 : decode cX12_been 6 = .ok (.iload_n 1, 1) := by decide +kernel
theorem dX12_been_7 : decode cX12_been 7 = .ok (.iconst 1, 1) := by decide +kernel
theorem dX12_been_8 : decode cX12_been 8 = .ok (.bipush 10, 2) := by decide +kernel
theorem dX12_been_10 : decode cX12_been 10 = .ok (.invokevirtual 151, 3) := by decide +kernel
theorem dX12_been_13 : decode cX12_been 13 = .ok (.ifCond .eq 15, 3) := by decide +kernel
theorem dX12_been_16 : decode cX12_been 16 = .ok (.aload_n 0, 1) := by decide +kernel
theorem dX12_been_17 : decode cX12_been 17 = .ok (.iload_n 2, 1) := by decide +kernel
theorem dX12_been_18 : decode cX12_been 18 = .ok (.iconst 0, 1) := by decide +kernel
theorem dX12_been_19 : decode cX12_been 19 = .ok (.iload_n 1, 1) := by decide +kernel
theorem dX12_been_20 : decode cX12_been 20 = .ok (.iconst 1, 1) := by decide +kernel
theorem dX12_been_21 : decode cX12_been 21 = .ok (.isub, 1) := by decide +kernel
theorem dX12_been_22 : decode cX12_been 22 = .ok (.invokevirtual 151, 3) := by decide +kernel
theorem dX12_been_25 : decode cX12_been 25 = .ok (.ifCond .ne 5, 3) := by decide +kernel
theorem dX12_been_28 : decode cX12_been 28 = .ok (.iconst (-1), 1) := by decide +kernel
theorem dX12_been_29 : decode cX12_been 29 = .ok (.ireturn, 1) := by decide +kernel
theorem dX12_been_30 : decode cX12_been 30 = .ok (.aload_n 0, 1) := by decide +kernel
theorem dX12_been_31 : decode cX12_been 31 = .ok (.iload_n 1, 1) := by decide +kernel
theorem dX12_been_32 : decode cX12_been 32 = .ok (.invokevirtual 529, 3) := by decide +kernel
theorem dX12_been_35 : decode cX12_been 35 = .ok (.iconst 0, 1) := by decide +kernel
theorem dX12_been_36 : decode cX12_been 36 = .ok (.istore_n 3, 1) := by decide +kernel
theorem dX12_been_37 : decode cX12_been 37 = .ok (.iconst 0, 1) := by decide +kernel
theorem dX12_been_38 : decode cX12_been 38 = .ok (.istore 4, 2) := by decide +kernel
theorem dX12_been_40 : decode cX12_been 40 = .ok (.iload 4, 2) := by decide +kernel
theorem dX12_been_42 : decode cX12_been 42 = .ok (.aload_n 0, 1) := by decide +kernel
theorem dX12_been_43 : decode cX12_been 43 = .ok (.getfield 148, 3) := by decide +kernel
theorem dX12_been_46 : decode cX12_been 46 = .ok (.if_icmp .ge 28, 3) := by decide +kernel
theorem dX12_been_74 : decode cX12_been 74 = .ok (.iload_n 3, 1) := by decide +kernel
theorem dX12_been_75 : decode cX12_been 75 = .ok (.ireturn, 1) := by decide +kernel
theorem dX12_best_0 : decode cX12_best 0 = .ok (.aload_n 0, 1) := by decide +kernel
theorem dX12_best_1 : decode cX12_best 1 = .ok (.iconst 0, 1) := by decide +kernel
theorem dX12_best_2 : decode cX12_best 2 = .ok (.putfield 130, 3) := by decide +kernel
theorem dX12_best_5 : decode cX12_best 5 = .ok (.aload_n 0, 1) := by decide +kernel
theorem dX12_best_6 : decode cX12_best 6 = .ok (.iload_n 1, 1) := by decide +kernel
theorem dX12_best_7 : decode cX12_best 7 = .ok (.invokevirtual 155, 3) := by decide +kernel
theorem dX12_best_10 : decode cX12_best 10 = .ok (.ifCond .eq 14, 3) := by decide +kernel
theorem dX12_best_24 : decode cX12_best 24 = .ok (.iconst (-1), 1) := by decide +kernel
theorem dX12_best_25 : decode cX12_best 25 = .ok (.ireturn, 1) := by decide +kernel
theorem dX12_book_0 : decode cX12_book 0 = .ok (.aload_n 0, 1) := by decide +kernel
theorem dX12_book_1 : decode cX12_book 1 = .ok (.iconst 0, 1) := by decide +kernel
theorem dX12_book_2 : decode cX12_book 2 = .ok (.putfield 130, 3) := by decide +kernel
theorem dX12_book_5 : decode cX12_book 5 = .ok (.aload_n 0, 1) := by decide +kernel
theorem dX12_book_6 : decode cX12_book 6 = .ok (.iload_n 1, 1) := by decide +kernel
theorem dX12_book_7 : decode cX12_book 7 = .ok (.iconst 0, 1) := by decide +kernel
theorem dX12_book_8 : decode cX12_book 8 = .ok (.aload_n 0, 1) := by decide +kernel
theorem dX12_book_9 : decode cX12_book 9 = .ok (.getfield 7, 3) := by decide +kernel
theorem dX12_book_12 : decode cX12_book 12 = .ok (.iconst 2, 1) := by decide +kernel
theorem dX12_book_13 : decode cX12_book 13 = .ok (.iaload, 1) := by decide +kernel
theorem dX12_book_14 : decode cX12_book 14 = .ok (.iconst 1, 1) := by decide +kernel
theorem dX12_book_15 : decode cX12_book 15 = .ok (.isub, 1) := by decide +kernel
theorem dX12_book_16 : decode cX12_book 16 = .ok (.invokevirtual 151, 3) := by decide +kernel
theorem dX12_book_19 : decode cX12_book 19 = .ok (.ifCond .eq 27, 3) := by decide +kernel
theorem dX12_book_46 : decode cX12_book 46 = .ok (.iconst (-1), 1) := by decide +kernel
theorem dX12_book_47 : decode cX12_book 47 = .ok (.ireturn, 1) := by decide +kernel
theorem dX12_canSet_0 : decode cX12_canSet 0 = .ok (.aload_n 0, 1) := by decide +kernel
theorem dX12_canSet_1 : decode cX12_canSet 1 = .ok (.iload_n 1, 1) := by decide +kernel
theorem dX12_canSet_2 : decode cX12_canSet 2 = .ok (.iconst 0, 1) := by decide +kernel
theorem dX12_canSet_3 : decode cX12_canSet 3 = .ok (.bipush 10, 2) := by decide +kernel
theorem dX12_canSet_5 : decode cX12_canSet 5 = .ok (.invokevirtual 151, 3) := by decide +kernel
theorem dX12_canSet_8 : decode cX12_canSet 8 = .ok (.ifCond .eq 16, 3) := by decide +kernel
theorem dX12_canSet_11 : decode cX12_canSet 11 = .ok (.iload_n 1, 1) := by decide +kernel
theorem dX12_canSet_12 : decode cX12_canSet 12 = .ok (.iconst 5, 1) := by decide +kernel
theorem dX12_canSet_13 : decode cX12_canSet 13 = .ok (.if_icmp .le 13, 3) := by decide +kernel
theorem dX12_canSet_16 : decode cX12_canSet 16 = .ok (.aload_n 0, 1) := by decide +kernel
theorem dX12_canSet_17 : decode cX12_canSet 17 = .ok (.iload_n 2, 1) := by decide +kernel
theorem dX12_canSet_18 : decode cX12_canSet 18 = .ok (.invokevirtual 155, 3) := by decide +kernel
theorem dX12_canSet_21 : decode cX12_canSet 21 = .ok (.ifCond .ne 5, 3) := by decide +kernel
theorem dX12_canSet_24 : decode cX12_canSet 24 = .ok (.iconst 0, 1) := by decide +kernel
theorem dX12_canSet_25 : decode cX12_canSet 25 = .ok (.ireturn, 1) := by decide +kernel
theorem dX12_canSet_26 : decode cX12_canSet 26 = .ok (.aload_n 0, 1) := by decide +kernel
theorem dX12_canSet_27 : decode cX12_canSet 27 = .ok (.iload_n 3, 1) := by decide +kernel
theorem dX12_canSet_28 : decode cX12_canSet 28 = .ok (.iload_n 1, 1) := by decide +kernel
theorem dX12_canSet_29 : decode cX12_canSet 29 = .ok (.iconst 3, 1) := by decide +kernel
theorem dX12_canSet_30 : decode cX12_canSet 30 = .ok (.if_icmp .eq 14, 3) := by decide +kernel
theorem dX12_canSet_33 : decode cX12_canSet 33 = .ok (.iload_n 1, 1) := by decide +kernel
theorem dX12_canSet_34 : decode cX12_canSet 34 = .ok (.iconst 4, 1) := by decide +kernel
theorem dX12_canSet_35 : decode cX12_canSet 35 = .ok (.if_icmp .eq 9, 3) := by decide +kernel
theorem dX12_canSet_38 : decode cX12_canSet 38 = .ok (.iload_n 1, 1) := by decide +kernel
theorem dX12_canSet_39 : decode cX12_canSet 39 = .ok (.bipush 6, 2) := by decide +kernel
theorem dX12_canSet_41 : decode cX12_canSet 41 = .ok (.if_icmp .ne 7, 3) := by decide +kernel
theorem dX12_canSet_44 : decode cX12_canSet 44 = .ok (.iconst 1, 1) := by decide +kernel
theorem dX12_canSet_45 : decode cX12_canSet 45 = .ok (.goto 4, 3) := by decide +kernel
theorem dX12_canSet_48 : decode cX12_canSet 48 = .ok (.iconst 0, 1) := by decide +kernel
theorem dX12_canSet_49 : decode cX12_canSet 49 = .ok (.aload_n 0, 1) := by decide +kernel
theorem dX12_canSet_50 : decode cX12_canSet 50 = .ok (.iload_n 1, 1) := by decide +kernel
theorem dX12_canSet_51 : decode cX12_canSet 51 = .ok (.invokevirtual 159, 3) := by decide +kernel
theorem dX12_canSet_54 : decode cX12_canSet 54 = .ok (.invokevirtual 151, 3) := by decide +kernel
theorem dX12_canSet_57 : decode cX12_canSet 57 = .ok (.ireturn, 1) := by decide +kernel
theorem dX12_clue_0 : decode cX12_clue 0 = .ok (.aload_n 0, 1) := by decide +kernel
theorem dX12_clue_1 : decode cX12_clue 1 = .ok (.iconst 0, 1) := by decide +kernel
theorem dX12_clue_2 : decode cX12_clue 2 = .ok (.putfield 130, 3) := by decide +kernel
theorem dX12_clue_5 : decode cX12_clue 5 = .ok (.iload_n 1, 1) := by decide +kernel
theorem dX12_clue_6 : decode cX12_clue 6 = .ok (.iconst (-1), 1) := by decide +kernel
theorem dX12_clue_7 : decode cX12_clue 7 = .ok (.if_icmp .ne 10, 3) := by decide +kernel
theorem dX12_clue_10 : decode cX12_clue 10 = .ok (.aload_n 0, 1) := by decide +kernel
theorem dX12_clue_11 : decode cX12_clue 11 = .ok (.iconst 0, 1) := by decide +kernel
theorem dX12_clue_12 : decode cX12_clue 12 = .ok (.putfield 517, 3) := by decide +kernel
theorem dX12_clue_15 : decode cX12_clue 15 = .ok (.iconst 0, 1) := by decide +kernel
theorem dX12_clue_16 : decode cX12_clue 16 = .ok (.ireturn, 1) := by decide +kernel
theorem dX12_clue_17 : decode cX12_clue 17 = .ok (.aload_n 0, 1) := by decide +kernel
theorem dX12_clue_18 : decode cX12_clue 18 = .ok (.iload_n 1, 1) := by decide +kernel
theorem dX12_clue_19 : decode cX12_clue 19 = .ok (.iconst 0, 1) := by decide +kernel
theorem dX12_clue_20 : decode cX12_clue 20 = .ok (.bipush 9, 2) := by decide +kernel
theorem dX12_clue_22 : decode cX12_clue 22 = .ok (.invokevirtual 151, 3) := by decide +kernel
theorem dX12_clue_25 : decode cX12_clue 25 = .ok (.ifCond .eq 27, 3) := by decide +kernel
theorem dX12_clue_28 : decode cX12_clue 28 = .ok (.iload_n 2, 1) := by decide +kernel
theorem dX12_clue_29 : decode cX12_clue 29 = .ok (.iconst 1, 1) := by decide +kernel
theorem dX12_clue_30 : decode cX12_clue 30 = .ok (.if_icmp .lt 22, 3) := by decide +kernel
theorem dX12_clue_33 : decode cX12_clue 33 = .ok (.iload_n 2, 1) := by decide +kernel
theorem dX12_clue_34 : decode cX12_clue 34 = .ok (.iconst 1, 1) := by decide +kernel
theorem dX12_clue_35 : decode cX12_clue 35 = .ok (.aload_n 0, 1) := by decide +kernel
theorem dX12_clue_36 : decode cX12_clue 36 = .ok (.getfield 148, 3) := by decide +kernel
theorem dX12_clue_39 : decode cX12_clue 39 = .ok (.ishl, 1) := by decide +kernel
theorem dX12_clue_40 : decode cX12_clue 40 = .ok (.if_icmp .ge 12, 3) := by decide +kernel
theorem dX12_clue_52 : decode cX12_clue 52 = .ok (.iconst (-1), 1) := by decide +kernel
theorem dX12_clue_53 : decode cX12_clue 53 = .ok (.ireturn, 1) := by decide +kernel
theorem dX12_due_0 : decode cX12_due 0 = .ok (.aload_n 0, 1) := by decide +kernel
theorem dX12_due_1 : decode cX12_due 1 = .ok (.getfield 145, 3) := by decide +kernel
theorem dX12_due_4 : decode cX12_due 4 = .ok (.bipush 30, 2) := by decide +kernel
theorem dX12_due_6 : decode cX12_due 6 = .ok (.iadd, 1) := by decide +kernel
theorem dX12_due_7 : decode cX12_due 7 = .ok (.ireturn, 1) := by decide +kernel
theorem dX12_dusk_0 : decode cX12_dusk 0 = .ok (.aload_n 0, 1) := by decide +kernel
theorem dX12_dusk_1 : decode cX12_dusk 1 = .ok (.getfield 142, 3) := by decide +kernel
theorem dX12_dusk_4 : decode cX12_dusk 4 = .ok (.bipush 20, 2) := by decide +kernel
theorem dX12_dusk_6 : decode cX12_dusk 6 = .ok (.iadd, 1) := by decide +kernel
theorem dX12_dusk_7 : decode cX12_dusk 7 = .ok (.ireturn, 1) := by decide +kernel
theorem dX12_end_0 : decode cX12_end 0 = .ok (.aload_n 0, 1) := by decide +kernel
theorem dX12_end_1 : decode cX12_end 1 = .ok (.iconst 0, 1) := by decide +kernel
theorem dX12_end_2 : decode cX12_end 2 = .ok (.putfield 130, 3) := by decide +kernel
theorem dX12_end_5 : decode cX12_end 5 = .ok (.aload_n 0, 1) := by decide +kernel
theorem dX12_end_6 : decode cX12_end 6 = .ok (.iload_n 1, 1) := by decide +kernel
theorem dX12_end_7 : decode cX12_end 7 = .ok (.iconst 0, 1) := by decide +kernel
theorem dX12_end_8 : decode cX12_end 8 = .ok (.aload_n 0, 1) := by decide +kernel
theorem dX12_end_9 : decode cX12_end 9 = .ok (.getfield 172, 3) := by decide +kernel
theorem dX12_end_12 : decode cX12_end 12 = .ok (.invokevirtual 151, 3) := by decide +kernel
theorem dX12_end_15 : decode cX12_end 15 = .ok (.ifCond .ne 5, 3) := by decide +kernel
theorem dX12_end_18 : decode cX12_end 18 = .ok (.iconst 0, 1) := by decide +kernel
theorem dX12_end_19 : decode cX12_end 19 = .ok (.ireturn, 1) := by decide +kernel
theorem dX12_end_20 : decode cX12_end 20 = .ok (.aload_n 0, 1) := by decide +kernel
theorem dX12_end_21 : decode cX12_end 21 = .ok (.iload_n 1, 1) := by decide +kernel
theorem dX12_end_22 : decode cX12_end 22 = .ok (.putfield 172, 3) := by decide +kernel
theorem dX12_end_25 : decode cX12_end 25 = .ok (.iconst 1, 1) := by decide +kernel
theorem dX12_end_26 : decode cX12_end 26 = .ok (.ireturn, 1) := by decide +kernel
theorem dX12_far_0 : decode cX12_far 0 = .ok (.aload_n 0, 1) := by decide +kernel
theorem dX12_far_1 : decode cX12_far 1 = .ok (.iconst 0, 1) := by decide +kernel
theorem dX12_far_2 : decode cX12_far 2 = .ok (.putfield 130, 3) := by decide +kernel
theorem dX12_far_5 : decode cX12_far 5 = .ok (.aload_n 0, 1) := by decide +kernel
theorem dX12_far_6 : decode cX12_far 6 = .ok (.iload_n 1, 1) := by decide +kernel
theorem dX12_far_7 : decode cX12_far 7 = .ok (.invokevirtual 155, 3) := by decide +kernel
theorem dX12_far_10 : decode cX12_far 10 = .ok (.ifCond .eq 11, 3) := by decide +kernel
theorem dX12_far_21 : decode cX12_far 21 = .ok (.iconst (-1), 1) := by decide +kernel
theorem dX12_far_22 : decode cX12_far 22 = .ok (.ireturn, 1) := by decide +kernel
theorem dX12_fault_0 : decode cX12_fault 0 = .ok (.aload_n 0, 1) := by decide +kernel
theorem dX12_fault_1 : decode cX12_fault 1 = .ok (.iconst 0, 1) := by decide +kernel
theorem dX12_fault_2 : decode cX12_fault 2 = .ok (.putfield 130, 3) := by decide +kernel
theorem dX12_fault_5 : decode cX12_fault 5 = .ok (.iload_n 1, 1) := by decide +kernel
theorem dX12_fault_6 : decode cX12_fault 6 = .ok (.ifCond .ne 10, 3) := by decide +kernel
theorem dX12_fault_9 : decode cX12_fault 9 = .ok (.aload_n 0, 1) := by decide +kernel
theorem dX12_fault_10 : decode cX12_fault 10 = .ok (.getfield 330, 3) := by decide +kernel
theorem dX12_fault_13 : decode cX12_fault 13 = .ok (.goto 16, 3) := by decide +kernel
theorem dX12_fault_16 : decode cX12_fault 16 = .ok (.iload_n 1, 1) := by decide +kernel
theorem dX12_fault_17 : decode cX12_fault 17 = .ok (.iconst 1, 1) := by decide +kernel
theorem dX12_fault_18 : decode cX12_fault 18 = .ok (.if_icmp .ne 10, 3) := by decide +kernel
theorem dX12_fault_21 : decode cX12_fault 21 = .ok (.aload_n 0, 1) := by decide +kernel
theorem dX12_fault_22 : decode cX12_fault 22 = .ok (.getfield 70, 3) := by decide +kernel
theorem dX12_fault_25 : decode cX12_fault 25 = .ok (.goto 4, 3) := by decide +kernel
theorem dX12_fault_28 : decode cX12_fault 28 = .ok (.iconst (-1), 1) := by decide +kernel
theorem dX12_fault_29 : decode cX12_fault 29 = .ok (.ireturn, 1) := by decide +kernel
theorem dX12_feed_0 : decode cX12_feed 0 = .ok (.aload_n 0, 1) := by decide +kernel
theorem dX12_feed_1 : decode cX12_feed 1 = .ok (.iconst 0, 1) := by decide +kernel
theorem dX12_feed_2 : decode cX12_feed 2 = .ok (.putfield 130, 3) := by decide +kernel
theorem dX12_feed_5 : decode cX12_feed 5 = .ok (.aload_n 0, 1) := by decide +kernel
theorem dX12_feed_6 : decode cX12_feed 6 = .ok (.getfield 172, 3) := by decide +kernel
theorem dX12_feed_9 : decode cX12_feed 9 = .ok (.sipush 380, 3) := by decide +kernel
theorem dX12_feed_12 : decode cX12_feed 12 = .ok (.if_icmp .le 5, 3) := by decide +kernel
theorem dX12_feed_17 : decode cX12_feed 17 = .ok (.aload_n 0, 1) := by decide +kernel
theorem dX12_feed_18 : decode cX12_feed 18 = .ok (.iload_n 1, 1) := by decide +kernel
theorem dX12_feed_19 : decode cX12_feed 19 = .ok (.invokevirtual 175, 3) := by decide +kernel
theorem dX12_feed_22 : decode cX12_feed 22 = .ok (.aload_n 0, 1) := by decide +kernel
theorem dX12_feed_23 : decode cX12_feed 23 = .ok (.iload_n 2, 1) := by decide +kernel
theorem dX12_feed_24 : decode cX12_feed 24 = .ok (.invokevirtual 175, 3) := by decide +kernel
theorem dX12_feed_27 : decode cX12_feed 27 = .ok (.aload_n 0, 1) := by decide +kernel
theorem dX12_feed_28 : decode cX12_feed 28 = .ok (.iload_n 3, 1) := by decide +kernel
theorem dX12_feed_29 : decode cX12_feed 29 = .ok (.invokevirtual 175, 3) := by decide +kernel
theorem dX12_feed_32 : decode cX12_feed 32 = .ok (.aload_n 0, 1) := by decide +kernel
theorem dX12_feed_33 : decode cX12_feed 33 = .ok (.iload 4, 2) := by decide +kernel
theorem dX12_feed_35 : decode cX12_feed 35 = .ok (.invokevirtual 175, 3) := by decide +kernel
theorem dX12_feed_38 : decode cX12_feed 38 = .ok (.aload_n 0, 1) := by decide +kernel
theorem dX12_feed_39 : decode cX12_feed 39 = .ok (.iload 5, 2) := by decide +kernel
theorem dX12_feed_41 : decode cX12_feed 41 = .ok (.invokevirtual 175, 3) := by decide +kernel
theorem dX12_feed_44 : decode cX12_feed 44 = .ok (.aload_n 0, 1) := by decide +kernel
theorem dX12_feed_45 : decode cX12_feed 45 = .ok (.getfield 172, 3) := by decide +kernel
theorem dX12_feed_48 : decode cX12_feed 48 = .ok (.ireturn, 1) := by decide +kernel
theorem dX12_findsFar_0 : decode cX12_findsFar 0 = .ok (.iconst 0, 1) := by decide +kernel
theorem dX12_findsFar_1 : decode cX12_findsFar 1 = .ok (.istore_n 2, 1) := by decide +kernel
theorem dX12_findsFar_2 : decode cX12_findsFar 2 = .ok (.iload_n 2, 1) := by decide +kernel
theorem dX12_findsFar_3 : decode cX12_findsFar 3 = .ok (.bipush 100, 2) := by decide +kernel
theorem dX12_findsFar_5 : decode cX12_findsFar 5 = .ok (.if_icmp .ge 33, 3) := by decide +kernel
theorem dX12_findsFar_8 : decode cX12_findsFar 8 = .ok (.aload_n 0, 1) := by decide +kernel
theorem dX12_findsFar_9 : decode cX12_findsFar 9 = .ok (.getfield 101, 3) := by decide +kernel
theorem dX12_findsFar_12 : decode cX12_findsFar 12 = .ok (.iload_n 2, 1) := by decide +kernel
theorem dX12_findsFar_13 : decode cX12_findsFar 13 = .ok (.iload_n 2, 1) := by decide +kernel
theorem dX12_findsFar_14 : decode cX12_findsFar 14 = .ok (.bipush 10, 2) := by decide +kernel
theorem dX12_findsFar_16 : decode cX12_findsFar 16 = .ok (.idiv, 1) := by decide +kernel
theorem dX12_findsFar_17 : decode cX12_findsFar 17 = .ok (.iload_n 2, 1) := by decide +kernel
theorem dX12_findsFar_18 : decode cX12_findsFar 18 = .ok (.bipush 10, 2) := by decide +kernel
theorem dX12_findsFar_20 : decode cX12_findsFar 20 = .ok (.irem, 1) := by decide +kernel
theorem dX12_findsFar_21 : decode cX12_findsFar 21 = .ok (.if_icmp .ne 7, 3) := by decide +kernel
theorem dX12_findsFar_24 : decode cX12_findsFar 24 = .ok (.iconst 0, 1) := by decide +kernel
theorem dX12_findsFar_25 : decode cX12_findsFar 25 = .ok (.goto 6, 3) := by decide +kernel
theorem dX12_findsFar_28 : decode cX12_findsFar 28 = .ok (.ldc_w 349, 3) := by decide +kernel
theorem dX12_findsFar_31 : decode cX12_findsFar 31 = .ok (.iastore, 1) := by decide +kernel
theorem dX12_findsFar_32 : decode cX12_findsFar 32 = .ok (.iinc 2 1, 3) := by decide +kernel
theorem dX12_findsFar_35 : decode cX12_findsFar 35 = .ok (.goto (-33), 3) := by decide +kernel
theorem dX12_findsFar_38 : decode cX12_findsFar 38 = .ok (.iconst 0, 1) := by decide +kernel
theorem dX12_findsFar_39 : decode cX12_findsFar 39 = .ok (.istore_n 2, 1) := by decide +kernel
theorem dX12_findsFar_40 : decode cX12_findsFar 40 = .ok (.iload_n 2, 1) := by decide +kernel
theorem dX12_findsFar_41 : decode cX12_findsFar 41 = .ok (.aload_n 0, 1) := by decide +kernel
theorem dX12_findsFar_42 : decode cX12_findsFar 42 = .ok (.getfield 321, 3) := by decide +kernel
theorem dX12_findsFar_45 : decode cX12_findsFar 45 = .ok (.if_icmp .ge 123, 3) := by decide +kernel
theorem dX12_findsFar_168 : decode cX12_findsFar 168 = .ok (.iconst 0, 1) := by decide +kernel
theorem dX12_findsFar_169 : decode cX12_findsFar 169 = .ok (.istore_n 2, 1) := by decide +kernel
theorem dX12_findsFar_170 : decode cX12_findsFar 170 = .ok (.iload_n 2, 1) := by decide +kernel
theorem dX12_findsFar_171 : decode cX12_findsFar 171 = .ok (.aload_n 0, 1) := by decide +kernel
theorem dX12_findsFar_172 : decode cX12_findsFar 172 = .ok (.getfield 148, 3) := by decide +kernel
theorem dX12_findsFar_175 : decode cX12_findsFar 175 = .ok (.if_icmp .ge 100, 3) := by decide +kernel
theorem dX12_findsFar_275 : decode cX12_findsFar 275 = .ok (.return_, 1) := by decide +kernel
theorem dX12_findsPairs_0 : decode cX12_findsPairs 0 = .ok (.aload_n 0, 1) := by decide +kernel
theorem dX12_findsPairs_1 : decode cX12_findsPairs 1 = .ok (.getfield 111, 3) := by decide +kernel
theorem dX12_findsPairs_4 : decode cX12_findsPairs 4 = .ok (.iconst 0, 1) := by decide +kernel
theorem dX12_findsPairs_5 : decode cX12_findsPairs 5 = .ok (.iconst 0, 1) := by decide +kernel
theorem dX12_findsPairs_6 : decode cX12_findsPairs 6 = .ok (.iastore, 1) := by decide +kernel
theorem dX12_findsPairs_7 : decode cX12_findsPairs 7 = .ok (.iconst 1, 1) := by decide +kernel
theorem dX12_findsPairs_8 : decode cX12_findsPairs 8 = .ok (.istore_n 1, 1) := by decide +kernel
theorem dX12_findsPairs_9 : decode cX12_findsPairs 9 = .ok (.iload_n 1, 1) := by decide +kernel
theorem dX12_findsPairs_10 : decode cX12_findsPairs 10 = .ok (.iconst 1, 1) := by decide +kernel
theorem dX12_findsPairs_11 : decode cX12_findsPairs 11 = .ok (.aload_n 0, 1) := by decide +kernel
theorem dX12_findsPairs_12 : decode cX12_findsPairs 12 = .ok (.getfield 148, 3) := by decide +kernel
theorem dX12_findsPairs_15 : decode cX12_findsPairs 15 = .ok (.ishl, 1) := by decide +kernel
theorem dX12_findsPairs_16 : decode cX12_findsPairs 16 = .ok (.if_icmp .ge 92, 3) := by decide +kernel
theorem dX12_findsPairs_108 : decode cX12_findsPairs 108 = .ok (.return_, 1) := by decide +kernel
theorem dX12_findsRows_0 : decode cX12_findsRows 0 = .ok (.aload_n 0, 1) := by decide +kernel
theorem dX12_findsRows_1 : decode cX12_findsRows 1 = .ok (.aload_n 0, 1) := by decide +kernel
theorem dX12_findsRows_2 : decode cX12_findsRows 2 = .ok (.getfield 7, 3) := by decide +kernel
theorem dX12_findsRows_5 : decode cX12_findsRows 5 = .ok (.iconst 4, 1) := by decide +kernel
theorem dX12_findsRows_6 : decode cX12_findsRows 6 = .ok (.iaload, 1) := by decide +kernel
theorem dX12_findsRows_7 : decode cX12_findsRows 7 = .ok (.invokevirtual 353, 3) := by decide +kernel
theorem dX12_findsRows_10 : decode cX12_findsRows 10 = .ok (.iconst 0, 1) := by decide +kernel
theorem dX12_findsRows_11 : decode cX12_findsRows 11 = .ok (.istore_n 2, 1) := by decide +kernel
theorem dX12_findsRows_12 : decode cX12_findsRows 12 = .ok (.iload_n 2, 1) := by decide +kernel
theorem dX12_findsRows_13 : decode cX12_findsRows 13 = .ok (.iload_n 1, 1) := by decide +kernel
theorem dX12_findsRows_14 : decode cX12_findsRows 14 = .ok (.if_icmp .ge 69, 3) := by decide +kernel
theorem dX12_findsRows_17 : decode cX12_findsRows 17 = .ok (.iconst 0, 1) := by decide +kernel
theorem dX12_findsRows_18 : decode cX12_findsRows 18 = .ok (.istore_n 3, 1) := by decide +kernel
theorem dX12_findsRows_19 : decode cX12_findsRows 19 = .ok (.iload_n 3, 1) := by decide +kernel
theorem dX12_findsRows_20 : decode cX12_findsRows 20 = .ok (.aload_n 0, 1) := by decide +kernel
theorem dX12_findsRows_21 : decode cX12_findsRows 21 = .ok (.getfield 148, 3) := by decide +kernel
theorem dX12_findsRows_24 : decode cX12_findsRows 24 = .ok (.if_icmp .ge 53, 3) := by decide +kernel
theorem dX12_findsRows_77 : decode cX12_findsRows 77 = .ok (.iinc 2 1, 3) := by decide +kernel
theorem dX12_findsRows_80 : decode cX12_findsRows 80 = .ok (.goto (-68), 3) := by decide +kernel
theorem dX12_findsRows_83 : decode cX12_findsRows 83 = .ok (.iload_n 1, 1) := by decide +kernel
theorem dX12_findsRows_84 : decode cX12_findsRows 84 = .ok (.iconst 1, 1) := by decide +kernel
theorem dX12_findsRows_85 : decode cX12_findsRows 85 = .ok (.isub, 1) := by decide +kernel
theorem dX12_findsRows_86 : decode cX12_findsRows 86 = .ok (.istore_n 2, 1) := by decide +kernel
theorem dX12_findsRows_87 : decode cX12_findsRows 87 = .ok (.iload_n 2, 1) := by decide +kernel
theorem dX12_findsRows_88 : decode cX12_findsRows 88 = .ok (.ifCond .lt 72, 3) := by decide +kernel
theorem dX12_findsRows_91 : decode cX12_findsRows 91 = .ok (.iconst 0, 1) := by decide +kernel
theorem dX12_findsRows_92 : decode cX12_findsRows 92 = .ok (.istore_n 3, 1) := by decide +kernel
theorem dX12_findsRows_93 : decode cX12_findsRows 93 = .ok (.iload_n 3, 1) := by decide +kernel
theorem dX12_findsRows_94 : decode cX12_findsRows 94 = .ok (.aload_n 0, 1) := by decide +kernel
theorem dX12_findsRows_95 : decode cX12_findsRows 95 = .ok (.getfield 148, 3) := by decide +kernel
theorem dX12_findsRows_98 : decode cX12_findsRows 98 = .ok (.if_icmp .ge 56, 3) := by decide +kernel
theorem dX12_findsRows_154 : decode cX12_findsRows 154 = .ok (.iinc 2 (-1), 3) := by decide +kernel
theorem dX12_findsRows_157 : decode cX12_findsRows 157 = .ok (.goto (-70), 3) := by decide +kernel
theorem dX12_findsRows_160 : decode cX12_findsRows 160 = .ok (.return_, 1) := by decide +kernel
theorem dX12_friends_0 : decode cX12_friends 0 = .ok (.aload_n 0, 1) := by decide +kernel
theorem dX12_friends_1 : decode cX12_friends 1 = .ok (.iconst 0, 1) := by decide +kernel
theorem dX12_friends_2 : decode cX12_friends 2 = .ok (.putfield 130, 3) := by decide +kernel
theorem dX12_friends_5 : decode cX12_friends 5 = .ok (.aload_n 0, 1) := by decide +kernel
theorem dX12_friends_6 : decode cX12_friends 6 = .ok (.iload_n 1, 1) := by decide +kernel
theorem dX12_friends_7 : decode cX12_friends 7 = .ok (.invokevirtual 155, 3) := by decide +kernel
theorem dX12_friends_10 : decode cX12_friends 10 = .ok (.ifCond .eq 16, 3) := by decide +kernel
theorem dX12_friends_26 : decode cX12_friends 26 = .ok (.iconst 0, 1) := by decide +kernel
theorem dX12_friends_27 : decode cX12_friends 27 = .ok (.ireturn, 1) := by decide +kernel
theorem dX12_highest_0 : decode cX12_highest 0 = .ok (.iconst (-1), 1) := by decide +kernel
theorem dX12_highest_1 : decode cX12_highest 1 = .ok (.istore_n 2, 1) := by decide +kernel
theorem dX12_highest_2 : decode cX12_highest 2 = .ok (.iconst 0, 1) := by decide +kernel
theorem dX12_highest_3 : decode cX12_highest 3 = .ok (.istore_n 3, 1) := by decide +kernel
theorem dX12_highest_4 : decode cX12_highest 4 = .ok (.iload_n 3, 1) := by decide +kernel
theorem dX12_highest_5 : decode cX12_highest 5 = .ok (.aload_n 0, 1) := by decide +kernel
theorem dX12_highest_6 : decode cX12_highest 6 = .ok (.getfield 148, 3) := by decide +kernel
theorem dX12_highest_9 : decode cX12_highest 9 = .ok (.if_icmp .ge 45, 3) := by decide +kernel
theorem dX12_highest_54 : decode cX12_highest 54 = .ok (.iload_n 2, 1) := by decide +kernel
theorem dX12_highest_55 : decode cX12_highest 55 = .ok (.ireturn, 1) := by decide +kernel
theorem dX12_house_0 : decode cX12_house 0 = .ok (.aload_n 0, 1) := by decide +kernel
theorem dX12_house_1 : decode cX12_house 1 = .ok (.iconst 0, 1) := by decide +kernel
theorem dX12_house_2 : decode cX12_house 2 = .ok (.putfield 130, 3) := by decide +kernel
theorem dX12_house_5 : decode cX12_house 5 = .ok (.aload_n 0, 1) := by decide +kernel
theorem dX12_house_6 : decode cX12_house 6 = .ok (.iload_n 1, 1) := by decide +kernel
theorem dX12_house_7 : decode cX12_house 7 = .ok (.iconst 0, 1) := by decide +kernel
theorem dX12_house_8 : decode cX12_house 8 = .ok (.bipush 63, 2) := by decide +kernel
theorem dX12_house_10 : decode cX12_house 10 = .ok (.invokevirtual 151, 3) := by decide +kernel
theorem dX12_house_13 : decode cX12_house 13 = .ok (.ifCond .eq 35, 3) := by decide +kernel
theorem dX12_house_16 : decode cX12_house 16 = .ok (.aload_n 0, 1) := by decide +kernel
theorem dX12_house_17 : decode cX12_house 17 = .ok (.iload_n 2, 1) := by decide +kernel
theorem dX12_house_18 : decode cX12_house 18 = .ok (.iconst 1, 1) := by decide +kernel
theorem dX12_house_19 : decode cX12_house 19 = .ok (.bipush 20, 2) := by decide +kernel
theorem dX12_house_21 : decode cX12_house 21 = .ok (.invokevirtual 151, 3) := by decide +kernel
theorem dX12_house_24 : decode cX12_house 24 = .ok (.ifCond .eq 24, 3) := by decide +kernel
theorem dX12_house_27 : decode cX12_house 27 = .ok (.aload_n 0, 1) := by decide +kernel
theorem dX12_house_28 : decode cX12_house 28 = .ok (.iload_n 3, 1) := by decide +kernel
theorem dX12_house_29 : decode cX12_house 29 = .ok (.iconst 0, 1) := by decide +kernel
theorem dX12_house_30 : decode cX12_house 30 = .ok (.sipush 999, 3) := by decide +kernel
theorem dX12_house_33 : decode cX12_house 33 = .ok (.invokevirtual 151, 3) := by decide +kernel
theorem dX12_house_36 : decode cX12_house 36 = .ok (.ifCond .eq 12, 3) := by decide +kernel
theorem dX12_house_39 : decode cX12_house 39 = .ok (.aload_n 0, 1) := by decide +kernel
theorem dX12_house_40 : decode cX12_house 40 = .ok (.getfield 148, 3) := by decide +kernel
theorem dX12_house_43 : decode cX12_house 43 = .ok (.bipush 10, 2) := by decide +kernel
theorem dX12_house_45 : decode cX12_house 45 = .ok (.if_icmp .ne 5, 3) := by decide +kernel
theorem dX12_house_48 : decode cX12_house 48 = .ok (.iconst (-1), 1) := by decide +kernel
theorem dX12_house_49 : decode cX12_house 49 = .ok (.ireturn, 1) := by decide +kernel
theorem dX12_house_50 : decode cX12_house 50 = .ok (.iconst 0, 1) := by decide +kernel
theorem dX12_house_51 : decode cX12_house 51 = .ok (.istore 4, 2) := by decide +kernel
theorem dX12_house_53 : decode cX12_house 53 = .ok (.iload 4, 2) := by decide +kernel
theorem dX12_house_55 : decode cX12_house 55 = .ok (.aload_n 0, 1) := by decide +kernel
theorem dX12_house_56 : decode cX12_house 56 = .ok (.getfield 148, 3) := by decide +kernel
theorem dX12_house_59 : decode cX12_house 59 = .ok (.if_icmp .ge 22, 3) := by decide +kernel
theorem dX12_house_81 : decode cX12_house 81 = .ok (.aload_n 0, 1) := by decide +kernel
theorem dX12_house_82 : decode cX12_house 82 = .ok (.getfield 148, 3) := by decide +kernel
theorem dX12_house_85 : decode cX12_house 85 = .ok (.istore 4, 2) := by decide +kernel
theorem dX12_house_87 : decode cX12_house 87 = .ok (.aload_n 0, 1) := by decide +kernel
theorem dX12_house_88 : decode cX12_house 88 = .ok (.getfield 19, 3) := by decide +kernel
theorem dX12_house_91 : decode cX12_house 91 = .ok (.iload 4, 2) := by decide +kernel
theorem dX12_house_93 : decode cX12_house 93 = .ok (.iload_n 1, 1) := by decide +kernel
theorem dX12_house_94 : decode cX12_house 94 = .ok (.iastore, 1) := by decide +kernel
theorem dX12_house_95 : decode cX12_house 95 = .ok (.aload_n 0, 1) := by decide +kernel
theorem dX12_house_96 : decode cX12_house 96 = .ok (.getfield 22, 3) := by decide +kernel
theorem dX12_house_99 : decode cX12_house 99 = .ok (.iload 4, 2) := by decide +kernel
theorem dX12_house_101 : decode cX12_house 101 = .ok (.iload_n 2, 1) := by decide +kernel
theorem dX12_house_102 : decode cX12_house 102 = .ok (.iastore, 1) := by decide +kernel
theorem dX12_house_103 : decode cX12_house 103 = .ok (.aload_n 0, 1) := by decide +kernel
theorem dX12_house_104 : decode cX12_house 104 = .ok (.getfield 25, 3) := by decide +kernel
theorem dX12_house_107 : decode cX12_house 107 = .ok (.iload 4, 2) := by decide +kernel
theorem dX12_house_109 : decode cX12_house 109 = .ok (.iconst 0, 1) := by decide +kernel
theorem dX12_house_110 : decode cX12_house 110 = .ok (.iastore, 1) := by decide +kernel
theorem dX12_house_111 : decode cX12_house 111 = .ok (.aload_n 0, 1) := by decide +kernel
theorem dX12_house_112 : decode cX12_house 112 = .ok (.getfield 28, 3) := by decide +kernel
theorem dX12_house_115 : decode cX12_house 115 = .ok (.iload 4, 2) := by decide +kernel
theorem dX12_house_117 : decode cX12_house 117 = .ok (.iconst 0, 1) := by decide +kernel
theorem dX12_house_118 : decode cX12_house 118 = .ok (.iastore, 1) := by decide +kernel
theorem dX12_house_119 : decode cX12_house 119 = .ok (.aload_n 0, 1) := by decide +kernel
theorem dX12_house_120 : decode cX12_house 120 = .ok (.getfield 31, 3) := by decide +kernel
theorem dX12_house_123 : decode cX12_house 123 = .ok (.iload 4, 2) := by decide +kernel
theorem dX12_house_125 : decode cX12_house 125 = .ok (.iconst 0, 1) := by decide +kernel
theorem dX12_house_126 : decode cX12_house 126 = .ok (.iastore, 1) := by decide +kernel
theorem dX12_house_127 : decode cX12_house 127 = .ok (.aload_n 0, 1) := by decide +kernel
theorem dX12_house_128 : decode cX12_house 128 = .ok (.getfield 7, 3) := by decide +kernel
theorem dX12_house_131 : decode cX12_house 131 = .ok (.bipush 6, 2) := by decide +kernel
theorem dX12_house_133 : decode cX12_house 133 = .ok (.iload 4, 2) := by decide +kernel
theorem dX12_house_135 : decode cX12_house 135 = .ok (.iadd, 1) := by decide +kernel
theorem dX12_house_136 : decode cX12_house 136 = .ok (.iload_n 3, 1) := by decide +kernel
theorem dX12_house_137 : decode cX12_house 137 = .ok (.iastore, 1) := by decide +kernel
theorem dX12_house_138 : decode cX12_house 138 = .ok (.aload_n 0, 1) := by decide +kernel
theorem dX12_house_139 : decode cX12_house 139 = .ok (.getfield 7, 3) := by decide +kernel
theorem dX12_house_142 : decode cX12_house 142 = .ok (.bipush 16, 2) := by decide +kernel
theorem dX12_house_144 : decode cX12_house 144 = .ok (.iload 4, 2) := by decide +kernel
theorem dX12_house_146 : decode cX12_house 146 = .ok (.iadd, 1) := by decide +kernel
theorem dX12_house_147 : decode cX12_house 147 = .ok (.iconst 0, 1) := by decide +kernel
theorem dX12_house_148 : decode cX12_house 148 = .ok (.iastore, 1) := by decide +kernel
theorem dX12_house_149 : decode cX12_house 149 = .ok (.aload_n 0, 1) := by decide +kernel
theorem dX12_house_150 : decode cX12_house 150 = .ok (.getfield 7, 3) := by decide +kernel
theorem dX12_house_153 : decode cX12_house 153 = .ok (.bipush 26, 2) := by decide +kernel
theorem dX12_house_155 : decode cX12_house 155 = .ok (.iload 4, 2) := by decide +kernel
theorem dX12_house_157 : decode cX12_house 157 = .ok (.iadd, 1) := by decide +kernel
theorem dX12_house_158 : decode cX12_house 158 = .ok (.iconst 0, 1) := by decide +kernel
theorem dX12_house_159 : decode cX12_house 159 = .ok (.iastore, 1) := by decide +kernel
theorem dX12_house_160 : decode cX12_house 160 = .ok (.aload_n 0, 1) := by decide +kernel
theorem dX12_house_161 : decode cX12_house 161 = .ok (.getfield 7, 3) := by decide +kernel
theorem dX12_house_164 : decode cX12_house 164 = .ok (.bipush 36, 2) := by decide +kernel
theorem dX12_house_166 : decode cX12_house 166 = .ok (.iload 4, 2) := by decide +kernel
theorem dX12_house_168 : decode cX12_house 168 = .ok (.iadd, 1) := by decide +kernel
theorem dX12_house_169 : decode cX12_house 169 = .ok (.iconst 0, 1) := by decide +kernel
theorem dX12_house_170 : decode cX12_house 170 = .ok (.iastore, 1) := by decide +kernel
theorem dX12_house_171 : decode cX12_house 171 = .ok (.aload_n 0, 1) := by decide +kernel
theorem dX12_house_172 : decode cX12_house 172 = .ok (.aload_n 0, 1) := by decide +kernel
theorem dX12_house_173 : decode cX12_house 173 = .ok (.getfield 148, 3) := by decide +kernel
theorem dX12_house_176 : decode cX12_house 176 = .ok (.iconst 1, 1) := by decide +kernel
theorem dX12_house_177 : decode cX12_house 177 = .ok (.iadd, 1) := by decide +kernel
theorem dX12_house_178 : decode cX12_house 178 = .ok (.putfield 148, 3) := by decide +kernel
theorem dX12_house_181 : decode cX12_house 181 = .ok (.aload_n 0, 1) := by decide +kernel
theorem dX12_house_182 : decode cX12_house 182 = .ok (.iconst 0, 1) := by decide +kernel
theorem dX12_house_183 : decode cX12_house 183 = .ok (.putfield 133, 3) := by decide +kernel
theorem dX12_house_186 : decode cX12_house 186 = .ok (.iload 4, 2) := by decide +kernel
theorem dX12_house_188 : decode cX12_house 188 = .ok (.ireturn, 1) := by decide +kernel
theorem dX12_image_0 : decode cX12_image 0 = .ok (.aload_n 0, 1) := by decide +kernel
theorem dX12_image_1 : decode cX12_image 1 = .ok (.iconst 0, 1) := by decide +kernel
theorem dX12_image_2 : decode cX12_image 2 = .ok (.putfield 130, 3) := by decide +kernel
theorem dX12_image_5 : decode cX12_image 5 = .ok (.iload_n 1, 1) := by decide +kernel
theorem dX12_image_6 : decode cX12_image 6 = .ok (.ifCond .ne 12, 3) := by decide +kernel
theorem dX12_image_9 : decode cX12_image 9 = .ok (.aload_n 0, 1) := by decide +kernel
theorem dX12_image_10 : decode cX12_image 10 = .ok (.getfield 549, 3) := by decide +kernel
theorem dX12_image_13 : decode cX12_image 13 = .ok (.ifCond .ne 5, 3) := by decide +kernel
theorem dX12_image_16 : decode cX12_image 16 = .ok (.iconst 0, 1) := by decide +kernel
theorem dX12_image_17 : decode cX12_image 17 = .ok (.ireturn, 1) := by decide +kernel
theorem dX12_image_18 : decode cX12_image 18 = .ok (.aload_n 0, 1) := by decide +kernel
theorem dX12_image_19 : decode cX12_image 19 = .ok (.iload_n 1, 1) := by decide +kernel
theorem dX12_image_20 : decode cX12_image 20 = .ok (.putfield 543, 3) := by decide +kernel
theorem dX12_image_23 : decode cX12_image 23 = .ok (.aload_n 0, 1) := by decide +kernel
theorem dX12_image_24 : decode cX12_image 24 = .ok (.iconst 1, 1) := by decide +kernel
theorem dX12_image_25 : decode cX12_image 25 = .ok (.putfield 549, 3) := by decide +kernel
theorem dX12_image_28 : decode cX12_image 28 = .ok (.aload_n 0, 1) := by decide +kernel
theorem dX12_image_29 : decode cX12_image 29 = .ok (.iconst 0, 1) := by decide +kernel
theorem dX12_image_30 : decode cX12_image 30 = .ok (.putfield 540, 3) := by decide +kernel
theorem dX12_image_33 : decode cX12_image 33 = .ok (.iconst 0, 1) := by decide +kernel
theorem dX12_image_34 : decode cX12_image 34 = .ok (.istore_n 2, 1) := by decide +kernel
theorem dX12_image_35 : decode cX12_image 35 = .ok (.iload_n 2, 1) := by decide +kernel
theorem dX12_image_36 : decode cX12_image 36 = .ok (.bipush 66, 2) := by decide +kernel
theorem dX12_image_38 : decode cX12_image 38 = .ok (.if_icmp .ge 25, 3) := by decide +kernel
theorem dX12_image_41 : decode cX12_image 41 = .ok (.aload_n 0, 1) := by decide +kernel
theorem dX12_image_42 : decode cX12_image 42 = .ok (.getfield 7, 3) := by decide +kernel
theorem dX12_image_45 : decode cX12_image 45 = .ok (.iload_n 2, 1) := by decide +kernel
theorem dX12_image_46 : decode cX12_image 46 = .ok (.aload_n 0, 1) := by decide +kernel
theorem dX12_image_47 : decode cX12_image 47 = .ok (.aload_n 0, 1) := by decide +kernel
theorem dX12_image_48 : decode cX12_image 48 = .ok (.getfield 7, 3) := by decide +kernel
theorem dX12_image_51 : decode cX12_image 51 = .ok (.iload_n 2, 1) := by decide +kernel
theorem dX12_image_52 : decode cX12_image 52 = .ok (.iaload, 1) := by decide +kernel
theorem dX12_image_53 : decode cX12_image 53 = .ok (.invokevirtual 546, 3) := by decide +kernel
theorem dX12_image_56 : decode cX12_image 56 = .ok (.iastore, 1) := by decide +kernel
theorem dX12_image_57 : decode cX12_image 57 = .ok (.iinc 2 1, 3) := by decide +kernel
theorem dX12_image_60 : decode cX12_image 60 = .ok (.goto (-25), 3) := by decide +kernel
theorem dX12_image_63 : decode cX12_image 63 = .ok (.aload_n 0, 1) := by decide +kernel
theorem dX12_image_64 : decode cX12_image 64 = .ok (.invokevirtual 552, 3) := by decide +kernel
theorem dX12_image_67 : decode cX12_image 67 = .ok (.aload_n 0, 1) := by decide +kernel
theorem dX12_image_68 : decode cX12_image 68 = .ok (.invokevirtual 555, 3) := by decide +kernel
theorem dX12_image_71 : decode cX12_image 71 = .ok (.iconst 0, 1) := by decide +kernel
theorem dX12_image_72 : decode cX12_image 72 = .ok (.istore_n 2, 1) := by decide +kernel
theorem dX12_image_73 : decode cX12_image 73 = .ok (.iload_n 2, 1) := by decide +kernel
theorem dX12_image_74 : decode cX12_image 74 = .ok (.sipush 900, 3) := by decide +kernel
theorem dX12_image_77 : decode cX12_image 77 = .ok (.if_icmp .ge 25, 3) := by decide +kernel
theorem dX12_image_80 : decode cX12_image 80 = .ok (.aload_n 0, 1) := by decide +kernel
theorem dX12_image_81 : decode cX12_image 81 = .ok (.getfield 34, 3) := by decide +kernel
theorem dX12_image_84 : decode cX12_image 84 = .ok (.iload_n 2, 1) := by decide +kernel
theorem dX12_image_85 : decode cX12_image 85 = .ok (.aload_n 0, 1) := by decide +kernel
theorem dX12_image_86 : decode cX12_image 86 = .ok (.aload_n 0, 1) := by decide +kernel
theorem dX12_image_87 : decode cX12_image 87 = .ok (.getfield 34, 3) := by decide +kernel
theorem dX12_image_90 : decode cX12_image 90 = .ok (.iload_n 2, 1) := by decide +kernel
theorem dX12_image_91 : decode cX12_image 91 = .ok (.iaload, 1) := by decide +kernel
theorem dX12_image_92 : decode cX12_image 92 = .ok (.invokevirtual 546, 3) := by decide +kernel
theorem dX12_image_95 : decode cX12_image 95 = .ok (.iastore, 1) := by decide +kernel
theorem dX12_image_96 : decode cX12_image 96 = .ok (.iinc 2 1, 3) := by decide +kernel
theorem dX12_image_99 : decode cX12_image 99 = .ok (.goto (-26), 3) := by decide +kernel
theorem dX12_image_102 : decode cX12_image 102 = .ok (.aload_n 0, 1) := by decide +kernel
theorem dX12_image_103 : decode cX12_image 103 = .ok (.iconst 0, 1) := by decide +kernel
theorem dX12_image_104 : decode cX12_image 104 = .ok (.invokevirtual 558, 3) := by decide +kernel
theorem dX12_image_107 : decode cX12_image 107 = .ok (.aload_n 0, 1) := by decide +kernel
theorem dX12_image_108 : decode cX12_image 108 = .ok (.iconst 1, 1) := by decide +kernel
theorem dX12_image_109 : decode cX12_image 109 = .ok (.invokevirtual 558, 3) := by decide +kernel
theorem dX12_image_112 : decode cX12_image 112 = .ok (.iload_n 1, 1) := by decide +kernel
theorem dX12_image_113 : decode cX12_image 113 = .ok (.ifCond .ne 8, 3) := by decide +kernel
theorem dX12_image_121 : decode cX12_image 121 = .ok (.iconst 1, 1) := by decide +kernel
theorem dX12_image_122 : decode cX12_image 122 = .ok (.ireturn, 1) := by decide +kernel
theorem dX12_init_0 : decode cX12_init 0 = .ok (.aload_n 0, 1) := by decide +kernel
theorem dX12_init_1 : decode cX12_init 1 = .ok (.invokespecial 1, 3) := by decide +kernel
theorem dX12_init_4 : decode cX12_init 4 = .ok (.aload_n 0, 1) := by decide +kernel
theorem dX12_init_5 : decode cX12_init 5 = .ok (.bipush 66, 2) := by decide +kernel
theorem dX12_init_7 : decode cX12_init 7 = .ok (.newarray .int, 2) := by decide +kernel
theorem dX12_init_9 : decode cX12_init 9 = .ok (.putfield 7, 3) := by decide +kernel
theorem dX12_init_12 : decode cX12_init 12 = .ok (.aload_n 0, 1) := by decide +kernel
theorem dX12_init_13 : decode cX12_init 13 = .ok (.sipush 396, 3) := by decide +kernel
theorem dX12_init_16 : decode cX12_init 16 = .ok (.newarray .int, 2) := by decide +kernel
theorem dX12_init_18 : decode cX12_init 18 = .ok (.putfield 13, 3) := by decide +kernel
theorem dX12_init_21 : decode cX12_init 21 = .ok (.aload_n 0, 1) := by decide +kernel
theorem dX12_init_22 : decode cX12_init 22 = .ok (.bipush 66, 2) := by decide +kernel
theorem dX12_init_24 : decode cX12_init 24 = .ok (.newarray .int, 2) := by decide +kernel
theorem dX12_init_26 : decode cX12_init 26 = .ok (.putfield 16, 3) := by decide +kernel
theorem dX12_init_29 : decode cX12_init 29 = .ok (.aload_n 0, 1) := by decide +kernel
theorem dX12_init_30 : decode cX12_init 30 = .ok (.bipush 10, 2) := by decide +kernel
theorem dX12_init_32 : decode cX12_init 32 = .ok (.newarray .int, 2) := by decide +kernel
theorem dX12_init_34 : decode cX12_init 34 = .ok (.putfield 19, 3) := by decide +kernel
theorem dX12_init_37 : decode cX12_init 37 = .ok (.aload_n 0, 1) := by decide +kernel
theorem dX12_init_38 : decode cX12_init 38 = .ok (.bipush 10, 2) := by decide +kernel
theorem dX12_init_40 : decode cX12_init 40 = .ok (.newarray .int, 2) := by decide +kernel
theorem dX12_init_42 : decode cX12_init 42 = .ok (.putfield 22, 3) := by decide +kernel
theorem dX12_init_45 : decode cX12_init 45 = .ok (.aload_n 0, 1) := by decide +kernel
theorem dX12_init_46 : decode cX12_init 46 = .ok (.bipush 10, 2) := by decide +kernel
theorem dX12_init_48 : decode cX12_init 48 = .ok (.newarray .int, 2) := by decide +kernel
theorem dX12_init_50 : decode cX12_init 50 = .ok (.putfield 25, 3) := by decide +kernel
theorem dX12_init_53 : decode cX12_init 53 = .ok (.aload_n 0, 1) := by decide +kernel
theorem dX12_init_54 : decode cX12_init 54 = .ok (.bipush 10, 2) := by decide +kernel
theorem dX12_init_56 : decode cX12_init 56 = .ok (.newarray .int, 2) := by decide +kernel
theorem dX12_init_58 : decode cX12_init 58 = .ok (.putfield 28, 3) := by decide +kernel
theorem dX12_init_61 : decode cX12_init 61 = .ok (.aload_n 0, 1) := by decide +kernel
theorem dX12_init_62 : decode cX12_init 62 = .ok (.bipush 10, 2) := by decide +kernel
theorem dX12_init_64 : decode cX12_init 64 = .ok (.newarray .int, 2) := by decide +kernel
theorem dX12_init_66 : decode cX12_init 66 = .ok (.putfield 31, 3) := by decide +kernel
theorem dX12_init_69 : decode cX12_init 69 = .ok (.aload_n 0, 1) := by decide +kernel
theorem dX12_init_70 : decode cX12_init 70 = .ok (.sipush 900, 3) := by decide +kernel
theorem dX12_init_73 : decode cX12_init 73 = .ok (.newarray .int, 2) := by decide +kernel
theorem dX12_init_75 : decode cX12_init 75 = .ok (.putfield 34, 3) := by decide +kernel
theorem dX12_init_78 : decode cX12_init 78 = .ok (.aload_n 0, 1) := by decide +kernel
theorem dX12_init_79 : decode cX12_init 79 = .ok (.bipush 8, 2) := by decide +kernel
theorem dX12_init_81 : decode cX12_init 81 = .ok (.newarray .int, 2) := by decide +kernel
theorem dX12_init_83 : decode cX12_init 83 = .ok (.putfield 37, 3) := by decide +kernel
theorem dX12_init_86 : decode cX12_init 86 = .ok (.aload_n 0, 1) := by decide +kernel
theorem dX12_init_87 : decode cX12_init 87 = .ok (.bipush 8, 2) := by decide +kernel
theorem dX12_init_89 : decode cX12_init 89 = .ok (.newarray .int, 2) := by decide +kernel
theorem dX12_init_91 : decode cX12_init 91 = .ok (.putfield 40, 3) := by decide +kernel
theorem dX12_init_94 : decode cX12_init 94 = .ok (.aload_n 0, 1) := by decide +kernel
theorem dX12_init_95 : decode cX12_init 95 = .ok (.sipush 400, 3) := by decide +kernel
theorem dX12_init_98 : decode cX12_init 98 = .ok (.newarray .int, 2) := by decide +kernel
theorem dX12_init_100 : decode cX12_init 100 = .ok (.putfield 43, 3) := by decide +kernel
theorem dX12_init_103 : decode cX12_init 103 = .ok (.aload_n 0, 1) := by decide +kernel
theorem dX12_init_104 : decode cX12_init 104 = .ok (.sipush 154, 3) := by decide +kernel
theorem dX12_init_107 : decode cX12_init 107 = .ok (.newarray .int, 2) := by decide +kernel
theorem dX12_init_109 : decode cX12_init 109 = .ok (.dup, 1) := by decide +kernel
theorem dX12_init_110 : decode cX12_init 110 = .ok (.iconst 0, 1) := by decide +kernel
theorem dX12_init_111 : decode cX12_init 111 = .ok (.bipush 32, 2) := by decide +kernel
theorem dX12_init_113 : decode cX12_init 113 = .ok (.iastore, 1) := by decide +kernel
theorem dX12_init_114 : decode cX12_init 114 = .ok (.dup, 1) := by decide +kernel
theorem dX12_init_115 : decode cX12_init 115 = .ok (.iconst 1, 1) := by decide +kernel
theorem dX12_init_116 : decode cX12_init 116 = .ok (.bipush 116, 2) := by decide +kernel
theorem dX12_init_118 : decode cX12_init 118 = .ok (.iastore, 1) := by decide +kernel
theorem dX12_init_119 : decode cX12_init 119 = .ok (.dup, 1) := by decide +kernel
theorem dX12_init_120 : decode cX12_init 120 = .ok (.iconst 2, 1) := by decide +kernel
theorem dX12_init_121 : decode cX12_init 121 = .ok (.bipush 117, 2) := by decide +kernel
theorem dX12_init_123 : decode cX12_init 123 = .ok (.iastore, 1) := by decide +kernel
theorem dX12_init_124 : decode cX12_init 124 = .ok (.dup, 1) := by decide +kernel
theorem dX12_init_125 : decode cX12_init 125 = .ok (.iconst 3, 1) := by decide +kernel
theorem dX12_init_126 : decode cX12_init 126 = .ok (.bipush 114, 2) := by decide +kernel
theorem dX12_init_128 : decode cX12_init 128 = .ok (.iastore, 1) := by decide +kernel
theorem dX12_init_129 : decode cX12_init 129 = .ok (.dup, 1) := by decide +kernel
theorem dX12_init_130 : decode cX12_init 130 = .ok (.iconst 4, 1) := by decide +kernel
theorem dX12_init_131 : decode cX12_init 131 = .ok (.bipush 110, 2) := by decide +kernel
theorem dX12_init_133 : decode cX12_init 133 = .ok (.iastore, 1) := by decide +kernel
theorem dX12_init_134 : decode cX12_init 134 = .ok (.dup, 1) := by decide +kernel
theorem dX12_init_135 : decode cX12_init 135 = .ok (.iconst 5, 1) := by decide +kernel
theorem dX12_init_136 : decode cX12_init 136 = .ok (.bipush 32, 2) := by decide +kernel
theorem dX12_init_138 : decode cX12_init 138 = .ok (.iastore, 1) := by decide +kernel
theorem dX12_init_139 : decode cX12_init 139 = .ok (.dup, 1) := by decide +kernel
theorem dX12_init_140 : decode cX12_init 140 = .ok (.bipush 6, 2) := by decide +kernel
theorem dX12_init_142 : decode cX12_init 142 = .ok (.bipush 98, 2) := by decide +kernel
theorem dX12_init_144 : decode cX12_init 144 = .ok (.iastore, 1) := by decide +kernel
theorem dX12_init_145 : decode cX12_init 145 = .ok (.dup, 1) := by decide +kernel
theorem dX12_init_146 : decode cX12_init 146 = .ok (.bipush 7, 2) := by decide +kernel
theorem dX12_init_148 : decode cX12_init 148 = .ok (.bipush 117, 2) := by decide +kernel
theorem dX12_init_150 : decode cX12_init 150 = .ok (.iastore, 1) := by decide +kernel
theorem dX12_init_151 : decode cX12_init 151 = .ok (.dup, 1) := by decide +kernel
theorem dX12_init_152 : decode cX12_init 152 = .ok (.bipush 8, 2) := by decide +kernel
theorem dX12_init_154 : decode cX12_init 154 = .ok (.bipush 114, 2) := by decide +kernel
theorem dX12_init_156 : decode cX12_init 156 = .ok (.iastore, 1) := by decide +kernel
theorem dX12_init_157 : decode cX12_init 157 = .ok (.dup, 1) := by decide +kernel
theorem dX12_init_158 : decode cX12_init 158 = .ok (.bipush 9, 2) := by decide +kernel
theorem dX12_init_160 : decode cX12_init 160 = .ok (.bipush 110, 2) := by decide +kernel
theorem dX12_init_162 : decode cX12_init 162 = .ok (.iastore, 1) := by decide +kernel
theorem dX12_init_163 : decode cX12_init 163 = .ok (.dup, 1) := by decide +kernel
theorem dX12_init_164 : decode cX12_init 164 = .ok (.bipush 10, 2) := by decide +kernel
theorem dX12_init_166 : decode cX12_init 166 = .ok (.bipush 32, 2) := by decide +kernel
theorem dX12_init_168 : decode cX12_init 168 = .ok (.iastore, 1) := by decide +kernel
theorem dX12_init_169 : decode cX12_init 169 = .ok (.dup, 1) := by decide +kernel
theorem dX12_init_170 : decode cX12_init 170 = .ok (.bipush 11, 2) := by decide +kernel
theorem dX12_init_172 : decode cX12_init 172 = .ok (.bipush 119, 2) := by decide +kernel
theorem dX12_init_174 : decode cX12_init 174 = .ok (.iastore, 1) := by decide +kernel
theorem dX12_init_175 : decode cX12_init 175 = .ok (.dup, 1) := by decide +kernel
theorem dX12_init_176 : decode cX12_init 176 = .ok (.bipush 12, 2) := by decide +kernel
theorem dX12_init_178 : decode cX12_init 178 = .ok (.bipush 104, 2) := by decide +kernel
theorem dX12_init_180 : decode cX12_init 180 = .ok (.iastore, 1) := by decide +kernel
theorem dX12_init_181 : decode cX12_init 181 = .ok (.dup, 1) := by decide +kernel
theorem dX12_init_182 : decode cX12_init 182 = .ok (.bipush 13, 2) := by decide +kernel
theorem dX12_init_184 : decode cX12_init 184 = .ok (.bipush 101, 2) := by decide +kernel
theorem dX12_init_186 : decode cX12_init 186 = .ok (.iastore, 1) := by decide +kernel
theorem dX12_init_187 : decode cX12_init 187 = .ok (.dup, 1) := by decide +kernel
theorem dX12_init_188 : decode cX12_init 188 = .ok (.bipush 14, 2) := by decide +kernel
theorem dX12_init_190 : decode cX12_init 190 = .ok (.bipush 110, 2) := by decide +kernel
theorem dX12_init_192 : decode cX12_init 192 = .ok (.iastore, 1) := by decide +kernel
theorem dX12_init_193 : decode cX12_init 193 = .ok (.dup, 1) := by decide +kernel
theorem dX12_init_194 : decode cX12_init 194 = .ok (.bipush 15, 2) := by decide +kernel
theorem dX12_init_196 : decode cX12_init 196 = .ok (.bipush 32, 2) := by decide +kernel
theorem dX12_init_198 : decode cX12_init 198 = .ok (.iastore, 1) := by decide +kernel
theorem dX12_init_199 : decode cX12_init 199 = .ok (.dup, 1) := by decide +kernel
theorem dX12_init_200 : decode cX12_init 200 = .ok (.bipush 16, 2) := by decide +kernel
theorem dX12_init_202 : decode cX12_init 202 = .ok (.bipush 111, 2) := by decide +kernel
theorem dX12_init_204 : decode cX12_init 204 = .ok (.iastore, 1) := by decide +kernel
theorem dX12_init_205 : decode cX12_init 205 = .ok (.dup, 1) := by decide +kernel
theorem dX12_init_206 : decode cX12_init 206 = .ok (.bipush 17, 2) := by decide +kernel
theorem dX12_init_208 : decode cX12_init 208 = .ok (.bipush 114, 2) := by decide +kernel
theorem dX12_init_210 : decode cX12_init 210 = .ok (.iastore, 1) := by decide +kernel
theorem dX12_init_211 : decode cX12_init 211 = .ok (.dup, 1) := by decide +kernel
theorem dX12_init_212 : decode cX12_init 212 = .ok (.bipush 18, 2) := by decide +kernel
theorem dX12_init_214 : decode cX12_init 214 = .ok (.bipush 32, 2) := by decide +kernel
theorem dX12_init_216 : decode cX12_init 216 = .ok (.iastore, 1) := by decide +kernel
theorem dX12_init_217 : decode cX12_init 217 = .ok (.dup, 1) := by decide +kernel
theorem dX12_init_218 : decode cX12_init 218 = .ok (.bipush 19, 2) := by decide +kernel
theorem dX12_init_220 : decode cX12_init 220 = .ok (.bipush 97, 2) := by decide +kernel
theorem dX12_init_222 : decode cX12_init 222 = .ok (.iastore, 1) := by decide +kernel
theorem dX12_init_223 : decode cX12_init 223 = .ok (.dup, 1) := by decide +kernel
theorem dX12_init_224 : decode cX12_init 224 = .ok (.bipush 20, 2) := by decide +kernel
theorem dX12_init_226 : decode cX12_init 226 = .ok (.bipush 110, 2) := by decide +kernel
theorem dX12_init_228 : decode cX12_init 228 = .ok (.iastore, 1) := by decide +kernel
theorem dX12_init_229 : decode cX12_init 229 = .ok (.dup, 1) := by decide +kernel
theorem dX12_init_230 : decode cX12_init 230 = .ok (.bipush 21, 2) := by decide +kernel
theorem dX12_init_232 : decode cX12_init 232 = .ok (.bipush 100, 2) := by decide +kernel
theorem dX12_init_234 : decode cX12_init 234 = .ok (.iastore, 1) := by decide +kernel
theorem dX12_init_235 : decode cX12_init 235 = .ok (.dup, 1) := by decide +kernel
theorem dX12_init_236 : decode cX12_init 236 = .ok (.bipush 22, 2) := by decide +kernel
theorem dX12_init_238 : decode cX12_init 238 = .ok (.bipush 32, 2) := by decide +kernel
theorem dX12_init_240 : decode cX12_init 240 = .ok (.iastore, 1) := by decide +kernel
theorem dX12_init_241 : decode cX12_init 241 = .ok (.dup, 1) := by decide +kernel
theorem dX12_init_242 : decode cX12_init 242 = .ok (.bipush 23, 2) := by decide +kernel
theorem dX12_init_244 : decode cX12_init 244 = .ok (.bipush 110, 2) := by decide +kernel
theorem dX12_init_246 : decode cX12_init 246 = .ok (.iastore, 1) := by decide +kernel
theorem dX12_init_247 : decode cX12_init 247 = .ok (.dup, 1) := by decide +kernel
theorem dX12_init_248 : decode cX12_init 248 = .ok (.bipush 24, 2) := by decide +kernel
theorem dX12_init_250 : decode cX12_init 250 = .ok (.bipush 111, 2) := by decide +kernel
theorem dX12_init_252 : decode cX12_init 252 = .ok (.iastore, 1) := by decide +kernel
theorem dX12_init_253 : decode cX12_init 253 = .ok (.dup, 1) := by decide +kernel
theorem dX12_init_254 : decode cX12_init 254 = .ok (.bipush 25, 2) := by decide +kernel
theorem dX12_init_256 : decode cX12_init 256 = .ok (.bipush 116, 2) := by decide +kernel
theorem dX12_init_258 : decode cX12_init 258 = .ok (.iastore, 1) := by decide +kernel
theorem dX12_init_259 : decode cX12_init 259 = .ok (.dup, 1) := by decide +kernel
theorem dX12_init_260 : decode cX12_init 260 = .ok (.bipush 26, 2) := by decide +kernel
theorem dX12_init_262 : decode cX12_init 262 = .ok (.bipush 32, 2) := by decide +kernel
theorem dX12_init_264 : decode cX12_init 264 = .ok (.iastore, 1) := by decide +kernel
theorem dX12_init_265 : decode cX12_init 265 = .ok (.dup, 1) := by decide +kernel
theorem dX12_init_266 : decode cX12_init 266 = .ok (.bipush 27, 2) := by decide +kernel
theorem dX12_init_268 : decode cX12_init 268 = .ok (.bipush 104, 2) := by decide +kernel
theorem dX12_init_270 : decode cX12_init 270 = .ok (.iastore, 1) := by decide +kernel
theorem dX12_init_271 : decode cX12_init 271 = .ok (.dup, 1) := by decide +kernel
theorem dX12_init_272 : decode cX12_init 272 = .ok (.bipush 28, 2) := by decide +kernel
theorem dX12_init_274 : decode cX12_init 274 = .ok (.bipush 111, 2) := by decide +kernel
theorem dX12_init_276 : decode cX12_init 276 = .ok (.iastore, 1) := by decide +kernel
theorem dX12_init_277 : decode cX12_init 277 = .ok (.dup, 1) := by decide +kernel
theorem dX12_init_278 : decode cX12_init 278 = .ok (.bipush 29, 2) := by decide +kernel
theorem dX12_init_280 : decode cX12_init 280 = .ok (.bipush 117, 2) := by decide +kernel
theorem dX12_init_282 : decode cX12_init 282 = .ok (.iastore, 1) := by decide +kernel
theorem dX12_init_283 : decode cX12_init 283 = .ok (.dup, 1) := by decide +kernel
theorem dX12_init_284 : decode cX12_init 284 = .ok (.bipush 30, 2) := by decide +kernel
theorem dX12_init_286 : decode cX12_init 286 = .ok (.bipush 115, 2) := by decide +kernel
theorem dX12_init_288 : decode cX12_init 288 = .ok (.iastore, 1) := by decide +kernel
theorem dX12_init_289 : decode cX12_init 289 = .ok (.dup, 1) := by decide +kernel
theorem dX12_init_290 : decode cX12_init 290 = .ok (.bipush 31, 2) := by decide +kernel
theorem dX12_init_292 : decode cX12_init 292 = .ok (.bipush 101, 2) := by decide +kernel
theorem dX12_init_294 : decode cX12_init 294 = .ok (.iastore, 1) := by decide +kernel
theorem dX12_init_295 : decode cX12_init 295 = .ok (.dup, 1) := by decide +kernel
theorem dX12_init_296 : decode cX12_init 296 = .ok (.bipush 32, 2) := by decide +kernel
theorem dX12_init_298 : decode cX12_init 298 = .ok (.bipush 32, 2) := by decide +kernel
theorem dX12_init_300 : decode cX12_init 300 = .ok (.iastore, 1) := by decide +kernel
theorem dX12_init_301 : decode cX12_init 301 = .ok (.dup, 1) := by decide +kernel
theorem dX12_init_302 : decode cX12_init 302 = .ok (.bipush 33, 2) := by decide +kernel
theorem dX12_init_304 : decode cX12_init 304 = .ok (.bipush 111, 2) := by decide +kernel
theorem dX12_init_306 : decode cX12_init 306 = .ok (.iastore, 1) := by decide +kernel
theorem dX12_init_307 : decode cX12_init 307 = .ok (.dup, 1) := by decide +kernel
theorem dX12_init_308 : decode cX12_init 308 = .ok (.bipush 34, 2) := by decide +kernel
theorem dX12_init_310 : decode cX12_init 310 = .ok (.bipush 119, 2) := by decide +kernel
theorem dX12_init_312 : decode cX12_init 312 = .ok (.iastore, 1) := by decide +kernel
theorem dX12_init_313 : decode cX12_init 313 = .ok (.dup, 1) := by decide +kernel
theorem dX12_init_314 : decode cX12_init 314 = .ok (.bipush 35, 2) := by decide +kernel
theorem dX12_init_316 : decode cX12_init 316 = .ok (.bipush 101, 2) := by decide +kernel
theorem dX12_init_318 : decode cX12_init 318 = .ok (.iastore, 1) := by decide +kernel
theorem dX12_init_319 : decode cX12_init 319 = .ok (.dup, 1) := by decide +kernel
theorem dX12_init_320 : decode cX12_init 320 = .ok (.bipush 36, 2) := by decide +kernel
theorem dX12_init_322 : decode cX12_init 322 = .ok (.bipush 100, 2) := by decide +kernel
theorem dX12_init_324 : decode cX12_init 324 = .ok (.iastore, 1) := by decide +kernel
theorem dX12_init_325 : decode cX12_init 325 = .ok (.dup, 1) := by decide +kernel
theorem dX12_init_326 : decode cX12_init 326 = .ok (.bipush 37, 2) := by decide +kernel
theorem dX12_init_328 : decode cX12_init 328 = .ok (.bipush 32, 2) := by decide +kernel
theorem dX12_init_330 : decode cX12_init 330 = .ok (.iastore, 1) := by decide +kernel
theorem dX12_init_331 : decode cX12_init 331 = .ok (.dup, 1) := by decide +kernel
theorem dX12_init_332 : decode cX12_init 332 = .ok (.bipush 38, 2) := by decide +kernel
theorem dX12_init_334 : decode cX12_init 334 = .ok (.bipush 119, 2) := by decide +kernel
theorem dX12_init_336 : decode cX12_init 336 = .ok (.iastore, 1) := by decide +kernel
theorem dX12_init_337 : decode cX12_init 337 = .ok (.dup, 1) := by decide +kernel
theorem dX12_init_338 : decode cX12_init 338 = .ok (.bipush 39, 2) := by decide +kernel
theorem dX12_init_340 : decode cX12_init 340 = .ok (.bipush 97, 2) := by decide +kernel
theorem dX12_init_342 : decode cX12_init 342 = .ok (.iastore, 1) := by decide +kernel
theorem dX12_init_343 : decode cX12_init 343 = .ok (.dup, 1) := by decide +kernel
theorem dX12_init_344 : decode cX12_init 344 = .ok (.bipush 40, 2) := by decide +kernel
theorem dX12_init_346 : decode cX12_init 346 = .ok (.bipush 105, 2) := by decide +kernel
theorem dX12_init_348 : decode cX12_init 348 = .ok (.iastore, 1) := by decide +kernel
theorem dX12_init_349 : decode cX12_init 349 = .ok (.dup, 1) := by decide +kernel
theorem dX12_init_350 : decode cX12_init 350 = .ok (.bipush 41, 2) := by decide +kernel
theorem dX12_init_352 : decode cX12_init 352 = .ok (.bipush 116, 2) := by decide +kernel
theorem dX12_init_354 : decode cX12_init 354 = .ok (.iastore, 1) := by decide +kernel
theorem dX12_init_355 : decode cX12_init 355 = .ok (.dup, 1) := by decide +kernel
theorem dX12_init_356 : decode cX12_init 356 = .ok (.bipush 42, 2) := by decide +kernel
theorem dX12_init_358 : decode cX12_init 358 = .ok (.bipush 101, 2) := by decide +kernel
theorem dX12_init_360 : decode cX12_init 360 = .ok (.iastore, 1) := by decide +kernel
theorem dX12_init_361 : decode cX12_init 361 = .ok (.dup, 1) := by decide +kernel
theorem dX12_init_362 : decode cX12_init 362 = .ok (.bipush 43, 2) := by decide +kernel
theorem dX12_init_364 : decode cX12_init 364 = .ok (.bipush 100, 2) := by decide +kernel
theorem dX12_init_366 : decode cX12_init 366 = .ok (.iastore, 1) := by decide +kernel
theorem dX12_init_367 : decode cX12_init 367 = .ok (.dup, 1) := by decide +kernel
theorem dX12_init_368 : decode cX12_init 368 = .ok (.bipush 44, 2) := by decide +kernel
theorem dX12_init_370 : decode cX12_init 370 = .ok (.bipush 32, 2) := by decide +kernel
theorem dX12_init_372 : decode cX12_init 372 = .ok (.iastore, 1) := by decide +kernel
theorem dX12_init_373 : decode cX12_init 373 = .ok (.dup, 1) := by decide +kernel
theorem dX12_init_374 : decode cX12_init 374 = .ok (.bipush 45, 2) := by decide +kernel
theorem dX12_init_376 : decode cX12_init 376 = .ok (.bipush 115, 2) := by decide +kernel
theorem dX12_init_378 : decode cX12_init 378 = .ok (.iastore, 1) := by decide +kernel
theorem dX12_init_379 : decode cX12_init 379 = .ok (.dup, 1) := by decide +kernel
theorem dX12_init_380 : decode cX12_init 380 = .ok (.bipush 46, 2) := by decide +kernel
theorem dX12_init_382 : decode cX12_init 382 = .ok (.bipush 110, 2) := by decide +kernel
theorem dX12_init_384 : decode cX12_init 384 = .ok (.iastore, 1) := by decide +kernel
theorem dX12_init_385 : decode cX12_init 385 = .ok (.dup, 1) := by decide +kernel
theorem dX12_init_386 : decode cX12_init 386 = .ok (.bipush 47, 2) := by decide +kernel
theorem dX12_init_388 : decode cX12_init 388 = .ok (.bipush 111, 2) := by decide +kernel
theorem dX12_init_390 : decode cX12_init 390 = .ok (.iastore, 1) := by decide +kernel
theorem dX12_init_391 : decode cX12_init 391 = .ok (.dup, 1) := by decide +kernel
theorem dX12_init_392 : decode cX12_init 392 = .ok (.bipush 48, 2) := by decide +kernel
theorem dX12_init_394 : decode cX12_init 394 = .ok (.bipush 119, 2) := by decide +kernel
theorem dX12_init_396 : decode cX12_init 396 = .ok (.iastore, 1) := by decide +kernel
theorem dX12_init_397 : decode cX12_init 397 = .ok (.dup, 1) := by decide +kernel
theorem dX12_init_398 : decode cX12_init 398 = .ok (.bipush 49, 2) := by decide +kernel
theorem dX12_init_400 : decode cX12_init 400 = .ok (.bipush 32, 2) := by decide +kernel
theorem dX12_init_402 : decode cX12_init 402 = .ok (.iastore, 1) := by decide +kernel
theorem dX12_init_403 : decode cX12_init 403 = .ok (.dup, 1) := by decide +kernel
theorem dX12_init_404 : decode cX12_init 404 = .ok (.bipush 50, 2) := by decide +kernel
theorem dX12_init_406 : decode cX12_init 406 = .ok (.bipush 111, 2) := by decide +kernel
theorem dX12_init_408 : decode cX12_init 408 = .ok (.iastore, 1) := by decide +kernel
theorem dX12_init_409 : decode cX12_init 409 = .ok (.dup, 1) := by decide +kernel
theorem dX12_init_410 : decode cX12_init 410 = .ok (.bipush 51, 2) := by decide +kernel
theorem dX12_init_412 : decode cX12_init 412 = .ok (.bipush 105, 2) := by decide +kernel
theorem dX12_init_414 : decode cX12_init 414 = .ok (.iastore, 1) := by decide +kernel
theorem dX12_init_415 : decode cX12_init 415 = .ok (.dup, 1) := by decide +kernel
theorem dX12_init_416 : decode cX12_init 416 = .ok (.bipush 52, 2) := by decide +kernel
theorem dX12_init_418 : decode cX12_init 418 = .ok (.bipush 108, 2) := by decide +kernel
theorem dX12_init_420 : decode cX12_init 420 = .ok (.iastore, 1) := by decide +kernel
theorem dX12_init_421 : decode cX12_init 421 = .ok (.dup, 1) := by decide +kernel
theorem dX12_init_422 : decode cX12_init 422 = .ok (.bipush 53, 2) := by decide +kernel
theorem dX12_init_424 : decode cX12_init 424 = .ok (.bipush 32, 2) := by decide +kernel
theorem dX12_init_426 : decode cX12_init 426 = .ok (.iastore, 1) := by decide +kernel
theorem dX12_init_427 : decode cX12_init 427 = .ok (.dup, 1) := by decide +kernel
theorem dX12_init_428 : decode cX12_init 428 = .ok (.bipush 54, 2) := by decide +kernel
theorem dX12_init_430 : decode cX12_init 430 = .ok (.bipush 115, 2) := by decide +kernel
theorem dX12_init_432 : decode cX12_init 432 = .ok (.iastore, 1) := by decide +kernel
theorem dX12_init_433 : decode cX12_init 433 = .ok (.dup, 1) := by decide +kernel
theorem dX12_init_434 : decode cX12_init 434 = .ok (.bipush 55, 2) := by decide +kernel
theorem dX12_init_436 : decode cX12_init 436 = .ok (.bipush 101, 2) := by decide +kernel
theorem dX12_init_438 : decode cX12_init 438 = .ok (.iastore, 1) := by decide +kernel
theorem dX12_init_439 : decode cX12_init 439 = .ok (.dup, 1) := by decide +kernel
theorem dX12_init_440 : decode cX12_init 440 = .ok (.bipush 56, 2) := by decide +kernel
theorem dX12_init_442 : decode cX12_init 442 = .ok (.bipush 97, 2) := by decide +kernel
theorem dX12_init_444 : decode cX12_init 444 = .ok (.iastore, 1) := by decide +kernel
theorem dX12_init_445 : decode cX12_init 445 = .ok (.dup, 1) := by decide +kernel
theorem dX12_init_446 : decode cX12_init 446 = .ok (.bipush 57, 2) := by decide +kernel
theorem dX12_init_448 : decode cX12_init 448 = .ok (.bipush 115, 2) := by decide +kernel
theorem dX12_init_450 : decode cX12_init 450 = .ok (.iastore, 1) := by decide +kernel
theorem dX12_init_451 : decode cX12_init 451 = .ok (.dup, 1) := by decide +kernel
theorem dX12_init_452 : decode cX12_init 452 = .ok (.bipush 58, 2) := by decide +kernel
theorem dX12_init_454 : decode cX12_init 454 = .ok (.bipush 111, 2) := by decide +kernel
theorem dX12_init_456 : decode cX12_init 456 = .ok (.iastore, 1) := by decide +kernel
theorem dX12_init_457 : decode cX12_init 457 = .ok (.dup, 1) := by decide +kernel
theorem dX12_init_458 : decode cX12_init 458 = .ok (.bipush 59, 2) := by decide +kernel
theorem dX12_init_460 : decode cX12_init 460 = .ok (.bipush 110, 2) := by decide +kernel
theorem dX12_init_462 : decode cX12_init 462 = .ok (.iastore, 1) := by decide +kernel
theorem dX12_init_463 : decode cX12_init 463 = .ok (.dup, 1) := by decide +kernel
theorem dX12_init_464 : decode cX12_init 464 = .ok (.bipush 60, 2) := by decide +kernel
theorem dX12_init_466 : decode cX12_init 466 = .ok (.bipush 32, 2) := by decide +kernel
theorem dX12_init_468 : decode cX12_init 468 = .ok (.iastore, 1) := by decide +kernel
theorem dX12_init_469 : decode cX12_init 469 = .ok (.dup, 1) := by decide +kernel
theorem dX12_init_470 : decode cX12_init 470 = .ok (.bipush 61, 2) := by decide +kernel
theorem dX12_init_472 : decode cX12_init 472 = .ok (.bipush 112, 2) := by decide +kernel
theorem dX12_init_474 : decode cX12_init 474 = .ok (.iastore, 1) := by decide +kernel
theorem dX12_init_475 : decode cX12_init 475 = .ok (.dup, 1) := by decide +kernel
theorem dX12_init_476 : decode cX12_init 476 = .ok (.bipush 62, 2) := by decide +kernel
theorem dX12_init_478 : decode cX12_init 478 = .ok (.bipush 101, 2) := by decide +kernel
theorem dX12_init_480 : decode cX12_init 480 = .ok (.iastore, 1) := by decide +kernel
theorem dX12_init_481 : decode cX12_init 481 = .ok (.dup, 1) := by decide +kernel
theorem dX12_init_482 : decode cX12_init 482 = .ok (.bipush 63, 2) := by decide +kernel
theorem dX12_init_484 : decode cX12_init 484 = .ok (.bipush 111, 2) := by decide +kernel
theorem dX12_init_486 : decode cX12_init 486 = .ok (.iastore, 1) := by decide +kernel
theorem dX12_init_487 : decode cX12_init 487 = .ok (.dup, 1) := by decide +kernel
theorem dX12_init_488 : decode cX12_init 488 = .ok (.bipush 64, 2) := by decide +kernel
theorem dX12_init_490 : decode cX12_init 490 = .ok (.bipush 112, 2) := by decide +kernel
theorem dX12_init_492 : decode cX12_init 492 = .ok (.iastore, 1) := by decide +kernel
theorem dX12_init_493 : decode cX12_init 493 = .ok (.dup, 1) := by decide +kernel
theorem dX12_init_494 : decode cX12_init 494 = .ok (.bipush 65, 2) := by decide +kernel
theorem dX12_init_496 : decode cX12_init 496 = .ok (.bipush 108, 2) := by decide +kernel
theorem dX12_init_498 : decode cX12_init 498 = .ok (.iastore, 1) := by decide +kernel
theorem dX12_init_499 : decode cX12_init 499 = .ok (.dup, 1) := by decide +kernel
theorem dX12_init_500 : decode cX12_init 500 = .ok (.bipush 66, 2) := by decide +kernel
theorem dX12_init_502 : decode cX12_init 502 = .ok (.bipush 101, 2) := by decide +kernel
theorem dX12_init_504 : decode cX12_init 504 = .ok (.iastore, 1) := by decide +kernel
theorem dX12_init_505 : decode cX12_init 505 = .ok (.dup, 1) := by decide +kernel
theorem dX12_init_506 : decode cX12_init 506 = .ok (.bipush 67, 2) := by decide +kernel
theorem dX12_init_508 : decode cX12_init 508 = .ok (.bipush 32, 2) := by decide +kernel
theorem dX12_init_510 : decode cX12_init 510 = .ok (.iastore, 1) := by decide +kernel
theorem dX12_init_511 : decode cX12_init 511 = .ok (.dup, 1) := by decide +kernel
theorem dX12_init_512 : decode cX12_init 512 = .ok (.bipush 68, 2) := by decide +kernel
theorem dX12_init_514 : decode cX12_init 514 = .ok (.bipush 110, 2) := by decide +kernel
theorem dX12_init_516 : decode cX12_init 516 = .ok (.iastore, 1) := by decide +kernel
theorem dX12_init_517 : decode cX12_init 517 = .ok (.dup, 1) := by decide +kernel
theorem dX12_init_518 : decode cX12_init 518 = .ok (.bipush 69, 2) := by decide +kernel
theorem dX12_init_520 : decode cX12_init 520 = .ok (.bipush 101, 2) := by decide +kernel
theorem dX12_init_522 : decode cX12_init 522 = .ok (.iastore, 1) := by decide +kernel
theorem dX12_init_523 : decode cX12_init 523 = .ok (.dup, 1) := by decide +kernel
theorem dX12_init_524 : decode cX12_init 524 = .ok (.bipush 70, 2) := by decide +kernel
theorem dX12_init_526 : decode cX12_init 526 = .ok (.bipush 101, 2) := by decide +kernel
theorem dX12_init_528 : decode cX12_init 528 = .ok (.iastore, 1) := by decide +kernel
theorem dX12_init_529 : decode cX12_init 529 = .ok (.dup, 1) := by decide +kernel
theorem dX12_init_530 : decode cX12_init 530 = .ok (.bipush 71, 2) := by decide +kernel
theorem dX12_init_532 : decode cX12_init 532 = .ok (.bipush 100, 2) := by decide +kernel
theorem dX12_init_534 : decode cX12_init 534 = .ok (.iastore, 1) := by decide +kernel
theorem dX12_init_535 : decode cX12_init 535 = .ok (.dup, 1) := by decide +kernel
theorem dX12_init_536 : decode cX12_init 536 = .ok (.bipush 72, 2) := by decide +kernel
theorem dX12_init_538 : decode cX12_init 538 = .ok (.bipush 115, 2) := by decide +kernel
theorem dX12_init_540 : decode cX12_init 540 = .ok (.iastore, 1) := by decide +kernel
theorem dX12_init_541 : decode cX12_init 541 = .ok (.dup, 1) := by decide +kernel
theorem dX12_init_542 : decode cX12_init 542 = .ok (.bipush 73, 2) := by decide +kernel
theorem dX12_init_544 : decode cX12_init 544 = .ok (.bipush 32, 2) := by decide +kernel
theorem dX12_init_546 : decode cX12_init 546 = .ok (.iastore, 1) := by decide +kernel
theorem dX12_init_547 : decode cX12_init 547 = .ok (.dup, 1) := by decide +kernel
theorem dX12_init_548 : decode cX12_init 548 = .ok (.bipush 74, 2) := by decide +kernel
theorem dX12_init_550 : decode cX12_init 550 = .ok (.bipush 102, 2) := by decide +kernel
theorem dX12_init_552 : decode cX12_init 552 = .ok (.iastore, 1) := by decide +kernel
theorem dX12_init_553 : decode cX12_init 553 = .ok (.dup, 1) := by decide +kernel
theorem dX12_init_554 : decode cX12_init 554 = .ok (.bipush 75, 2) := by decide +kernel
theorem dX12_init_556 : decode cX12_init 556 = .ok (.bipush 97, 2) := by decide +kernel
theorem dX12_init_558 : decode cX12_init 558 = .ok (.iastore, 1) := by decide +kernel
theorem dX12_init_559 : decode cX12_init 559 = .ok (.dup, 1) := by decide +kernel
theorem dX12_init_560 : decode cX12_init 560 = .ok (.bipush 76, 2) := by decide +kernel
theorem dX12_init_562 : decode cX12_init 562 = .ok (.bipush 114, 2) := by decide +kernel
theorem dX12_init_564 : decode cX12_init 564 = .ok (.iastore, 1) := by decide +kernel
theorem dX12_init_565 : decode cX12_init 565 = .ok (.dup, 1) := by decide +kernel
theorem dX12_init_566 : decode cX12_init 566 = .ok (.bipush 77, 2) := by decide +kernel
theorem dX12_init_568 : decode cX12_init 568 = .ok (.bipush 32, 2) := by decide +kernel
theorem dX12_init_570 : decode cX12_init 570 = .ok (.iastore, 1) := by decide +kernel
theorem dX12_init_571 : decode cX12_init 571 = .ok (.dup, 1) := by decide +kernel
theorem dX12_init_572 : decode cX12_init 572 = .ok (.bipush 78, 2) := by decide +kernel
theorem dX12_init_574 : decode cX12_init 574 = .ok (.bipush 98, 2) := by decide +kernel
theorem dX12_init_576 : decode cX12_init 576 = .ok (.iastore, 1) := by decide +kernel
theorem dX12_init_577 : decode cX12_init 577 = .ok (.dup, 1) := by decide +kernel
theorem dX12_init_578 : decode cX12_init 578 = .ok (.bipush 79, 2) := by decide +kernel
theorem dX12_init_580 : decode cX12_init 580 = .ok (.bipush 105, 2) := by decide +kernel
theorem dX12_init_582 : decode cX12_init 582 = .ok (.iastore, 1) := by decide +kernel
theorem dX12_init_583 : decode cX12_init 583 = .ok (.dup, 1) := by decide +kernel
theorem dX12_init_584 : decode cX12_init 584 = .ok (.bipush 80, 2) := by decide +kernel
theorem dX12_init_586 : decode cX12_init 586 = .ok (.bipush 100, 2) := by decide +kernel
theorem dX12_init_588 : decode cX12_init 588 = .ok (.iastore, 1) := by decide +kernel
theorem dX12_init_589 : decode cX12_init 589 = .ok (.dup, 1) := by decide +kernel
theorem dX12_init_590 : decode cX12_init 590 = .ok (.bipush 81, 2) := by decide +kernel
theorem dX12_init_592 : decode cX12_init 592 = .ok (.bipush 32, 2) := by decide +kernel
theorem dX12_init_594 : decode cX12_init 594 = .ok (.iastore, 1) := by decide +kernel
theorem dX12_init_595 : decode cX12_init 595 = .ok (.dup, 1) := by decide +kernel
theorem dX12_init_596 : decode cX12_init 596 = .ok (.bipush 82, 2) := by decide +kernel
theorem dX12_init_598 : decode cX12_init 598 = .ok (.bipush 112, 2) := by decide +kernel
theorem dX12_init_600 : decode cX12_init 600 = .ok (.iastore, 1) := by decide +kernel
theorem dX12_init_601 : decode cX12_init 601 = .ok (.dup, 1) := by decide +kernel
theorem dX12_init_602 : decode cX12_init 602 = .ok (.bipush 83, 2) := by decide +kernel
theorem dX12_init_604 : decode cX12_init 604 = .ok (.bipush 97, 2) := by decide +kernel
theorem dX12_init_606 : decode cX12_init 606 = .ok (.iastore, 1) := by decide +kernel
theorem dX12_init_607 : decode cX12_init 607 = .ok (.dup, 1) := by decide +kernel
theorem dX12_init_608 : decode cX12_init 608 = .ok (.bipush 84, 2) := by decide +kernel
theorem dX12_init_610 : decode cX12_init 610 = .ok (.bipush 116, 2) := by decide +kernel
theorem dX12_init_612 : decode cX12_init 612 = .ok (.iastore, 1) := by decide +kernel
theorem dX12_init_613 : decode cX12_init 613 = .ok (.dup, 1) := by decide +kernel
theorem dX12_init_614 : decode cX12_init 614 = .ok (.bipush 85, 2) := by decide +kernel
theorem dX12_init_616 : decode cX12_init 616 = .ok (.bipush 104, 2) := by decide +kernel
theorem dX12_init_618 : decode cX12_init 618 = .ok (.iastore, 1) := by decide +kernel
theorem dX12_init_619 : decode cX12_init 619 = .ok (.dup, 1) := by decide +kernel
theorem dX12_init_620 : decode cX12_init 620 = .ok (.bipush 86, 2) := by decide +kernel
theorem dX12_init_622 : decode cX12_init 622 = .ok (.bipush 32, 2) := by decide +kernel
theorem dX12_init_624 : decode cX12_init 624 = .ok (.iastore, 1) := by decide +kernel
theorem dX12_init_625 : decode cX12_init 625 = .ok (.dup, 1) := by decide +kernel
theorem dX12_init_626 : decode cX12_init 626 = .ok (.bipush 87, 2) := by decide +kernel
theorem dX12_init_628 : decode cX12_init 628 = .ok (.bipush 116, 2) := by decide +kernel
theorem dX12_init_630 : decode cX12_init 630 = .ok (.iastore, 1) := by decide +kernel
theorem dX12_init_631 : decode cX12_init 631 = .ok (.dup, 1) := by decide +kernel
theorem dX12_init_632 : decode cX12_init 632 = .ok (.bipush 88, 2) := by decide +kernel
theorem dX12_init_634 : decode cX12_init 634 = .ok (.bipush 111, 2) := by decide +kernel
theorem dX12_init_636 : decode cX12_init 636 = .ok (.iastore, 1) := by decide +kernel
theorem dX12_init_637 : decode cX12_init 637 = .ok (.dup, 1) := by decide +kernel
theorem dX12_init_638 : decode cX12_init 638 = .ok (.bipush 89, 2) := by decide +kernel
theorem dX12_init_640 : decode cX12_init 640 = .ok (.bipush 32, 2) := by decide +kernel
theorem dX12_init_642 : decode cX12_init 642 = .ok (.iastore, 1) := by decide +kernel
theorem dX12_init_643 : decode cX12_init 643 = .ok (.dup, 1) := by decide +kernel
theorem dX12_init_644 : decode cX12_init 644 = .ok (.bipush 90, 2) := by decide +kernel
theorem dX12_init_646 : decode cX12_init 646 = .ok (.bipush 105, 2) := by decide +kernel
theorem dX12_init_648 : decode cX12_init 648 = .ok (.iastore, 1) := by decide +kernel
theorem dX12_init_649 : decode cX12_init 649 = .ok (.dup, 1) := by decide +kernel
theorem dX12_init_650 : decode cX12_init 650 = .ok (.bipush 91, 2) := by decide +kernel
theorem dX12_init_652 : decode cX12_init 652 = .ok (.bipush 110, 2) := by decide +kernel
theorem dX12_init_654 : decode cX12_init 654 = .ok (.iastore, 1) := by decide +kernel
theorem dX12_init_655 : decode cX12_init 655 = .ok (.dup, 1) := by decide +kernel
theorem dX12_init_656 : decode cX12_init 656 = .ok (.bipush 92, 2) := by decide +kernel
theorem dX12_init_658 : decode cX12_init 658 = .ok (.bipush 32, 2) := by decide +kernel
theorem dX12_init_660 : decode cX12_init 660 = .ok (.iastore, 1) := by decide +kernel
theorem dX12_init_661 : decode cX12_init 661 = .ok (.dup, 1) := by decide +kernel
theorem dX12_init_662 : decode cX12_init 662 = .ok (.bipush 93, 2) := by decide +kernel
theorem dX12_init_664 : decode cX12_init 664 = .ok (.bipush 117, 2) := by decide +kernel
theorem dX12_init_666 : decode cX12_init 666 = .ok (.iastore, 1) := by decide +kernel
theorem dX12_init_667 : decode cX12_init 667 = .ok (.dup, 1) := by decide +kernel
theorem dX12_init_668 : decode cX12_init 668 = .ok (.bipush 94, 2) := by decide +kernel
theorem dX12_init_670 : decode cX12_init 670 = .ok (.bipush 110, 2) := by decide +kernel
theorem dX12_init_672 : decode cX12_init 672 = .ok (.iastore, 1) := by decide +kernel
theorem dX12_init_673 : decode cX12_init 673 = .ok (.dup, 1) := by decide +kernel
theorem dX12_init_674 : decode cX12_init 674 = .ok (.bipush 95, 2) := by decide +kernel
theorem dX12_init_676 : decode cX12_init 676 = .ok (.bipush 116, 2) := by decide +kernel
theorem dX12_init_678 : decode cX12_init 678 = .ok (.iastore, 1) := by decide +kernel
theorem dX12_init_679 : decode cX12_init 679 = .ok (.dup, 1) := by decide +kernel
theorem dX12_init_680 : decode cX12_init 680 = .ok (.bipush 96, 2) := by decide +kernel
theorem dX12_init_682 : decode cX12_init 682 = .ok (.bipush 105, 2) := by decide +kernel
theorem dX12_init_684 : decode cX12_init 684 = .ok (.iastore, 1) := by decide +kernel
theorem dX12_init_685 : decode cX12_init 685 = .ok (.dup, 1) := by decide +kernel
theorem dX12_init_686 : decode cX12_init 686 = .ok (.bipush 97, 2) := by decide +kernel
theorem dX12_init_688 : decode cX12_init 688 = .ok (.bipush 108, 2) := by decide +kernel
theorem dX12_init_690 : decode cX12_init 690 = .ok (.iastore, 1) := by decide +kernel
theorem dX12_init_691 : decode cX12_init 691 = .ok (.dup, 1) := by decide +kernel
theorem dX12_init_692 : decode cX12_init 692 = .ok (.bipush 98, 2) := by decide +kernel
theorem dX12_init_694 : decode cX12_init 694 = .ok (.bipush 32, 2) := by decide +kernel
theorem dX12_init_696 : decode cX12_init 696 = .ok (.iastore, 1) := by decide +kernel
theorem dX12_init_697 : decode cX12_init 697 = .ok (.dup, 1) := by decide +kernel
theorem dX12_init_698 : decode cX12_init 698 = .ok (.bipush 99, 2) := by decide +kernel
theorem dX12_init_700 : decode cX12_init 700 = .ok (.bipush 110, 2) := by decide +kernel
theorem dX12_init_702 : decode cX12_init 702 = .ok (.iastore, 1) := by decide +kernel
theorem dX12_init_703 : decode cX12_init 703 = .ok (.dup, 1) := by decide +kernel
theorem dX12_init_704 : decode cX12_init 704 = .ok (.bipush 100, 2) := by decide +kernel
theorem dX12_init_706 : decode cX12_init 706 = .ok (.bipush 101, 2) := by decide +kernel
theorem dX12_init_708 : decode cX12_init 708 = .ok (.iastore, 1) := by decide +kernel
theorem dX12_init_709 : decode cX12_init 709 = .ok (.dup, 1) := by decide +kernel
theorem dX12_init_710 : decode cX12_init 710 = .ok (.bipush 101, 2) := by decide +kernel
theorem dX12_init_712 : decode cX12_init 712 = .ok (.bipush 101, 2) := by decide +kernel
theorem dX12_init_714 : decode cX12_init 714 = .ok (.iastore, 1) := by decide +kernel
theorem dX12_init_715 : decode cX12_init 715 = .ok (.dup, 1) := by decide +kernel
theorem dX12_init_716 : decode cX12_init 716 = .ok (.bipush 102, 2) := by decide +kernel
theorem dX12_init_718 : decode cX12_init 718 = .ok (.bipush 100, 2) := by decide +kernel
theorem dX12_init_720 : decode cX12_init 720 = .ok (.iastore, 1) := by decide +kernel
theorem dX12_init_721 : decode cX12_init 721 = .ok (.dup, 1) := by decide +kernel
theorem dX12_init_722 : decode cX12_init 722 = .ok (.bipush 103, 2) := by decide +kernel
theorem dX12_init_724 : decode cX12_init 724 = .ok (.bipush 32, 2) := by decide +kernel
theorem dX12_init_726 : decode cX12_init 726 = .ok (.iastore, 1) := by decide +kernel
theorem dX12_init_727 : decode cX12_init 727 = .ok (.dup, 1) := by decide +kernel
theorem dX12_init_728 : decode cX12_init 728 = .ok (.bipush 104, 2) := by decide +kernel
theorem dX12_init_730 : decode cX12_init 730 = .ok (.bipush 98, 2) := by decide +kernel
theorem dX12_init_732 : decode cX12_init 732 = .ok (.iastore, 1) := by decide +kernel
theorem dX12_init_733 : decode cX12_init 733 = .ok (.dup, 1) := by decide +kernel
theorem dX12_init_734 : decode cX12_init 734 = .ok (.bipush 105, 2) := by decide +kernel
theorem dX12_init_736 : decode cX12_init 736 = .ok (.bipush 105, 2) := by decide +kernel
theorem dX12_init_738 : decode cX12_init 738 = .ok (.iastore, 1) := by decide +kernel
theorem dX12_init_739 : decode cX12_init 739 = .ok (.dup, 1) := by decide +kernel
theorem dX12_init_740 : decode cX12_init 740 = .ok (.bipush 106, 2) := by decide +kernel
theorem dX12_init_742 : decode cX12_init 742 = .ok (.bipush 114, 2) := by decide +kernel
theorem dX12_init_744 : decode cX12_init 744 = .ok (.iastore, 1) := by decide +kernel
theorem dX12_init_745 : decode cX12_init 745 = .ok (.dup, 1) := by decide +kernel
theorem dX12_init_746 : decode cX12_init 746 = .ok (.bipush 107, 2) := by decide +kernel
theorem dX12_init_748 : decode cX12_init 748 = .ok (.bipush 116, 2) := by decide +kernel
theorem dX12_init_750 : decode cX12_init 750 = .ok (.iastore, 1) := by decide +kernel
theorem dX12_init_751 : decode cX12_init 751 = .ok (.dup, 1) := by decide +kernel
theorem dX12_init_752 : decode cX12_init 752 = .ok (.bipush 108, 2) := by decide +kernel
theorem dX12_init_754 : decode cX12_init 754 = .ok (.bipush 104, 2) := by decide +kernel
theorem dX12_init_756 : decode cX12_init 756 = .ok (.iastore, 1) := by decide +kernel
theorem dX12_init_757 : decode cX12_init 757 = .ok (.dup, 1) := by decide +kernel
theorem dX12_init_758 : decode cX12_init 758 = .ok (.bipush 109, 2) := by decide +kernel
theorem dX12_init_760 : decode cX12_init 760 = .ok (.bipush 32, 2) := by decide +kernel
theorem dX12_init_762 : decode cX12_init 762 = .ok (.iastore, 1) := by decide +kernel
theorem dX12_init_763 : decode cX12_init 763 = .ok (.dup, 1) := by decide +kernel
theorem dX12_init_764 : decode cX12_init 764 = .ok (.bipush 110, 2) := by decide +kernel
theorem dX12_init_766 : decode cX12_init 766 = .ok (.bipush 114, 2) := by decide +kernel
theorem dX12_init_768 : decode cX12_init 768 = .ok (.iastore, 1) := by decide +kernel
theorem dX12_init_769 : decode cX12_init 769 = .ok (.dup, 1) := by decide +kernel
theorem dX12_init_770 : decode cX12_init 770 = .ok (.bipush 111, 2) := by decide +kernel
theorem dX12_init_772 : decode cX12_init 772 = .ok (.bipush 101, 2) := by decide +kernel
theorem dX12_init_774 : decode cX12_init 774 = .ok (.iastore, 1) := by decide +kernel
theorem dX12_init_775 : decode cX12_init 775 = .ok (.dup, 1) := by decide +kernel
theorem dX12_init_776 : decode cX12_init 776 = .ok (.bipush 112, 2) := by decide +kernel
theorem dX12_init_778 : decode cX12_init 778 = .ok (.bipush 97, 2) := by decide +kernel
theorem dX12_init_780 : decode cX12_init 780 = .ok (.iastore, 1) := by decide +kernel
theorem dX12_init_781 : decode cX12_init 781 = .ok (.dup, 1) := by decide +kernel
theorem dX12_init_782 : decode cX12_init 782 = .ok (.bipush 113, 2) := by decide +kernel
theorem dX12_init_784 : decode cX12_init 784 = .ok (.bipush 100, 2) := by decide +kernel
theorem dX12_init_786 : decode cX12_init 786 = .ok (.iastore, 1) := by decide +kernel
theorem dX12_init_787 : decode cX12_init 787 = .ok (.dup, 1) := by decide +kernel
theorem dX12_init_788 : decode cX12_init 788 = .ok (.bipush 114, 2) := by decide +kernel
theorem dX12_init_790 : decode cX12_init 790 = .ok (.bipush 32, 2) := by decide +kernel
theorem dX12_init_792 : decode cX12_init 792 = .ok (.iastore, 1) := by decide +kernel
theorem dX12_init_793 : decode cX12_init 793 = .ok (.dup, 1) := by decide +kernel
theorem dX12_init_794 : decode cX12_init 794 = .ok (.bipush 115, 2) := by decide +kernel
theorem dX12_init_796 : decode cX12_init 796 = .ok (.bipush 109, 2) := by decide +kernel
theorem dX12_init_798 : decode cX12_init 798 = .ok (.iastore, 1) := by decide +kernel
theorem dX12_init_799 : decode cX12_init 799 = .ok (.dup, 1) := by decide +kernel
theorem dX12_init_800 : decode cX12_init 800 = .ok (.bipush 116, 2) := by decide +kernel
theorem dX12_init_802 : decode cX12_init 802 = .ok (.bipush 101, 2) := by decide +kernel
theorem dX12_init_804 : decode cX12_init 804 = .ok (.iastore, 1) := by decide +kernel
theorem dX12_init_805 : decode cX12_init 805 = .ok (.dup, 1) := by decide +kernel
theorem dX12_init_806 : decode cX12_init 806 = .ok (.bipush 117, 2) := by decide +kernel
theorem dX12_init_808 : decode cX12_init 808 = .ok (.bipush 110, 2) := by decide +kernel
theorem dX12_init_810 : decode cX12_init 810 = .ok (.iastore, 1) := by decide +kernel
theorem dX12_init_811 : decode cX12_init 811 = .ok (.dup, 1) := by decide +kernel
theorem dX12_init_812 : decode cX12_init 812 = .ok (.bipush 118, 2) := by decide +kernel
theorem dX12_init_814 : decode cX12_init 814 = .ok (.bipush 100, 2) := by decide +kernel
theorem dX12_init_816 : decode cX12_init 816 = .ok (.iastore, 1) := by decide +kernel
theorem dX12_init_817 : decode cX12_init 817 = .ok (.dup, 1) := by decide +kernel
theorem dX12_init_818 : decode cX12_init 818 = .ok (.bipush 119, 2) := by decide +kernel
theorem dX12_init_820 : decode cX12_init 820 = .ok (.bipush 32, 2) := by decide +kernel
theorem dX12_init_822 : decode cX12_init 822 = .ok (.iastore, 1) := by decide +kernel
theorem dX12_init_823 : decode cX12_init 823 = .ok (.dup, 1) := by decide +kernel
theorem dX12_init_824 : decode cX12_init 824 = .ok (.bipush 120, 2) := by decide +kernel
theorem dX12_init_826 : decode cX12_init 826 = .ok (.bipush 98, 2) := by decide +kernel
theorem dX12_init_828 : decode cX12_init 828 = .ok (.iastore, 1) := by decide +kernel
theorem dX12_init_829 : decode cX12_init 829 = .ok (.dup, 1) := by decide +kernel
theorem dX12_init_830 : decode cX12_init 830 = .ok (.bipush 121, 2) := by decide +kernel
theorem dX12_init_832 : decode cX12_init 832 = .ok (.bipush 114, 2) := by decide +kernel
theorem dX12_init_834 : decode cX12_init 834 = .ok (.iastore, 1) := by decide +kernel
theorem dX12_init_835 : decode cX12_init 835 = .ok (.dup, 1) := by decide +kernel
theorem dX12_init_836 : decode cX12_init 836 = .ok (.bipush 122, 2) := by decide +kernel
theorem dX12_init_838 : decode cX12_init 838 = .ok (.bipush 105, 2) := by decide +kernel
theorem dX12_init_840 : decode cX12_init 840 = .ok (.iastore, 1) := by decide +kernel
theorem dX12_init_841 : decode cX12_init 841 = .ok (.dup, 1) := by decide +kernel
theorem dX12_init_842 : decode cX12_init 842 = .ok (.bipush 123, 2) := by decide +kernel
theorem dX12_init_844 : decode cX12_init 844 = .ok (.bipush 100, 2) := by decide +kernel
theorem dX12_init_846 : decode cX12_init 846 = .ok (.iastore, 1) := by decide +kernel
theorem dX12_init_847 : decode cX12_init 847 = .ok (.dup, 1) := by decide +kernel
theorem dX12_init_848 : decode cX12_init 848 = .ok (.bipush 124, 2) := by decide +kernel
theorem dX12_init_850 : decode cX12_init 850 = .ok (.bipush 101, 2) := by decide +kernel
theorem dX12_init_852 : decode cX12_init 852 = .ok (.iastore, 1) := by decide +kernel
theorem dX12_init_853 : decode cX12_init 853 = .ok (.dup, 1) := by decide +kernel
theorem dX12_init_854 : decode cX12_init 854 = .ok (.bipush 125, 2) := by decide +kernel
theorem dX12_init_856 : decode cX12_init 856 = .ok (.bipush 32, 2) := by decide +kernel
theorem dX12_init_858 : decode cX12_init 858 = .ok (.iastore, 1) := by decide +kernel
theorem dX12_init_859 : decode cX12_init 859 = .ok (.dup, 1) := by decide +kernel
theorem dX12_init_860 : decode cX12_init 860 = .ok (.bipush 126, 2) := by decide +kernel
theorem dX12_init_862 : decode cX12_init 862 = .ok (.bipush 97, 2) := by decide +kernel
theorem dX12_init_864 : decode cX12_init 864 = .ok (.iastore, 1) := by decide +kernel
theorem dX12_init_865 : decode cX12_init 865 = .ok (.dup, 1) := by decide +kernel
theorem dX12_init_866 : decode cX12_init 866 = .ok (.bipush 127, 2) := by decide +kernel
theorem dX12_init_868 : decode cX12_init 868 = .ok (.bipush 116, 2) := by decide +kernel
theorem dX12_init_870 : decode cX12_init 870 = .ok (.iastore, 1) := by decide +kernel
theorem dX12_init_871 : decode cX12_init 871 = .ok (.dup, 1) := by decide +kernel
theorem dX12_init_872 : decode cX12_init 872 = .ok (.sipush 128, 3) := by decide +kernel
theorem dX12_init_875 : decode cX12_init 875 = .ok (.bipush 32, 2) := by decide +kernel
theorem dX12_init_877 : decode cX12_init 877 = .ok (.iastore, 1) := by decide +kernel
theorem dX12_init_878 : decode cX12_init 878 = .ok (.dup, 1) := by decide +kernel
theorem dX12_init_879 : decode cX12_init 879 = .ok (.sipush 129, 3) := by decide +kernel
theorem dX12_init_882 : decode cX12_init 882 = .ok (.bipush 102, 2) := by decide +kernel
theorem dX12_init_884 : decode cX12_init 884 = .ok (.iastore, 1) := by decide +kernel
theorem dX12_init_885 : decode cX12_init 885 = .ok (.dup, 1) := by decide +kernel
theorem dX12_init_886 : decode cX12_init 886 = .ok (.sipush 130, 3) := by decide +kernel
theorem dX12_init_889 : decode cX12_init 889 = .ok (.bipush 114, 2) := by decide +kernel
theorem dX12_init_891 : decode cX12_init 891 = .ok (.iastore, 1) := by decide +kernel
theorem dX12_init_892 : decode cX12_init 892 = .ok (.dup, 1) := by decide +kernel
theorem dX12_init_893 : decode cX12_init 893 = .ok (.sipush 131, 3) := by decide +kernel
theorem dX12_init_896 : decode cX12_init 896 = .ok (.bipush 111, 2) := by decide +kernel
theorem dX12_init_898 : decode cX12_init 898 = .ok (.iastore, 1) := by decide +kernel
theorem dX12_init_899 : decode cX12_init 899 = .ok (.dup, 1) := by decide +kernel
theorem dX12_init_900 : decode cX12_init 900 = .ok (.sipush 132, 3) := by decide +kernel
theorem dX12_init_903 : decode cX12_init 903 = .ok (.bipush 109, 2) := by decide +kernel
theorem dX12_init_905 : decode cX12_init 905 = .ok (.iastore, 1) := by decide +kernel
theorem dX12_init_906 : decode cX12_init 906 = .ok (.dup, 1) := by decide +kernel
theorem dX12_init_907 : decode cX12_init 907 = .ok (.sipush 133, 3) := by decide +kernel
theorem dX12_init_910 : decode cX12_init 910 = .ok (.bipush 32, 2) := by decide +kernel
theorem dX12_init_912 : decode cX12_init 912 = .ok (.iastore, 1) := by decide +kernel
theorem dX12_init_913 : decode cX12_init 913 = .ok (.dup, 1) := by decide +kernel
theorem dX12_init_914 : decode cX12_init 914 = .ok (.sipush 134, 3) := by decide +kernel
theorem dX12_init_917 : decode cX12_init 917 = .ok (.bipush 119, 2) := by decide +kernel
theorem dX12_init_919 : decode cX12_init 919 = .ok (.iastore, 1) := by decide +kernel
theorem dX12_init_920 : decode cX12_init 920 = .ok (.dup, 1) := by decide +kernel
theorem dX12_init_921 : decode cX12_init 921 = .ok (.sipush 135, 3) := by decide +kernel
theorem dX12_init_924 : decode cX12_init 924 = .ok (.bipush 111, 2) := by decide +kernel
theorem dX12_init_926 : decode cX12_init 926 = .ok (.iastore, 1) := by decide +kernel
theorem dX12_init_927 : decode cX12_init 927 = .ok (.dup, 1) := by decide +kernel
theorem dX12_init_928 : decode cX12_init 928 = .ok (.sipush 136, 3) := by decide +kernel
theorem dX12_init_931 : decode cX12_init 931 = .ok (.bipush 114, 2) := by decide +kernel
theorem dX12_init_933 : decode cX12_init 933 = .ok (.iastore, 1) := by decide +kernel
theorem dX12_init_934 : decode cX12_init 934 = .ok (.dup, 1) := by decide +kernel
theorem dX12_init_935 : decode cX12_init 935 = .ok (.sipush 137, 3) := by decide +kernel
theorem dX12_init_938 : decode cX12_init 938 = .ok (.bipush 116, 2) := by decide +kernel
theorem dX12_init_940 : decode cX12_init 940 = .ok (.iastore, 1) := by decide +kernel
theorem dX12_init_941 : decode cX12_init 941 = .ok (.dup, 1) := by decide +kernel
theorem dX12_init_942 : decode cX12_init 942 = .ok (.sipush 138, 3) := by decide +kernel
theorem dX12_init_945 : decode cX12_init 945 = .ok (.bipush 104, 2) := by decide +kernel
theorem dX12_init_947 : decode cX12_init 947 = .ok (.iastore, 1) := by decide +kernel
theorem dX12_init_948 : decode cX12_init 948 = .ok (.dup, 1) := by decide +kernel
theorem dX12_init_949 : decode cX12_init 949 = .ok (.sipush 139, 3) := by decide +kernel
theorem dX12_init_952 : decode cX12_init 952 = .ok (.bipush 32, 2) := by decide +kernel
theorem dX12_init_954 : decode cX12_init 954 = .ok (.iastore, 1) := by decide +kernel
theorem dX12_init_955 : decode cX12_init 955 = .ok (.dup, 1) := by decide +kernel
theorem dX12_init_956 : decode cX12_init 956 = .ok (.sipush 140, 3) := by decide +kernel
theorem dX12_init_959 : decode cX12_init 959 = .ok (.bipush 103, 2) := by decide +kernel
theorem dX12_init_961 : decode cX12_init 961 = .ok (.iastore, 1) := by decide +kernel
theorem dX12_init_962 : decode cX12_init 962 = .ok (.dup, 1) := by decide +kernel
theorem dX12_init_963 : decode cX12_init 963 = .ok (.sipush 141, 3) := by decide +kernel
theorem dX12_init_966 : decode cX12_init 966 = .ok (.bipush 111, 2) := by decide +kernel
theorem dX12_init_968 : decode cX12_init 968 = .ok (.iastore, 1) := by decide +kernel
theorem dX12_init_969 : decode cX12_init 969 = .ok (.dup, 1) := by decide +kernel
theorem dX12_init_970 : decode cX12_init 970 = .ok (.sipush 142, 3) := by decide +kernel
theorem dX12_init_973 : decode cX12_init 973 = .ok (.bipush 32, 2) := by decide +kernel
theorem dX12_init_975 : decode cX12_init 975 = .ok (.iastore, 1) := by decide +kernel
theorem dX12_init_976 : decode cX12_init 976 = .ok (.dup, 1) := by decide +kernel
theorem dX12_init_977 : decode cX12_init 977 = .ok (.sipush 143, 3) := by decide +kernel
theorem dX12_init_980 : decode cX12_init 980 = .ok (.bipush 115, 2) := by decide +kernel
theorem dX12_init_982 : decode cX12_init 982 = .ok (.iastore, 1) := by decide +kernel
theorem dX12_init_983 : decode cX12_init 983 = .ok (.dup, 1) := by decide +kernel
theorem dX12_init_984 : decode cX12_init 984 = .ok (.sipush 144, 3) := by decide +kernel
theorem dX12_init_987 : decode cX12_init 987 = .ok (.bipush 116, 2) := by decide +kernel
theorem dX12_init_989 : decode cX12_init 989 = .ok (.iastore, 1) := by decide +kernel
theorem dX12_init_990 : decode cX12_init 990 = .ok (.dup, 1) := by decide +kernel
theorem dX12_init_991 : decode cX12_init 991 = .ok (.sipush 145, 3) := by decide +kernel
theorem dX12_init_994 : decode cX12_init 994 = .ok (.bipush 97, 2) := by decide +kernel
theorem dX12_init_996 : decode cX12_init 996 = .ok (.iastore, 1) := by decide +kernel
theorem dX12_init_997 : decode cX12_init 997 = .ok (.dup, 1) := by decide +kernel
theorem dX12_init_998 : decode cX12_init 998 = .ok (.sipush 146, 3) := by decide +kernel
theorem dX12_init_1001 : decode cX12_init 1001 = .ok (.bipush 121, 2) := by decide +kernel
theorem dX12_init_1003 : decode cX12_init 1003 = .ok (.iastore, 1) := by decide +kernel
theorem dX12_init_1004 : decode cX12_init 1004 = .ok (.dup, 1) := by decide +kernel
theorem dX12_init_1005 : decode cX12_init 1005 = .ok (.sipush 147, 3) := by decide +kernel
theorem dX12_init_1008 : decode cX12_init 1008 = .ok (.bipush 32, 2) := by decide +kernel
theorem dX12_init_1010 : decode cX12_init 1010 = .ok (.iastore, 1) := by decide +kernel
theorem dX12_init_1011 : decode cX12_init 1011 = .ok (.dup, 1) := by decide +kernel
theorem dX12_init_1012 : decode cX12_init 1012 = .ok (.sipush 148, 3) := by decide +kernel
theorem dX12_init_1015 : decode cX12_init 1015 = .ok (.bipush 97, 2) := by decide +kernel
theorem dX12_init_1017 : decode cX12_init 1017 = .ok (.iastore, 1) := by decide +kernel
theorem dX12_init_1018 : decode cX12_init 1018 = .ok (.dup, 1) := by decide +kernel
theorem dX12_init_1019 : decode cX12_init 1019 = .ok (.sipush 149, 3) := by decide +kernel
theorem dX12_init_1022 : decode cX12_init 1022 = .ok (.bipush 103, 2) := by decide +kernel
theorem dX12_init_1024 : decode cX12_init 1024 = .ok (.iastore, 1) := by decide +kernel
theorem dX12_init_1025 : decode cX12_init 1025 = .ok (.dup, 1) := by decide +kernel
theorem dX12_init_1026 : decode cX12_init 1026 = .ok (.sipush 150, 3) := by decide +kernel
theorem dX12_init_1029 : decode cX12_init 1029 = .ok (.bipush 97, 2) := by decide +kernel
theorem dX12_init_1031 : decode cX12_init 1031 = .ok (.iastore, 1) := by decide +kernel
theorem dX12_init_1032 : decode cX12_init 1032 = .ok (.dup, 1) := by decide +kernel
theorem dX12_init_1033 : decode cX12_init 1033 = .ok (.sipush 151, 3) := by decide +kernel
theorem dX12_init_1036 : decode cX12_init 1036 = .ok (.bipush 105, 2) := by decide +kernel
theorem dX12_init_1038 : decode cX12_init 1038 = .ok (.iastore, 1) := by decide +kernel
theorem dX12_init_1039 : decode cX12_init 1039 = .ok (.dup, 1) := by decide +kernel
theorem dX12_init_1040 : decode cX12_init 1040 = .ok (.sipush 152, 3) := by decide +kernel
theorem dX12_init_1043 : decode cX12_init 1043 = .ok (.bipush 110, 2) := by decide +kernel
theorem dX12_init_1045 : decode cX12_init 1045 = .ok (.iastore, 1) := by decide +kernel
theorem dX12_init_1046 : decode cX12_init 1046 = .ok (.dup, 1) := by decide +kernel
theorem dX12_init_1047 : decode cX12_init 1047 = .ok (.sipush 153, 3) := by decide +kernel
theorem dX12_init_1050 : decode cX12_init 1050 = .ok (.bipush 32, 2) := by decide +kernel
theorem dX12_init_1052 : decode cX12_init 1052 = .ok (.iastore, 1) := by decide +kernel
theorem dX12_init_1053 : decode cX12_init 1053 = .ok (.putfield 46, 3) := by decide +kernel
theorem dX12_init_1056 : decode cX12_init 1056 = .ok (.aload_n 0, 1) := by decide +kernel
theorem dX12_init_1057 : decode cX12_init 1057 = .ok (.iconst 2, 1) := by decide +kernel
theorem dX12_init_1058 : decode cX12_init 1058 = .ok (.newarray .int, 2) := by decide +kernel
theorem dX12_init_1060 : decode cX12_init 1060 = .ok (.putfield 49, 3) := by decide +kernel
theorem dX12_init_1063 : decode cX12_init 1063 = .ok (.aload_n 0, 1) := by decide +kernel
theorem dX12_init_1064 : decode cX12_init 1064 = .ok (.bipush 48, 2) := by decide +kernel
theorem dX12_init_1066 : decode cX12_init 1066 = .ok (.newarray .int, 2) := by decide +kernel
theorem dX12_init_1068 : decode cX12_init 1068 = .ok (.putfield 52, 3) := by decide +kernel
theorem dX12_init_1071 : decode cX12_init 1071 = .ok (.aload_n 0, 1) := by decide +kernel
theorem dX12_init_1072 : decode cX12_init 1072 = .ok (.bipush 48, 2) := by decide +kernel
theorem dX12_init_1074 : decode cX12_init 1074 = .ok (.newarray .int, 2) := by decide +kernel
theorem dX12_init_1076 : decode cX12_init 1076 = .ok (.putfield 55, 3) := by decide +kernel
theorem dX12_init_1079 : decode cX12_init 1079 = .ok (.aload_n 0, 1) := by decide +kernel
theorem dX12_init_1080 : decode cX12_init 1080 = .ok (.bipush 48, 2) := by decide +kernel
theorem dX12_init_1082 : decode cX12_init 1082 = .ok (.newarray .int, 2) := by decide +kernel
theorem dX12_init_1084 : decode cX12_init 1084 = .ok (.putfield 58, 3) := by decide +kernel
theorem dX12_init_1087 : decode cX12_init 1087 = .ok (.aload_n 0, 1) := by decide +kernel
theorem dX12_init_1088 : decode cX12_init 1088 = .ok (.sipush 1200, 3) := by decide +kernel
theorem dX12_init_1091 : decode cX12_init 1091 = .ok (.newarray .int, 2) := by decide +kernel
theorem dX12_init_1093 : decode cX12_init 1093 = .ok (.putfield 61, 3) := by decide +kernel
theorem dX12_init_1096 : decode cX12_init 1096 = .ok (.aload_n 0, 1) := by decide +kernel
theorem dX12_init_1097 : decode cX12_init 1097 = .ok (.sipush 1200, 3) := by decide +kernel
theorem dX12_init_1100 : decode cX12_init 1100 = .ok (.newarray .int, 2) := by decide +kernel
theorem dX12_init_1102 : decode cX12_init 1102 = .ok (.putfield 64, 3) := by decide +kernel
theorem dX12_init_1105 : decode cX12_init 1105 = .ok (.aload_n 0, 1) := by decide +kernel
theorem dX12_init_1106 : decode cX12_init 1106 = .ok (.bipush 40, 2) := by decide +kernel
theorem dX12_init_1108 : decode cX12_init 1108 = .ok (.newarray .int, 2) := by decide +kernel
theorem dX12_init_1110 : decode cX12_init 1110 = .ok (.putfield 67, 3) := by decide +kernel
theorem dX12_init_1113 : decode cX12_init 1113 = .ok (.aload_n 0, 1) := by decide +kernel
theorem dX12_init_1114 : decode cX12_init 1114 = .ok (.iconst (-1), 1) := by decide +kernel
theorem dX12_init_1115 : decode cX12_init 1115 = .ok (.putfield 70, 3) := by decide +kernel
theorem dX12_init_1118 : decode cX12_init 1118 = .ok (.aload_n 0, 1) := by decide +kernel
theorem dX12_init_1119 : decode cX12_init 1119 = .ok (.sipush 320, 3) := by decide +kernel
theorem dX12_init_1122 : decode cX12_init 1122 = .ok (.newarray .int, 2) := by decide +kernel
theorem dX12_init_1124 : decode cX12_init 1124 = .ok (.putfield 74, 3) := by decide +kernel
theorem dX12_init_1127 : decode cX12_init 1127 = .ok (.aload_n 0, 1) := by decide +kernel
theorem dX12_init_1128 : decode cX12_init 1128 = .ok (.bipush 100, 2) := by decide +kernel
theorem dX12_init_1130 : decode cX12_init 1130 = .ok (.newarray .int, 2) := by decide +kernel
theorem dX12_init_1132 : decode cX12_init 1132 = .ok (.putfield 77, 3) := by decide +kernel
theorem dX12_init_1135 : decode cX12_init 1135 = .ok (.aload_n 0, 1) := by decide +kernel
theorem dX12_init_1136 : decode cX12_init 1136 = .ok (.sipush 140, 3) := by decide +kernel
theorem dX12_init_1139 : decode cX12_init 1139 = .ok (.newarray .int, 2) := by decide +kernel
theorem dX12_init_1141 : decode cX12_init 1141 = .ok (.putfield 80, 3) := by decide +kernel
theorem dX12_init_1144 : decode cX12_init 1144 = .ok (.aload_n 0, 1) := by decide +kernel
theorem dX12_init_1145 : decode cX12_init 1145 = .ok (.sipush 140, 3) := by decide +kernel
theorem dX12_init_1148 : decode cX12_init 1148 = .ok (.newarray .int, 2) := by decide +kernel
theorem dX12_init_1150 : decode cX12_init 1150 = .ok (.putfield 83, 3) := by decide +kernel
theorem dX12_init_1153 : decode cX12_init 1153 = .ok (.aload_n 0, 1) := by decide +kernel
theorem dX12_init_1154 : decode cX12_init 1154 = .ok (.sipush 400, 3) := by decide +kernel
theorem dX12_init_1157 : decode cX12_init 1157 = .ok (.newarray .int, 2) := by decide +kernel
theorem dX12_init_1159 : decode cX12_init 1159 = .ok (.putfield 86, 3) := by decide +kernel
theorem dX12_init_1162 : decode cX12_init 1162 = .ok (.aload_n 0, 1) := by decide +kernel
theorem dX12_init_1163 : decode cX12_init 1163 = .ok (.iconst 4, 1) := by decide +kernel
theorem dX12_init_1164 : decode cX12_init 1164 = .ok (.newarray .int, 2) := by decide +kernel
theorem dX12_init_1166 : decode cX12_init 1166 = .ok (.putfield 89, 3) := by decide +kernel
theorem dX12_init_1169 : decode cX12_init 1169 = .ok (.aload_n 0, 1) := by decide +kernel
theorem dX12_init_1170 : decode cX12_init 1170 = .ok (.iconst 4, 1) := by decide +kernel
theorem dX12_init_1171 : decode cX12_init 1171 = .ok (.newarray .int, 2) := by decide +kernel
theorem dX12_init_1173 : decode cX12_init 1173 = .ok (.putfield 92, 3) := by decide +kernel
theorem dX12_init_1176 : decode cX12_init 1176 = .ok (.aload_n 0, 1) := by decide +kernel
theorem dX12_init_1177 : decode cX12_init 1177 = .ok (.bipush 10, 2) := by decide +kernel
theorem dX12_init_1179 : decode cX12_init 1179 = .ok (.newarray .int, 2) := by decide +kernel
theorem dX12_init_1181 : decode cX12_init 1181 = .ok (.putfield 95, 3) := by decide +kernel
theorem dX12_init_1184 : decode cX12_init 1184 = .ok (.aload_n 0, 1) := by decide +kernel
theorem dX12_init_1185 : decode cX12_init 1185 = .ok (.sipush 420, 3) := by decide +kernel
theorem dX12_init_1188 : decode cX12_init 1188 = .ok (.newarray .int, 2) := by decide +kernel
theorem dX12_init_1190 : decode cX12_init 1190 = .ok (.putfield 98, 3) := by decide +kernel
theorem dX12_init_1193 : decode cX12_init 1193 = .ok (.aload_n 0, 1) := by decide +kernel
theorem dX12_init_1194 : decode cX12_init 1194 = .ok (.bipush 100, 2) := by decide +kernel
theorem dX12_init_1196 : decode cX12_init 1196 = .ok (.newarray .int, 2) := by decide +kernel
theorem dX12_init_1198 : decode cX12_init 1198 = .ok (.putfield 101, 3) := by decide +kernel
theorem dX12_init_1201 : decode cX12_init 1201 = .ok (.aload_n 0, 1) := by decide +kernel
theorem dX12_init_1202 : decode cX12_init 1202 = .ok (.ldc 104, 2) := by decide +kernel
theorem dX12_init_1204 : decode cX12_init 1204 = .ok (.newarray .int, 2) := by decide +kernel
theorem dX12_init_1206 : decode cX12_init 1206 = .ok (.putfield 105, 3) := by decide +kernel
theorem dX12_init_1209 : decode cX12_init 1209 = .ok (.aload_n 0, 1) := by decide +kernel
theorem dX12_init_1210 : decode cX12_init 1210 = .ok (.bipush 10, 2) := by decide +kernel
theorem dX12_init_1212 : decode cX12_init 1212 = .ok (.newarray .int, 2) := by decide +kernel
theorem dX12_init_1214 : decode cX12_init 1214 = .ok (.putfield 108, 3) := by decide +kernel
theorem dX12_init_1217 : decode cX12_init 1217 = .ok (.aload_n 0, 1) := by decide +kernel
theorem dX12_init_1218 : decode cX12_init 1218 = .ok (.sipush 1024, 3) := by decide +kernel
theorem dX12_init_1221 : decode cX12_init 1221 = .ok (.newarray .int, 2) := by decide +kernel
theorem dX12_init_1223 : decode cX12_init 1223 = .ok (.putfield 111, 3) := by decide +kernel
theorem dX12_init_1226 : decode cX12_init 1226 = .ok (.aload_n 0, 1) := by decide +kernel
theorem dX12_init_1227 : decode cX12_init 1227 = .ok (.bipush 10, 2) := by decide +kernel
theorem dX12_init_1229 : decode cX12_init 1229 = .ok (.newarray .int, 2) := by decide +kernel
theorem dX12_init_1231 : decode cX12_init 1231 = .ok (.putfield 114, 3) := by decide +kernel
theorem dX12_init_1234 : decode cX12_init 1234 = .ok (.aload_n 0, 1) := by decide +kernel
theorem dX12_init_1235 : decode cX12_init 1235 = .ok (.bipush 10, 2) := by decide +kernel
theorem dX12_init_1237 : decode cX12_init 1237 = .ok (.newarray .int, 2) := by decide +kernel
theorem dX12_init_1239 : decode cX12_init 1239 = .ok (.putfield 117, 3) := by decide +kernel
theorem dX12_init_1242 : decode cX12_init 1242 = .ok (.aload_n 0, 1) := by decide +kernel
theorem dX12_init_1243 : decode cX12_init 1243 = .ok (.bipush 100, 2) := by decide +kernel
theorem dX12_init_1245 : decode cX12_init 1245 = .ok (.newarray .long, 2) := by decide +kernel
theorem dX12_init_1247 : decode cX12_init 1247 = .ok (.putfield 120, 3) := by decide +kernel
theorem dX12_init_1250 : decode cX12_init 1250 = .ok (.aload_n 0, 1) := by decide +kernel
theorem dX12_init_1251 : decode cX12_init 1251 = .ok (.bipush 100, 2) := by decide +kernel
theorem dX12_init_1253 : decode cX12_init 1253 = .ok (.newarray .long, 2) := by decide +kernel
theorem dX12_init_1255 : decode cX12_init 1255 = .ok (.putfield 124, 3) := by decide +kernel
theorem dX12_init_1258 : decode cX12_init 1258 = .ok (.aload_n 0, 1) := by decide +kernel
theorem dX12_init_1259 : decode cX12_init 1259 = .ok (.sipush 3600, 3) := by decide +kernel
theorem dX12_init_1262 : decode cX12_init 1262 = .ok (.newarray .int, 2) := by decide +kernel
theorem dX12_init_1264 : decode cX12_init 1264 = .ok (.putfield 127, 3) := by decide +kernel
theorem dX12_init_1267 : decode cX12_init 1267 = .ok (.return_, 1) := by decide +kernel
theorem dX12_isHouse_0 : decode cX12_isHouse 0 = .ok (.iload_n 1, 1) := by decide +kernel
theorem dX12_isHouse_1 : decode cX12_isHouse 1 = .ok (.ifCond .lt 15, 3) := by decide +kernel
theorem dX12_isHouse_4 : decode cX12_isHouse 4 = .ok (.iload_n 1, 1) := by decide +kernel
theorem dX12_isHouse_5 : decode cX12_isHouse 5 = .ok (.aload_n 0, 1) := by decide +kernel
theorem dX12_isHouse_6 : decode cX12_isHouse 6 = .ok (.getfield 148, 3) := by decide +kernel
theorem dX12_isHouse_9 : decode cX12_isHouse 9 = .ok (.if_icmp .ge 7, 3) := by decide +kernel
theorem dX12_isHouse_16 : decode cX12_isHouse 16 = .ok (.iconst 0, 1) := by decide +kernel
theorem dX12_isHouse_17 : decode cX12_isHouse 17 = .ok (.ireturn, 1) := by decide +kernel
theorem dX12_isIn_0 : decode cX12_isIn 0 = .ok (.iload_n 1, 1) := by decide +kernel
theorem dX12_isIn_1 : decode cX12_isIn 1 = .ok (.iload_n 2, 1) := by decide +kernel
theorem dX12_isIn_2 : decode cX12_isIn 2 = .ok (.if_icmp .lt 12, 3) := by decide +kernel
theorem dX12_isIn_5 : decode cX12_isIn 5 = .ok (.iload_n 1, 1) := by decide +kernel
theorem dX12_isIn_6 : decode cX12_isIn 6 = .ok (.iload_n 3, 1) := by decide +kernel
theorem dX12_isIn_7 : decode cX12_isIn 7 = .ok (.if_icmp .gt 7, 3) := by decide +kernel
theorem dX12_isIn_10 : decode cX12_isIn 10 = .ok (.iconst 1, 1) := by decide +kernel
theorem dX12_isIn_11 : decode cX12_isIn 11 = .ok (.goto 4, 3) := by decide +kernel
theorem dX12_isIn_14 : decode cX12_isIn 14 = .ok (.iconst 0, 1) := by decide +kernel
theorem dX12_isIn_15 : decode cX12_isIn 15 = .ok (.ireturn, 1) := by decide +kernel
theorem dX12_isLineWord_0 : decode cX12_isLineWord 0 = .ok (.aload_n 0, 1) := by decide +kernel
theorem dX12_isLineWord_1 : decode cX12_isLineWord 1 = .ok (.aload_n 0, 1) := by decide +kernel
theorem dX12_isLineWord_2 : decode cX12_isLineWord 2 = .ok (.getfield 216, 3) := by decide +kernel
theorem dX12_isLineWord_5 : decode cX12_isLineWord 5 = .ok (.ifCond .ne 7, 3) := by decide +kernel
theorem dX12_isLineWord_8 : decode cX12_isLineWord 8 = .ok (.iconst 0, 1) := by decide +kernel
theorem dX12_isLineWord_9 : decode cX12_isLineWord 9 = .ok (.goto 4, 3) := by decide +kernel
theorem dX12_isLineWord_12 : decode cX12_isLineWord 12 = .ok (.iconst 1, 1) := by decide +kernel
theorem dX12_isLineWord_13 : decode cX12_isLineWord 13 = .ok (.invokevirtual 251, 3) := by decide +kernel
theorem dX12_isLineWord_16 : decode cX12_isLineWord 16 = .ok (.ireturn, 1) := by decide +kernel
theorem dX12_isSign_0 : decode cX12_isSign 0 = .ok (.aload_n 0, 1) := by decide +kernel
theorem dX12_isSign_1 : decode cX12_isSign 1 = .ok (.getfield 188, 3) := by decide +kernel
theorem dX12_isSign_4 : decode cX12_isSign 4 = .ok (.iconst 4, 1) := by decide +kernel
theorem dX12_isSign_5 : decode cX12_isSign 5 = .ok (.if_icmp .ne 15, 3) := by decide +kernel
theorem dX12_isSign_20 : decode cX12_isSign 20 = .ok (.iconst 0, 1) := by decide +kernel
theorem dX12_isSign_21 : decode cX12_isSign 21 = .ok (.ireturn, 1) := by decide +kernel
theorem dX12_isStep_0 : decode cX12_isStep 0 = .ok (.aload_n 0, 1) := by decide +kernel
theorem dX12_isStep_1 : decode cX12_isStep 1 = .ok (.bipush 28, 2) := by decide +kernel
theorem dX12_isStep_3 : decode cX12_isStep 3 = .ok (.invokevirtual 251, 3) := by decide +kernel
theorem dX12_isStep_6 : decode cX12_isStep 6 = .ok (.ifCond .ne 12, 3) := by decide +kernel
theorem dX12_isStep_9 : decode cX12_isStep 9 = .ok (.aload_n 0, 1) := by decide +kernel
theorem dX12_isStep_10 : decode cX12_isStep 10 = .ok (.bipush 29, 2) := by decide +kernel
theorem dX12_isStep_12 : decode cX12_isStep 12 = .ok (.invokevirtual 251, 3) := by decide +kernel
theorem dX12_isStep_15 : decode cX12_isStep 15 = .ok (.ifCond .eq 7, 3) := by decide +kernel
theorem dX12_isStep_22 : decode cX12_isStep 22 = .ok (.iconst 0, 1) := by decide +kernel
theorem dX12_isStep_23 : decode cX12_isStep 23 = .ok (.ireturn, 1) := by decide +kernel
theorem dX12_isWord_0 : decode cX12_isWord 0 = .ok (.aload_n 0, 1) := by decide +kernel
theorem dX12_isWord_1 : decode cX12_isWord 1 = .ok (.getfield 188, 3) := by decide +kernel
theorem dX12_isWord_4 : decode cX12_isWord 4 = .ok (.iconst 2, 1) := by decide +kernel
theorem dX12_isWord_5 : decode cX12_isWord 5 = .ok (.if_icmp .ne 15, 3) := by decide +kernel
theorem dX12_isWord_20 : decode cX12_isWord 20 = .ok (.iconst 0, 1) := by decide +kernel
theorem dX12_isWord_21 : decode cX12_isWord 21 = .ok (.ireturn, 1) := by decide +kernel
theorem dX12_keepsLaw_0 : decode cX12_keepsLaw 0 = .ok (.aload_n 0, 1) := by decide +kernel
theorem dX12_keepsLaw_1 : decode cX12_keepsLaw 1 = .ok (.getfield 49, 3) := by decide +kernel
theorem dX12_keepsLaw_4 : decode cX12_keepsLaw 4 = .ok (.iload_n 1, 1) := by decide +kernel
theorem dX12_keepsLaw_5 : decode cX12_keepsLaw 5 = .ok (.aload_n 0, 1) := by decide +kernel
theorem dX12_keepsLaw_6 : decode cX12_keepsLaw 6 = .ok (.aload_n 0, 1) := by decide +kernel
theorem dX12_keepsLaw_7 : decode cX12_keepsLaw 7 = .ok (.getfield 49, 3) := by decide +kernel
theorem dX12_keepsLaw_10 : decode cX12_keepsLaw 10 = .ok (.iload_n 1, 1) := by decide +kernel
theorem dX12_keepsLaw_11 : decode cX12_keepsLaw 11 = .ok (.iaload, 1) := by decide +kernel
theorem dX12_keepsLaw_12 : decode cX12_keepsLaw 12 = .ok (.invokevirtual 546, 3) := by decide +kernel
theorem dX12_keepsLaw_15 : decode cX12_keepsLaw 15 = .ok (.iastore, 1) := by decide +kernel
theorem dX12_keepsLaw_16 : decode cX12_keepsLaw 16 = .ok (.bipush 16, 2) := by decide +kernel
theorem dX12_keepsLaw_18 : decode cX12_keepsLaw 18 = .ok (.iload_n 1, 1) := by decide +kernel
theorem dX12_keepsLaw_19 : decode cX12_keepsLaw 19 = .ok (.imul, 1) := by decide +kernel
theorem dX12_keepsLaw_20 : decode cX12_keepsLaw 20 = .ok (.istore_n 2, 1) := by decide +kernel
theorem dX12_keepsLaw_21 : decode cX12_keepsLaw 21 = .ok (.iload_n 2, 1) := by decide +kernel
theorem dX12_keepsLaw_22 : decode cX12_keepsLaw 22 = .ok (.bipush 16, 2) := by decide +kernel
theorem dX12_keepsLaw_24 : decode cX12_keepsLaw 24 = .ok (.iload_n 1, 1) := by decide +kernel
theorem dX12_keepsLaw_25 : decode cX12_keepsLaw 25 = .ok (.imul, 1) := by decide +kernel
theorem dX12_keepsLaw_26 : decode cX12_keepsLaw 26 = .ok (.bipush 16, 2) := by decide +kernel
theorem dX12_keepsLaw_28 : decode cX12_keepsLaw 28 = .ok (.iadd, 1) := by decide +kernel
theorem dX12_keepsLaw_29 : decode cX12_keepsLaw 29 = .ok (.if_icmp .ge 57, 3) := by decide +kernel
theorem dX12_keepsLaw_32 : decode cX12_keepsLaw 32 = .ok (.aload_n 0, 1) := by decide +kernel
theorem dX12_keepsLaw_33 : decode cX12_keepsLaw 33 = .ok (.getfield 52, 3) := by decide +kernel
theorem dX12_keepsLaw_36 : decode cX12_keepsLaw 36 = .ok (.iload_n 2, 1) := by decide +kernel
theorem dX12_keepsLaw_37 : decode cX12_keepsLaw 37 = .ok (.aload_n 0, 1) := by decide +kernel
theorem dX12_keepsLaw_38 : decode cX12_keepsLaw 38 = .ok (.aload_n 0, 1) := by decide +kernel
theorem dX12_keepsLaw_39 : decode cX12_keepsLaw 39 = .ok (.getfield 52, 3) := by decide +kernel
theorem dX12_keepsLaw_42 : decode cX12_keepsLaw 42 = .ok (.iload_n 2, 1) := by decide +kernel
theorem dX12_keepsLaw_43 : decode cX12_keepsLaw 43 = .ok (.iaload, 1) := by decide +kernel
theorem dX12_keepsLaw_44 : decode cX12_keepsLaw 44 = .ok (.invokevirtual 546, 3) := by decide +kernel
theorem dX12_keepsLaw_47 : decode cX12_keepsLaw 47 = .ok (.iastore, 1) := by decide +kernel
theorem dX12_keepsLaw_48 : decode cX12_keepsLaw 48 = .ok (.aload_n 0, 1) := by decide +kernel
theorem dX12_keepsLaw_49 : decode cX12_keepsLaw 49 = .ok (.getfield 55, 3) := by decide +kernel
theorem dX12_keepsLaw_52 : decode cX12_keepsLaw 52 = .ok (.iload_n 2, 1) := by decide +kernel
theorem dX12_keepsLaw_53 : decode cX12_keepsLaw 53 = .ok (.aload_n 0, 1) := by decide +kernel
theorem dX12_keepsLaw_54 : decode cX12_keepsLaw 54 = .ok (.aload_n 0, 1) := by decide +kernel
theorem dX12_keepsLaw_55 : decode cX12_keepsLaw 55 = .ok (.getfield 55, 3) := by decide +kernel
theorem dX12_keepsLaw_58 : decode cX12_keepsLaw 58 = .ok (.iload_n 2, 1) := by decide +kernel
theorem dX12_keepsLaw_59 : decode cX12_keepsLaw 59 = .ok (.iaload, 1) := by decide +kernel
theorem dX12_keepsLaw_60 : decode cX12_keepsLaw 60 = .ok (.invokevirtual 546, 3) := by decide +kernel
theorem dX12_keepsLaw_63 : decode cX12_keepsLaw 63 = .ok (.iastore, 1) := by decide +kernel
theorem dX12_keepsLaw_64 : decode cX12_keepsLaw 64 = .ok (.aload_n 0, 1) := by decide +kernel
theorem dX12_keepsLaw_65 : decode cX12_keepsLaw 65 = .ok (.getfield 58, 3) := by decide +kernel
theorem dX12_keepsLaw_68 : decode cX12_keepsLaw 68 = .ok (.iload_n 2, 1) := by decide +kernel
theorem dX12_keepsLaw_69 : decode cX12_keepsLaw 69 = .ok (.aload_n 0, 1) := by decide +kernel
theorem dX12_keepsLaw_70 : decode cX12_keepsLaw 70 = .ok (.aload_n 0, 1) := by decide +kernel
theorem dX12_keepsLaw_71 : decode cX12_keepsLaw 71 = .ok (.getfield 58, 3) := by decide +kernel
theorem dX12_keepsLaw_74 : decode cX12_keepsLaw 74 = .ok (.iload_n 2, 1) := by decide +kernel
theorem dX12_keepsLaw_75 : decode cX12_keepsLaw 75 = .ok (.iaload, 1) := by decide +kernel
theorem dX12_keepsLaw_76 : decode cX12_keepsLaw 76 = .ok (.invokevirtual 546, 3) := by decide +kernel
theorem dX12_keepsLaw_79 : decode cX12_keepsLaw 79 = .ok (.iastore, 1) := by decide +kernel
theorem dX12_keepsLaw_80 : decode cX12_keepsLaw 80 = .ok (.iinc 2 1, 3) := by decide +kernel
theorem dX12_keepsLaw_83 : decode cX12_keepsLaw 83 = .ok (.goto (-62), 3) := by decide +kernel
theorem dX12_keepsLaw_86 : decode cX12_keepsLaw 86 = .ok (.sipush 400, 3) := by decide +kernel
theorem dX12_keepsLaw_89 : decode cX12_keepsLaw 89 = .ok (.iload_n 1, 1) := by decide +kernel
theorem dX12_keepsLaw_90 : decode cX12_keepsLaw 90 = .ok (.imul, 1) := by decide +kernel
theorem dX12_keepsLaw_91 : decode cX12_keepsLaw 91 = .ok (.istore_n 2, 1) := by decide +kernel
theorem dX12_keepsLaw_92 : decode cX12_keepsLaw 92 = .ok (.iload_n 2, 1) := by decide +kernel
theorem dX12_keepsLaw_93 : decode cX12_keepsLaw 93 = .ok (.sipush 400, 3) := by decide +kernel
theorem dX12_keepsLaw_96 : decode cX12_keepsLaw 96 = .ok (.iload_n 1, 1) := by decide +kernel
theorem dX12_keepsLaw_97 : decode cX12_keepsLaw 97 = .ok (.imul, 1) := by decide +kernel
theorem dX12_keepsLaw_98 : decode cX12_keepsLaw 98 = .ok (.sipush 400, 3) := by decide +kernel
theorem dX12_keepsLaw_101 : decode cX12_keepsLaw 101 = .ok (.iadd, 1) := by decide +kernel
theorem dX12_keepsLaw_102 : decode cX12_keepsLaw 102 = .ok (.if_icmp .ge 41, 3) := by decide +kernel
theorem dX12_keepsLaw_105 : decode cX12_keepsLaw 105 = .ok (.aload_n 0, 1) := by decide +kernel
theorem dX12_keepsLaw_106 : decode cX12_keepsLaw 106 = .ok (.getfield 61, 3) := by decide +kernel
theorem dX12_keepsLaw_109 : decode cX12_keepsLaw 109 = .ok (.iload_n 2, 1) := by decide +kernel
theorem dX12_keepsLaw_110 : decode cX12_keepsLaw 110 = .ok (.aload_n 0, 1) := by decide +kernel
theorem dX12_keepsLaw_111 : decode cX12_keepsLaw 111 = .ok (.aload_n 0, 1) := by decide +kernel
theorem dX12_keepsLaw_112 : decode cX12_keepsLaw 112 = .ok (.getfield 61, 3) := by decide +kernel
theorem dX12_keepsLaw_115 : decode cX12_keepsLaw 115 = .ok (.iload_n 2, 1) := by decide +kernel
theorem dX12_keepsLaw_116 : decode cX12_keepsLaw 116 = .ok (.iaload, 1) := by decide +kernel
theorem dX12_keepsLaw_117 : decode cX12_keepsLaw 117 = .ok (.invokevirtual 546, 3) := by decide +kernel
theorem dX12_keepsLaw_120 : decode cX12_keepsLaw 120 = .ok (.iastore, 1) := by decide +kernel
theorem dX12_keepsLaw_121 : decode cX12_keepsLaw 121 = .ok (.aload_n 0, 1) := by decide +kernel
theorem dX12_keepsLaw_122 : decode cX12_keepsLaw 122 = .ok (.getfield 64, 3) := by decide +kernel
theorem dX12_keepsLaw_125 : decode cX12_keepsLaw 125 = .ok (.iload_n 2, 1) := by decide +kernel
theorem dX12_keepsLaw_126 : decode cX12_keepsLaw 126 = .ok (.aload_n 0, 1) := by decide +kernel
theorem dX12_keepsLaw_127 : decode cX12_keepsLaw 127 = .ok (.aload_n 0, 1) := by decide +kernel
theorem dX12_keepsLaw_128 : decode cX12_keepsLaw 128 = .ok (.getfield 64, 3) := by decide +kernel
theorem dX12_keepsLaw_131 : decode cX12_keepsLaw 131 = .ok (.iload_n 2, 1) := by decide +kernel
theorem dX12_keepsLaw_132 : decode cX12_keepsLaw 132 = .ok (.iaload, 1) := by decide +kernel
theorem dX12_keepsLaw_133 : decode cX12_keepsLaw 133 = .ok (.invokevirtual 546, 3) := by decide +kernel
theorem dX12_keepsLaw_136 : decode cX12_keepsLaw 136 = .ok (.iastore, 1) := by decide +kernel
theorem dX12_keepsLaw_137 : decode cX12_keepsLaw 137 = .ok (.iinc 2 1, 3) := by decide +kernel
theorem dX12_keepsLaw_140 : decode cX12_keepsLaw 140 = .ok (.goto (-48), 3) := by decide +kernel
theorem dX12_keepsLaw_143 : decode cX12_keepsLaw 143 = .ok (.return_, 1) := by decide +kernel
theorem dX12_keepsTexts_0 : decode cX12_keepsTexts 0 = .ok (.aload_n 0, 1) := by decide +kernel
theorem dX12_keepsTexts_1 : decode cX12_keepsTexts 1 = .ok (.aload_n 0, 1) := by decide +kernel
theorem dX12_keepsTexts_2 : decode cX12_keepsTexts 2 = .ok (.aload_n 0, 1) := by decide +kernel
theorem dX12_keepsTexts_3 : decode cX12_keepsTexts 3 = .ok (.getfield 321, 3) := by decide +kernel
theorem dX12_keepsTexts_6 : decode cX12_keepsTexts 6 = .ok (.invokevirtual 546, 3) := by decide +kernel
theorem dX12_keepsTexts_9 : decode cX12_keepsTexts 9 = .ok (.putfield 321, 3) := by decide +kernel
theorem dX12_keepsTexts_12 : decode cX12_keepsTexts 12 = .ok (.iconst 0, 1) := by decide +kernel
theorem dX12_keepsTexts_13 : decode cX12_keepsTexts 13 = .ok (.istore_n 1, 1) := by decide +kernel
theorem dX12_keepsTexts_14 : decode cX12_keepsTexts 14 = .ok (.iload_n 1, 1) := by decide +kernel
theorem dX12_keepsTexts_15 : decode cX12_keepsTexts 15 = .ok (.sipush 160, 3) := by decide +kernel
theorem dX12_keepsTexts_18 : decode cX12_keepsTexts 18 = .ok (.if_icmp .ge 25, 3) := by decide +kernel
theorem dX12_keepsTexts_21 : decode cX12_keepsTexts 21 = .ok (.aload_n 0, 1) := by decide +kernel
theorem dX12_keepsTexts_22 : decode cX12_keepsTexts 22 = .ok (.getfield 74, 3) := by decide +kernel
theorem dX12_keepsTexts_25 : decode cX12_keepsTexts 25 = .ok (.iload_n 1, 1) := by decide +kernel
theorem dX12_keepsTexts_26 : decode cX12_keepsTexts 26 = .ok (.aload_n 0, 1) := by decide +kernel
theorem dX12_keepsTexts_27 : decode cX12_keepsTexts 27 = .ok (.aload_n 0, 1) := by decide +kernel
theorem dX12_keepsTexts_28 : decode cX12_keepsTexts 28 = .ok (.getfield 74, 3) := by decide +kernel
theorem dX12_keepsTexts_31 : decode cX12_keepsTexts 31 = .ok (.iload_n 1, 1) := by decide +kernel
theorem dX12_keepsTexts_32 : decode cX12_keepsTexts 32 = .ok (.iaload, 1) := by decide +kernel
theorem dX12_keepsTexts_33 : decode cX12_keepsTexts 33 = .ok (.invokevirtual 546, 3) := by decide +kernel
theorem dX12_keepsTexts_36 : decode cX12_keepsTexts 36 = .ok (.iastore, 1) := by decide +kernel
theorem dX12_keepsTexts_37 : decode cX12_keepsTexts 37 = .ok (.iinc 1 1, 3) := by decide +kernel
theorem dX12_keepsTexts_40 : decode cX12_keepsTexts 40 = .ok (.goto (-26), 3) := by decide +kernel
theorem dX12_keepsTexts_43 : decode cX12_keepsTexts 43 = .ok (.aload_n 0, 1) := by decide +kernel
theorem dX12_keepsTexts_44 : decode cX12_keepsTexts 44 = .ok (.aload_n 0, 1) := by decide +kernel
theorem dX12_keepsTexts_45 : decode cX12_keepsTexts 45 = .ok (.aload_n 0, 1) := by decide +kernel
theorem dX12_keepsTexts_46 : decode cX12_keepsTexts 46 = .ok (.getfield 324, 3) := by decide +kernel
theorem dX12_keepsTexts_49 : decode cX12_keepsTexts 49 = .ok (.invokevirtual 546, 3) := by decide +kernel
theorem dX12_keepsTexts_52 : decode cX12_keepsTexts 52 = .ok (.putfield 324, 3) := by decide +kernel
theorem dX12_keepsTexts_55 : decode cX12_keepsTexts 55 = .ok (.iconst 0, 1) := by decide +kernel
theorem dX12_keepsTexts_56 : decode cX12_keepsTexts 56 = .ok (.istore_n 1, 1) := by decide +kernel
theorem dX12_keepsTexts_57 : decode cX12_keepsTexts 57 = .ok (.iload_n 1, 1) := by decide +kernel
theorem dX12_keepsTexts_58 : decode cX12_keepsTexts 58 = .ok (.bipush 50, 2) := by decide +kernel
theorem dX12_keepsTexts_60 : decode cX12_keepsTexts 60 = .ok (.if_icmp .ge 25, 3) := by decide +kernel
theorem dX12_keepsTexts_63 : decode cX12_keepsTexts 63 = .ok (.aload_n 0, 1) := by decide +kernel
theorem dX12_keepsTexts_64 : decode cX12_keepsTexts 64 = .ok (.getfield 77, 3) := by decide +kernel
theorem dX12_keepsTexts_67 : decode cX12_keepsTexts 67 = .ok (.iload_n 1, 1) := by decide +kernel
theorem dX12_keepsTexts_68 : decode cX12_keepsTexts 68 = .ok (.aload_n 0, 1) := by decide +kernel
theorem dX12_keepsTexts_69 : decode cX12_keepsTexts 69 = .ok (.aload_n 0, 1) := by decide +kernel
theorem dX12_keepsTexts_70 : decode cX12_keepsTexts 70 = .ok (.getfield 77, 3) := by decide +kernel
theorem dX12_keepsTexts_73 : decode cX12_keepsTexts 73 = .ok (.iload_n 1, 1) := by decide +kernel
theorem dX12_keepsTexts_74 : decode cX12_keepsTexts 74 = .ok (.iaload, 1) := by decide +kernel
theorem dX12_keepsTexts_75 : decode cX12_keepsTexts 75 = .ok (.invokevirtual 546, 3) := by decide +kernel
theorem dX12_keepsTexts_78 : decode cX12_keepsTexts 78 = .ok (.iastore, 1) := by decide +kernel
theorem dX12_keepsTexts_79 : decode cX12_keepsTexts 79 = .ok (.iinc 1 1, 3) := by decide +kernel
theorem dX12_keepsTexts_82 : decode cX12_keepsTexts 82 = .ok (.goto (-25), 3) := by decide +kernel
theorem dX12_keepsTexts_85 : decode cX12_keepsTexts 85 = .ok (.aload_n 0, 1) := by decide +kernel
theorem dX12_keepsTexts_86 : decode cX12_keepsTexts 86 = .ok (.aload_n 0, 1) := by decide +kernel
theorem dX12_keepsTexts_87 : decode cX12_keepsTexts 87 = .ok (.aload_n 0, 1) := by decide +kernel
theorem dX12_keepsTexts_88 : decode cX12_keepsTexts 88 = .ok (.getfield 327, 3) := by decide +kernel
theorem dX12_keepsTexts_91 : decode cX12_keepsTexts 91 = .ok (.invokevirtual 546, 3) := by decide +kernel
theorem dX12_keepsTexts_94 : decode cX12_keepsTexts 94 = .ok (.putfield 327, 3) := by decide +kernel
theorem dX12_keepsTexts_97 : decode cX12_keepsTexts 97 = .ok (.iconst 0, 1) := by decide +kernel
theorem dX12_keepsTexts_98 : decode cX12_keepsTexts 98 = .ok (.istore_n 1, 1) := by decide +kernel
theorem dX12_keepsTexts_99 : decode cX12_keepsTexts 99 = .ok (.iload_n 1, 1) := by decide +kernel
theorem dX12_keepsTexts_100 : decode cX12_keepsTexts 100 = .ok (.sipush 200, 3) := by decide +kernel
theorem dX12_keepsTexts_103 : decode cX12_keepsTexts 103 = .ok (.if_icmp .ge 25, 3) := by decide +kernel
theorem dX12_keepsTexts_106 : decode cX12_keepsTexts 106 = .ok (.aload_n 0, 1) := by decide +kernel
theorem dX12_keepsTexts_107 : decode cX12_keepsTexts 107 = .ok (.getfield 86, 3) := by decide +kernel
theorem dX12_keepsTexts_110 : decode cX12_keepsTexts 110 = .ok (.iload_n 1, 1) := by decide +kernel
theorem dX12_keepsTexts_111 : decode cX12_keepsTexts 111 = .ok (.aload_n 0, 1) := by decide +kernel
theorem dX12_keepsTexts_112 : decode cX12_keepsTexts 112 = .ok (.aload_n 0, 1) := by decide +kernel
theorem dX12_keepsTexts_113 : decode cX12_keepsTexts 113 = .ok (.getfield 86, 3) := by decide +kernel
theorem dX12_keepsTexts_116 : decode cX12_keepsTexts 116 = .ok (.iload_n 1, 1) := by decide +kernel
theorem dX12_keepsTexts_117 : decode cX12_keepsTexts 117 = .ok (.iaload, 1) := by decide +kernel
theorem dX12_keepsTexts_118 : decode cX12_keepsTexts 118 = .ok (.invokevirtual 546, 3) := by decide +kernel
theorem dX12_keepsTexts_121 : decode cX12_keepsTexts 121 = .ok (.iastore, 1) := by decide +kernel
theorem dX12_keepsTexts_122 : decode cX12_keepsTexts 122 = .ok (.iinc 1 1, 3) := by decide +kernel
theorem dX12_keepsTexts_125 : decode cX12_keepsTexts 125 = .ok (.goto (-26), 3) := by decide +kernel
theorem dX12_keepsTexts_128 : decode cX12_keepsTexts 128 = .ok (.return_, 1) := by decide +kernel
theorem dX12_keepsVillage_0 : decode cX12_keepsVillage 0 = .ok (.aload_n 0, 1) := by decide +kernel
theorem dX12_keepsVillage_1 : decode cX12_keepsVillage 1 = .ok (.aload_n 0, 1) := by decide +kernel
theorem dX12_keepsVillage_2 : decode cX12_keepsVillage 2 = .ok (.aload_n 0, 1) := by decide +kernel
theorem dX12_keepsVillage_3 : decode cX12_keepsVillage 3 = .ok (.getfield 148, 3) := by decide +kernel
theorem dX12_keepsVillage_6 : decode cX12_keepsVillage 6 = .ok (.invokevirtual 546, 3) := by decide +kernel
theorem dX12_keepsVillage_9 : decode cX12_keepsVillage 9 = .ok (.putfield 148, 3) := by decide +kernel
theorem dX12_keepsVillage_12 : decode cX12_keepsVillage 12 = .ok (.iconst 0, 1) := by decide +kernel
theorem dX12_keepsVillage_13 : decode cX12_keepsVillage 13 = .ok (.istore_n 1, 1) := by decide +kernel
theorem dX12_keepsVillage_14 : decode cX12_keepsVillage 14 = .ok (.iload_n 1, 1) := by decide +kernel
theorem dX12_keepsVillage_15 : decode cX12_keepsVillage 15 = .ok (.bipush 10, 2) := by decide +kernel
theorem dX12_keepsVillage_17 : decode cX12_keepsVillage 17 = .ok (.if_icmp .ge 89, 3) := by decide +kernel
theorem dX12_keepsVillage_20 : decode cX12_keepsVillage 20 = .ok (.aload_n 0, 1) := by decide +kernel
theorem dX12_keepsVillage_21 : decode cX12_keepsVillage 21 = .ok (.getfield 19, 3) := by decide +kernel
theorem dX12_keepsVillage_24 : decode cX12_keepsVillage 24 = .ok (.iload_n 1, 1) := by decide +kernel
theorem dX12_keepsVillage_25 : decode cX12_keepsVillage 25 = .ok (.aload_n 0, 1) := by decide +kernel
theorem dX12_keepsVillage_26 : decode cX12_keepsVillage 26 = .ok (.aload_n 0, 1) := by decide +kernel
theorem dX12_keepsVillage_27 : decode cX12_keepsVillage 27 = .ok (.getfield 19, 3) := by decide +kernel
theorem dX12_keepsVillage_30 : decode cX12_keepsVillage 30 = .ok (.iload_n 1, 1) := by decide +kernel
theorem dX12_keepsVillage_31 : decode cX12_keepsVillage 31 = .ok (.iaload, 1) := by decide +kernel
theorem dX12_keepsVillage_32 : decode cX12_keepsVillage 32 = .ok (.invokevirtual 546, 3) := by decide +kernel
theorem dX12_keepsVillage_35 : decode cX12_keepsVillage 35 = .ok (.iastore, 1) := by decide +kernel
theorem dX12_keepsVillage_36 : decode cX12_keepsVillage 36 = .ok (.aload_n 0, 1) := by decide +kernel
theorem dX12_keepsVillage_37 : decode cX12_keepsVillage 37 = .ok (.getfield 22, 3) := by decide +kernel
theorem dX12_keepsVillage_40 : decode cX12_keepsVillage 40 = .ok (.iload_n 1, 1) := by decide +kernel
theorem dX12_keepsVillage_41 : decode cX12_keepsVillage 41 = .ok (.aload_n 0, 1) := by decide +kernel
theorem dX12_keepsVillage_42 : decode cX12_keepsVillage 42 = .ok (.aload_n 0, 1) := by decide +kernel
theorem dX12_keepsVillage_43 : decode cX12_keepsVillage 43 = .ok (.getfield 22, 3) := by decide +kernel
theorem dX12_keepsVillage_46 : decode cX12_keepsVillage 46 = .ok (.iload_n 1, 1) := by decide +kernel
theorem dX12_keepsVillage_47 : decode cX12_keepsVillage 47 = .ok (.iaload, 1) := by decide +kernel
theorem dX12_keepsVillage_48 : decode cX12_keepsVillage 48 = .ok (.invokevirtual 546, 3) := by decide +kernel
theorem dX12_keepsVillage_51 : decode cX12_keepsVillage 51 = .ok (.iastore, 1) := by decide +kernel
theorem dX12_keepsVillage_52 : decode cX12_keepsVillage 52 = .ok (.aload_n 0, 1) := by decide +kernel
theorem dX12_keepsVillage_53 : decode cX12_keepsVillage 53 = .ok (.getfield 25, 3) := by decide +kernel
theorem dX12_keepsVillage_56 : decode cX12_keepsVillage 56 = .ok (.iload_n 1, 1) := by decide +kernel
theorem dX12_keepsVillage_57 : decode cX12_keepsVillage 57 = .ok (.aload_n 0, 1) := by decide +kernel
theorem dX12_keepsVillage_58 : decode cX12_keepsVillage 58 = .ok (.aload_n 0, 1) := by decide +kernel
theorem dX12_keepsVillage_59 : decode cX12_keepsVillage 59 = .ok (.getfield 25, 3) := by decide +kernel
theorem dX12_keepsVillage_62 : decode cX12_keepsVillage 62 = .ok (.iload_n 1, 1) := by decide +kernel
theorem dX12_keepsVillage_63 : decode cX12_keepsVillage 63 = .ok (.iaload, 1) := by decide +kernel
theorem dX12_keepsVillage_64 : decode cX12_keepsVillage 64 = .ok (.invokevirtual 546, 3) := by decide +kernel
theorem dX12_keepsVillage_67 : decode cX12_keepsVillage 67 = .ok (.iastore, 1) := by decide +kernel
theorem dX12_keepsVillage_68 : decode cX12_keepsVillage 68 = .ok (.aload_n 0, 1) := by decide +kernel
theorem dX12_keepsVillage_69 : decode cX12_keepsVillage 69 = .ok (.getfield 28, 3) := by decide +kernel
theorem dX12_keepsVillage_72 : decode cX12_keepsVillage 72 = .ok (.iload_n 1, 1) := by decide +kernel
theorem dX12_keepsVillage_73 : decode cX12_keepsVillage 73 = .ok (.aload_n 0, 1) := by decide +kernel
theorem dX12_keepsVillage_74 : decode cX12_keepsVillage 74 = .ok (.aload_n 0, 1) := by decide +kernel
theorem dX12_keepsVillage_75 : decode cX12_keepsVillage 75 = .ok (.getfield 28, 3) := by decide +kernel
theorem dX12_keepsVillage_78 : decode cX12_keepsVillage 78 = .ok (.iload_n 1, 1) := by decide +kernel
theorem dX12_keepsVillage_79 : decode cX12_keepsVillage 79 = .ok (.iaload, 1) := by decide +kernel
theorem dX12_keepsVillage_80 : decode cX12_keepsVillage 80 = .ok (.invokevirtual 546, 3) := by decide +kernel
theorem dX12_keepsVillage_83 : decode cX12_keepsVillage 83 = .ok (.iastore, 1) := by decide +kernel
theorem dX12_keepsVillage_84 : decode cX12_keepsVillage 84 = .ok (.aload_n 0, 1) := by decide +kernel
theorem dX12_keepsVillage_85 : decode cX12_keepsVillage 85 = .ok (.getfield 31, 3) := by decide +kernel
theorem dX12_keepsVillage_88 : decode cX12_keepsVillage 88 = .ok (.iload_n 1, 1) := by decide +kernel
theorem dX12_keepsVillage_89 : decode cX12_keepsVillage 89 = .ok (.aload_n 0, 1) := by decide +kernel
theorem dX12_keepsVillage_90 : decode cX12_keepsVillage 90 = .ok (.aload_n 0, 1) := by decide +kernel
theorem dX12_keepsVillage_91 : decode cX12_keepsVillage 91 = .ok (.getfield 31, 3) := by decide +kernel
theorem dX12_keepsVillage_94 : decode cX12_keepsVillage 94 = .ok (.iload_n 1, 1) := by decide +kernel
theorem dX12_keepsVillage_95 : decode cX12_keepsVillage 95 = .ok (.iaload, 1) := by decide +kernel
theorem dX12_keepsVillage_96 : decode cX12_keepsVillage 96 = .ok (.invokevirtual 546, 3) := by decide +kernel
theorem dX12_keepsVillage_99 : decode cX12_keepsVillage 99 = .ok (.iastore, 1) := by decide +kernel
theorem dX12_keepsVillage_100 : decode cX12_keepsVillage 100 = .ok (.iinc 1 1, 3) := by decide +kernel
theorem dX12_keepsVillage_103 : decode cX12_keepsVillage 103 = .ok (.goto (-89), 3) := by decide +kernel
theorem dX12_keepsVillage_106 : decode cX12_keepsVillage 106 = .ok (.aload_n 0, 1) := by decide +kernel
theorem dX12_keepsVillage_107 : decode cX12_keepsVillage 107 = .ok (.aload_n 0, 1) := by decide +kernel
theorem dX12_keepsVillage_108 : decode cX12_keepsVillage 108 = .ok (.aload_n 0, 1) := by decide +kernel
theorem dX12_keepsVillage_109 : decode cX12_keepsVillage 109 = .ok (.getfield 166, 3) := by decide +kernel
theorem dX12_keepsVillage_112 : decode cX12_keepsVillage 112 = .ok (.invokevirtual 546, 3) := by decide +kernel
theorem dX12_keepsVillage_115 : decode cX12_keepsVillage 115 = .ok (.putfield 166, 3) := by decide +kernel
theorem dX12_keepsVillage_118 : decode cX12_keepsVillage 118 = .ok (.aload_n 0, 1) := by decide +kernel
theorem dX12_keepsVillage_119 : decode cX12_keepsVillage 119 = .ok (.aload_n 0, 1) := by decide +kernel
theorem dX12_keepsVillage_120 : decode cX12_keepsVillage 120 = .ok (.aload_n 0, 1) := by decide +kernel
theorem dX12_keepsVillage_121 : decode cX12_keepsVillage 121 = .ok (.getfield 169, 3) := by decide +kernel
theorem dX12_keepsVillage_124 : decode cX12_keepsVillage 124 = .ok (.invokevirtual 546, 3) := by decide +kernel
theorem dX12_keepsVillage_127 : decode cX12_keepsVillage 127 = .ok (.putfield 169, 3) := by decide +kernel
theorem dX12_keepsVillage_130 : decode cX12_keepsVillage 130 = .ok (.aload_n 0, 1) := by decide +kernel
theorem dX12_keepsVillage_131 : decode cX12_keepsVillage 131 = .ok (.aload_n 0, 1) := by decide +kernel
theorem dX12_keepsVillage_132 : decode cX12_keepsVillage 132 = .ok (.aload_n 0, 1) := by decide +kernel
theorem dX12_keepsVillage_133 : decode cX12_keepsVillage 133 = .ok (.getfield 142, 3) := by decide +kernel
theorem dX12_keepsVillage_136 : decode cX12_keepsVillage 136 = .ok (.invokevirtual 546, 3) := by decide +kernel
theorem dX12_keepsVillage_139 : decode cX12_keepsVillage 139 = .ok (.putfield 142, 3) := by decide +kernel
theorem dX12_keepsVillage_142 : decode cX12_keepsVillage 142 = .ok (.aload_n 0, 1) := by decide +kernel
theorem dX12_keepsVillage_143 : decode cX12_keepsVillage 143 = .ok (.aload_n 0, 1) := by decide +kernel
theorem dX12_keepsVillage_144 : decode cX12_keepsVillage 144 = .ok (.aload_n 0, 1) := by decide +kernel
theorem dX12_keepsVillage_145 : decode cX12_keepsVillage 145 = .ok (.getfield 145, 3) := by decide +kernel
theorem dX12_keepsVillage_148 : decode cX12_keepsVillage 148 = .ok (.invokevirtual 546, 3) := by decide +kernel
theorem dX12_keepsVillage_151 : decode cX12_keepsVillage 151 = .ok (.putfield 145, 3) := by decide +kernel
theorem dX12_keepsVillage_154 : decode cX12_keepsVillage 154 = .ok (.aload_n 0, 1) := by decide +kernel
theorem dX12_keepsVillage_155 : decode cX12_keepsVillage 155 = .ok (.aload_n 0, 1) := by decide +kernel
theorem dX12_keepsVillage_156 : decode cX12_keepsVillage 156 = .ok (.aload_n 0, 1) := by decide +kernel
theorem dX12_keepsVillage_157 : decode cX12_keepsVillage 157 = .ok (.getfield 517, 3) := by decide +kernel
theorem dX12_keepsVillage_160 : decode cX12_keepsVillage 160 = .ok (.invokevirtual 546, 3) := by decide +kernel
theorem dX12_keepsVillage_163 : decode cX12_keepsVillage 163 = .ok (.putfield 517, 3) := by decide +kernel
theorem dX12_keepsVillage_166 : decode cX12_keepsVillage 166 = .ok (.iconst 0, 1) := by decide +kernel
theorem dX12_keepsVillage_167 : decode cX12_keepsVillage 167 = .ok (.istore_n 1, 1) := by decide +kernel
theorem dX12_keepsVillage_168 : decode cX12_keepsVillage 168 = .ok (.iload_n 1, 1) := by decide +kernel
theorem dX12_keepsVillage_169 : decode cX12_keepsVillage 169 = .ok (.bipush 8, 2) := by decide +kernel
theorem dX12_keepsVillage_171 : decode cX12_keepsVillage 171 = .ok (.if_icmp .ge 41, 3) := by decide +kernel
theorem dX12_keepsVillage_174 : decode cX12_keepsVillage 174 = .ok (.aload_n 0, 1) := by decide +kernel
theorem dX12_keepsVillage_175 : decode cX12_keepsVillage 175 = .ok (.getfield 37, 3) := by decide +kernel
theorem dX12_keepsVillage_178 : decode cX12_keepsVillage 178 = .ok (.iload_n 1, 1) := by decide +kernel
theorem dX12_keepsVillage_179 : decode cX12_keepsVillage 179 = .ok (.aload_n 0, 1) := by decide +kernel
theorem dX12_keepsVillage_180 : decode cX12_keepsVillage 180 = .ok (.aload_n 0, 1) := by decide +kernel
theorem dX12_keepsVillage_181 : decode cX12_keepsVillage 181 = .ok (.getfield 37, 3) := by decide +kernel
theorem dX12_keepsVillage_184 : decode cX12_keepsVillage 184 = .ok (.iload_n 1, 1) := by decide +kernel
theorem dX12_keepsVillage_185 : decode cX12_keepsVillage 185 = .ok (.iaload, 1) := by decide +kernel
theorem dX12_keepsVillage_186 : decode cX12_keepsVillage 186 = .ok (.invokevirtual 546, 3) := by decide +kernel
theorem dX12_keepsVillage_189 : decode cX12_keepsVillage 189 = .ok (.iastore, 1) := by decide +kernel
theorem dX12_keepsVillage_190 : decode cX12_keepsVillage 190 = .ok (.aload_n 0, 1) := by decide +kernel
theorem dX12_keepsVillage_191 : decode cX12_keepsVillage 191 = .ok (.getfield 40, 3) := by decide +kernel
theorem dX12_keepsVillage_194 : decode cX12_keepsVillage 194 = .ok (.iload_n 1, 1) := by decide +kernel
theorem dX12_keepsVillage_195 : decode cX12_keepsVillage 195 = .ok (.aload_n 0, 1) := by decide +kernel
theorem dX12_keepsVillage_196 : decode cX12_keepsVillage 196 = .ok (.aload_n 0, 1) := by decide +kernel
theorem dX12_keepsVillage_197 : decode cX12_keepsVillage 197 = .ok (.getfield 40, 3) := by decide +kernel
theorem dX12_keepsVillage_200 : decode cX12_keepsVillage 200 = .ok (.iload_n 1, 1) := by decide +kernel
theorem dX12_keepsVillage_201 : decode cX12_keepsVillage 201 = .ok (.iaload, 1) := by decide +kernel
theorem dX12_keepsVillage_202 : decode cX12_keepsVillage 202 = .ok (.invokevirtual 546, 3) := by decide +kernel
theorem dX12_keepsVillage_205 : decode cX12_keepsVillage 205 = .ok (.iastore, 1) := by decide +kernel
theorem dX12_keepsVillage_206 : decode cX12_keepsVillage 206 = .ok (.iinc 1 1, 3) := by decide +kernel
theorem dX12_keepsVillage_209 : decode cX12_keepsVillage 209 = .ok (.goto (-41), 3) := by decide +kernel
theorem dX12_keepsVillage_212 : decode cX12_keepsVillage 212 = .ok (.return_, 1) := by decide +kernel
theorem dX12_kept_0 : decode cX12_kept 0 = .ok (.aload_n 0, 1) := by decide +kernel
theorem dX12_kept_1 : decode cX12_kept 1 = .ok (.aload_n 0, 1) := by decide +kernel
theorem dX12_kept_2 : decode cX12_kept 2 = .ok (.getfield 540, 3) := by decide +kernel
theorem dX12_kept_5 : decode cX12_kept 5 = .ok (.iconst 1, 1) := by decide +kernel
theorem dX12_kept_6 : decode cX12_kept 6 = .ok (.iadd, 1) := by decide +kernel
theorem dX12_kept_7 : decode cX12_kept 7 = .ok (.putfield 540, 3) := by decide +kernel
theorem dX12_kept_10 : decode cX12_kept 10 = .ok (.aload_n 0, 1) := by decide +kernel
theorem dX12_kept_11 : decode cX12_kept 11 = .ok (.getfield 543, 3) := by decide +kernel
theorem dX12_kept_14 : decode cX12_kept 14 = .ok (.ifCond .ne 15, 3) := by decide +kernel
theorem dX12_kept_29 : decode cX12_kept 29 = .ok (.aload_n 0, 1) := by decide +kernel
theorem dX12_kept_30 : decode cX12_kept 30 = .ok (.getfield 127, 3) := by decide +kernel
theorem dX12_kept_33 : decode cX12_kept 33 = .ok (.aload_n 0, 1) := by decide +kernel
theorem dX12_kept_34 : decode cX12_kept 34 = .ok (.getfield 540, 3) := by decide +kernel
theorem dX12_kept_37 : decode cX12_kept 37 = .ok (.iconst 1, 1) := by decide +kernel
theorem dX12_kept_38 : decode cX12_kept 38 = .ok (.isub, 1) := by decide +kernel
theorem dX12_kept_39 : decode cX12_kept 39 = .ok (.iload_n 1, 1) := by decide +kernel
theorem dX12_kept_40 : decode cX12_kept 40 = .ok (.iastore, 1) := by decide +kernel
theorem dX12_kept_41 : decode cX12_kept 41 = .ok (.iload_n 1, 1) := by decide +kernel
theorem dX12_kept_42 : decode cX12_kept 42 = .ok (.ireturn, 1) := by decide +kernel
theorem dX12_laysRound_0 : decode cX12_laysRound 0 = .ok (.iconst 0, 1) := by decide +kernel
theorem dX12_laysRound_1 : decode cX12_laysRound 1 = .ok (.istore_n 1, 1) := by decide +kernel
theorem dX12_laysRound_2 : decode cX12_laysRound 2 = .ok (.iconst 0, 1) := by decide +kernel
theorem dX12_laysRound_3 : decode cX12_laysRound 3 = .ok (.istore_n 2, 1) := by decide +kernel
theorem dX12_laysRound_4 : decode cX12_laysRound 4 = .ok (.iconst 0, 1) := by decide +kernel
theorem dX12_laysRound_5 : decode cX12_laysRound 5 = .ok (.istore_n 3, 1) := by decide +kernel
theorem dX12_laysRound_6 : decode cX12_laysRound 6 = .ok (.iload_n 3, 1) := by decide +kernel
theorem dX12_laysRound_7 : decode cX12_laysRound 7 = .ok (.aload_n 0, 1) := by decide +kernel
theorem dX12_laysRound_8 : decode cX12_laysRound 8 = .ok (.getfield 285, 3) := by decide +kernel
theorem dX12_laysRound_11 : decode cX12_laysRound 11 = .ok (.if_icmp .ge 193, 3) := by decide +kernel
theorem dX12_laysRound_204 : decode cX12_laysRound 204 = .ok (.iload_n 1, 1) := by decide +kernel
theorem dX12_laysRound_205 : decode cX12_laysRound 205 = .ok (.ireturn, 1) := by decide +kernel
theorem dX12_liars_0 : decode cX12_liars 0 = .ok (.aload_n 0, 1) := by decide +kernel
theorem dX12_liars_1 : decode cX12_liars 1 = .ok (.iconst 0, 1) := by decide +kernel
theorem dX12_liars_2 : decode cX12_liars 2 = .ok (.putfield 130, 3) := by decide +kernel
theorem dX12_liars_5 : decode cX12_liars 5 = .ok (.iconst 0, 1) := by decide +kernel
theorem dX12_liars_6 : decode cX12_liars 6 = .ok (.istore_n 1, 1) := by decide +kernel
theorem dX12_liars_7 : decode cX12_liars 7 = .ok (.iconst 0, 1) := by decide +kernel
theorem dX12_liars_8 : decode cX12_liars 8 = .ok (.istore_n 2, 1) := by decide +kernel
theorem dX12_liars_9 : decode cX12_liars 9 = .ok (.iload_n 2, 1) := by decide +kernel
theorem dX12_liars_10 : decode cX12_liars 10 = .ok (.aload_n 0, 1) := by decide +kernel
theorem dX12_liars_11 : decode cX12_liars 11 = .ok (.getfield 148, 3) := by decide +kernel
theorem dX12_liars_14 : decode cX12_liars 14 = .ok (.if_icmp .ge 33, 3) := by decide +kernel
theorem dX12_liars_47 : decode cX12_liars 47 = .ok (.iload_n 1, 1) := by decide +kernel
theorem dX12_liars_48 : decode cX12_liars 48 = .ok (.ireturn, 1) := by decide +kernel
theorem dX12_look_0 : decode cX12_look 0 = .ok (.aload_n 0, 1) := by decide +kernel
theorem dX12_look_1 : decode cX12_look 1 = .ok (.iconst 0, 1) := by decide +kernel
theorem dX12_look_2 : decode cX12_look 2 = .ok (.putfield 130, 3) := by decide +kernel
theorem dX12_look_5 : decode cX12_look 5 = .ok (.iload_n 1, 1) := by decide +kernel
theorem dX12_look_6 : decode cX12_look 6 = .ok (.ifCond .ne 8, 3) := by decide +kernel
theorem dX12_look_9 : decode cX12_look 9 = .ok (.aload_n 0, 1) := by decide +kernel
theorem dX12_look_10 : decode cX12_look 10 = .ok (.getfield 148, 3) := by decide +kernel
theorem dX12_look_13 : decode cX12_look 13 = .ok (.ireturn, 1) := by decide +kernel
theorem dX12_look_14 : decode cX12_look 14 = .ok (.iload_n 1, 1) := by decide +kernel
theorem dX12_look_15 : decode cX12_look 15 = .ok (.iconst 1, 1) := by decide +kernel
theorem dX12_look_16 : decode cX12_look 16 = .ok (.if_icmp .ne 21, 3) := by decide +kernel
theorem dX12_look_19 : decode cX12_look 19 = .ok (.aload_n 0, 1) := by decide +kernel
theorem dX12_look_20 : decode cX12_look 20 = .ok (.getfield 148, 3) := by decide +kernel
theorem dX12_look_23 : decode cX12_look 23 = .ok (.ifCond .ne 7, 3) := by decide +kernel
theorem dX12_look_26 : decode cX12_look 26 = .ok (.iconst (-1), 1) := by decide +kernel
theorem dX12_look_27 : decode cX12_look 27 = .ok (.goto 9, 3) := by decide +kernel
theorem dX12_look_36 : decode cX12_look 36 = .ok (.ireturn, 1) := by decide +kernel
theorem dX12_look_37 : decode cX12_look 37 = .ok (.iload_n 1, 1) := by decide +kernel
theorem dX12_look_38 : decode cX12_look 38 = .ok (.iconst 2, 1) := by decide +kernel
theorem dX12_look_39 : decode cX12_look 39 = .ok (.if_icmp .ne 10, 3) := by decide +kernel
theorem dX12_look_42 : decode cX12_look 42 = .ok (.aload_n 0, 1) := by decide +kernel
theorem dX12_look_43 : decode cX12_look 43 = .ok (.getfield 7, 3) := by decide +kernel
theorem dX12_look_46 : decode cX12_look 46 = .ok (.iconst 0, 1) := by decide +kernel
theorem dX12_look_47 : decode cX12_look 47 = .ok (.iaload, 1) := by decide +kernel
theorem dX12_look_48 : decode cX12_look 48 = .ok (.ireturn, 1) := by decide +kernel
theorem dX12_look_49 : decode cX12_look 49 = .ok (.iload_n 1, 1) := by decide +kernel
theorem dX12_look_50 : decode cX12_look 50 = .ok (.iconst 3, 1) := by decide +kernel
theorem dX12_look_51 : decode cX12_look 51 = .ok (.if_icmp .ne 10, 3) := by decide +kernel
theorem dX12_look_54 : decode cX12_look 54 = .ok (.aload_n 0, 1) := by decide +kernel
theorem dX12_look_55 : decode cX12_look 55 = .ok (.getfield 7, 3) := by decide +kernel
theorem dX12_look_58 : decode cX12_look 58 = .ok (.iconst 2, 1) := by decide +kernel
theorem dX12_look_59 : decode cX12_look 59 = .ok (.iaload, 1) := by decide +kernel
theorem dX12_look_60 : decode cX12_look 60 = .ok (.ireturn, 1) := by decide +kernel
theorem dX12_look_61 : decode cX12_look 61 = .ok (.iload_n 1, 1) := by decide +kernel
theorem dX12_look_62 : decode cX12_look 62 = .ok (.iconst 4, 1) := by decide +kernel
theorem dX12_look_63 : decode cX12_look 63 = .ok (.if_icmp .ne 10, 3) := by decide +kernel
theorem dX12_look_66 : decode cX12_look 66 = .ok (.aload_n 0, 1) := by decide +kernel
theorem dX12_look_67 : decode cX12_look 67 = .ok (.getfield 7, 3) := by decide +kernel
theorem dX12_look_70 : decode cX12_look 70 = .ok (.iconst 1, 1) := by decide +kernel
theorem dX12_look_71 : decode cX12_look 71 = .ok (.iaload, 1) := by decide +kernel
theorem dX12_look_72 : decode cX12_look 72 = .ok (.ireturn, 1) := by decide +kernel
theorem dX12_look_73 : decode cX12_look 73 = .ok (.iload_n 1, 1) := by decide +kernel
theorem dX12_look_74 : decode cX12_look 74 = .ok (.iconst 5, 1) := by decide +kernel
theorem dX12_look_75 : decode cX12_look 75 = .ok (.if_icmp .ne 8, 3) := by decide +kernel
theorem dX12_look_78 : decode cX12_look 78 = .ok (.aload_n 0, 1) := by decide +kernel
theorem dX12_look_79 : decode cX12_look 79 = .ok (.getfield 324, 3) := by decide +kernel
theorem dX12_look_82 : decode cX12_look 82 = .ok (.ireturn, 1) := by decide +kernel
theorem dX12_look_83 : decode cX12_look 83 = .ok (.iload_n 1, 1) := by decide +kernel
theorem dX12_look_84 : decode cX12_look 84 = .ok (.bipush 6, 2) := by decide +kernel
theorem dX12_look_86 : decode cX12_look 86 = .ok (.if_icmp .ne 8, 3) := by decide +kernel
theorem dX12_look_89 : decode cX12_look 89 = .ok (.aload_n 0, 1) := by decide +kernel
theorem dX12_look_90 : decode cX12_look 90 = .ok (.getfield 321, 3) := by decide +kernel
theorem dX12_look_93 : decode cX12_look 93 = .ok (.ireturn, 1) := by decide +kernel
theorem dX12_look_94 : decode cX12_look 94 = .ok (.iload_n 1, 1) := by decide +kernel
theorem dX12_look_95 : decode cX12_look 95 = .ok (.bipush 7, 2) := by decide +kernel
theorem dX12_look_97 : decode cX12_look 97 = .ok (.if_icmp .ne 15, 3) := by decide +kernel
theorem dX12_look_100 : decode cX12_look 100 = .ok (.aload_n 0, 1) := by decide +kernel
theorem dX12_look_101 : decode cX12_look 101 = .ok (.getfield 327, 3) := by decide +kernel
theorem dX12_look_104 : decode cX12_look 104 = .ok (.aload_n 0, 1) := by decide +kernel
theorem dX12_look_105 : decode cX12_look 105 = .ok (.getfield 7, 3) := by decide +kernel
theorem dX12_look_108 : decode cX12_look 108 = .ok (.iconst 5, 1) := by decide +kernel
theorem dX12_look_109 : decode cX12_look 109 = .ok (.iaload, 1) := by decide +kernel
theorem dX12_look_110 : decode cX12_look 110 = .ok (.isub, 1) := by decide +kernel
theorem dX12_look_111 : decode cX12_look 111 = .ok (.ireturn, 1) := by decide +kernel
theorem dX12_look_112 : decode cX12_look 112 = .ok (.iload_n 1, 1) := by decide +kernel
theorem dX12_look_113 : decode cX12_look 113 = .ok (.bipush 8, 2) := by decide +kernel
theorem dX12_look_115 : decode cX12_look 115 = .ok (.if_icmp .ne 10, 3) := by decide +kernel
theorem dX12_look_118 : decode cX12_look 118 = .ok (.aload_n 0, 1) := by decide +kernel
theorem dX12_look_119 : decode cX12_look 119 = .ok (.getfield 49, 3) := by decide +kernel
theorem dX12_look_122 : decode cX12_look 122 = .ok (.iconst 0, 1) := by decide +kernel
theorem dX12_look_123 : decode cX12_look 123 = .ok (.iaload, 1) := by decide +kernel
theorem dX12_look_124 : decode cX12_look 124 = .ok (.ireturn, 1) := by decide +kernel
theorem dX12_look_125 : decode cX12_look 125 = .ok (.iload_n 1, 1) := by decide +kernel
theorem dX12_look_126 : decode cX12_look 126 = .ok (.bipush 9, 2) := by decide +kernel
theorem dX12_look_128 : decode cX12_look 128 = .ok (.if_icmp .ne 10, 3) := by decide +kernel
theorem dX12_look_131 : decode cX12_look 131 = .ok (.aload_n 0, 1) := by decide +kernel
theorem dX12_look_132 : decode cX12_look 132 = .ok (.getfield 49, 3) := by decide +kernel
theorem dX12_look_135 : decode cX12_look 135 = .ok (.iconst 1, 1) := by decide +kernel
theorem dX12_look_136 : decode cX12_look 136 = .ok (.iaload, 1) := by decide +kernel
theorem dX12_look_137 : decode cX12_look 137 = .ok (.ireturn, 1) := by decide +kernel
theorem dX12_look_138 : decode cX12_look 138 = .ok (.iload_n 1, 1) := by decide +kernel
theorem dX12_look_139 : decode cX12_look 139 = .ok (.bipush 10, 2) := by decide +kernel
theorem dX12_look_141 : decode cX12_look 141 = .ok (.if_icmp .ne 8, 3) := by decide +kernel
theorem dX12_look_144 : decode cX12_look 144 = .ok (.aload_n 0, 1) := by decide +kernel
theorem dX12_look_145 : decode cX12_look 145 = .ok (.getfield 517, 3) := by decide +kernel
theorem dX12_look_148 : decode cX12_look 148 = .ok (.ireturn, 1) := by decide +kernel
theorem dX12_look_149 : decode cX12_look 149 = .ok (.iload_n 1, 1) := by decide +kernel
theorem dX12_look_150 : decode cX12_look 150 = .ok (.bipush 11, 2) := by decide +kernel
theorem dX12_look_152 : decode cX12_look 152 = .ok (.if_icmp .ne 8, 3) := by decide +kernel
theorem dX12_look_155 : decode cX12_look 155 = .ok (.aload_n 0, 1) := by decide +kernel
theorem dX12_look_156 : decode cX12_look 156 = .ok (.getfield 133, 3) := by decide +kernel
theorem dX12_look_159 : decode cX12_look 159 = .ok (.ireturn, 1) := by decide +kernel
theorem dX12_look_160 : decode cX12_look 160 = .ok (.iload_n 1, 1) := by decide +kernel
theorem dX12_look_161 : decode cX12_look 161 = .ok (.bipush 20, 2) := by decide +kernel
theorem dX12_look_163 : decode cX12_look 163 = .ok (.if_icmp .ne 10, 3) := by decide +kernel
theorem dX12_look_166 : decode cX12_look 166 = .ok (.aload_n 0, 1) := by decide +kernel
theorem dX12_look_167 : decode cX12_look 167 = .ok (.getfield 7, 3) := by decide +kernel
theorem dX12_look_170 : decode cX12_look 170 = .ok (.iconst 4, 1) := by decide +kernel
theorem dX12_look_171 : decode cX12_look 171 = .ok (.iaload, 1) := by decide +kernel
theorem dX12_look_172 : decode cX12_look 172 = .ok (.ireturn, 1) := by decide +kernel
theorem dX12_look_173 : decode cX12_look 173 = .ok (.iload_n 1, 1) := by decide +kernel
theorem dX12_look_174 : decode cX12_look 174 = .ok (.bipush 21, 2) := by decide +kernel
theorem dX12_look_176 : decode cX12_look 176 = .ok (.if_icmp .ne 8, 3) := by decide +kernel
theorem dX12_look_179 : decode cX12_look 179 = .ok (.aload_n 0, 1) := by decide +kernel
theorem dX12_look_180 : decode cX12_look 180 = .ok (.getfield 166, 3) := by decide +kernel
theorem dX12_look_183 : decode cX12_look 183 = .ok (.ireturn, 1) := by decide +kernel
theorem dX12_look_184 : decode cX12_look 184 = .ok (.iload_n 1, 1) := by decide +kernel
theorem dX12_look_185 : decode cX12_look 185 = .ok (.bipush 22, 2) := by decide +kernel
theorem dX12_look_187 : decode cX12_look 187 = .ok (.if_icmp .ne 8, 3) := by decide +kernel
theorem dX12_look_190 : decode cX12_look 190 = .ok (.aload_n 0, 1) := by decide +kernel
theorem dX12_look_191 : decode cX12_look 191 = .ok (.getfield 169, 3) := by decide +kernel
theorem dX12_look_194 : decode cX12_look 194 = .ok (.ireturn, 1) := by decide +kernel
theorem dX12_look_195 : decode cX12_look 195 = .ok (.iload_n 1, 1) := by decide +kernel
theorem dX12_look_196 : decode cX12_look 196 = .ok (.bipush 23, 2) := by decide +kernel
theorem dX12_look_198 : decode cX12_look 198 = .ok (.if_icmp .ne 10, 3) := by decide +kernel
theorem dX12_look_201 : decode cX12_look 201 = .ok (.aload_n 0, 1) := by decide +kernel
theorem dX12_look_202 : decode cX12_look 202 = .ok (.invokevirtual 350, 3) := by decide +kernel
theorem dX12_look_205 : decode cX12_look 205 = .ok (.goto 19, 3) := by decide +kernel
theorem dX12_look_208 : decode cX12_look 208 = .ok (.iload_n 1, 1) := by decide +kernel
theorem dX12_look_209 : decode cX12_look 209 = .ok (.bipush 24, 2) := by decide +kernel
theorem dX12_look_211 : decode cX12_look 211 = .ok (.if_icmp .ne 10, 3) := by decide +kernel
theorem dX12_look_214 : decode cX12_look 214 = .ok (.aload_n 0, 1) := by decide +kernel
theorem dX12_look_215 : decode cX12_look 215 = .ok (.invokevirtual 384, 3) := by decide +kernel
theorem dX12_look_218 : decode cX12_look 218 = .ok (.goto 6, 3) := by decide +kernel
theorem dX12_look_221 : decode cX12_look 221 = .ok (.sipush (-1000), 3) := by decide +kernel
theorem dX12_look_224 : decode cX12_look 224 = .ok (.ireturn, 1) := by decide +kernel
theorem dX12_mend_0 : decode cX12_mend 0 = .ok (.aload_n 0, 1) := by decide +kernel
theorem dX12_mend_1 : decode cX12_mend 1 = .ok (.iconst 0, 1) := by decide +kernel
theorem dX12_mend_2 : decode cX12_mend 2 = .ok (.putfield 130, 3) := by decide +kernel
theorem dX12_mend_5 : decode cX12_mend 5 = .ok (.iload_n 1, 1) := by decide +kernel
theorem dX12_mend_6 : decode cX12_mend 6 = .ok (.iconst (-1), 1) := by decide +kernel
theorem dX12_mend_7 : decode cX12_mend 7 = .ok (.if_icmp .eq 11, 3) := by decide +kernel
theorem dX12_mend_10 : decode cX12_mend 10 = .ok (.aload_n 0, 1) := by decide +kernel
theorem dX12_mend_11 : decode cX12_mend 11 = .ok (.iload_n 1, 1) := by decide +kernel
theorem dX12_mend_12 : decode cX12_mend 12 = .ok (.invokevirtual 155, 3) := by decide +kernel
theorem dX12_mend_15 : decode cX12_mend 15 = .ok (.ifCond .eq 10, 3) := by decide +kernel
theorem dX12_mend_18 : decode cX12_mend 18 = .ok (.aload_n 0, 1) := by decide +kernel
theorem dX12_mend_19 : decode cX12_mend 19 = .ok (.invokevirtual 481, 3) := by decide +kernel
theorem dX12_mend_22 : decode cX12_mend 22 = .ok (.ifCond .ne 5, 3) := by decide +kernel
theorem dX12_mend_25 : decode cX12_mend 25 = .ok (.iconst (-1), 1) := by decide +kernel
theorem dX12_mend_26 : decode cX12_mend 26 = .ok (.ireturn, 1) := by decide +kernel
theorem dX12_mend_27 : decode cX12_mend 27 = .ok (.iconst 0, 1) := by decide +kernel
theorem dX12_mend_28 : decode cX12_mend 28 = .ok (.istore_n 2, 1) := by decide +kernel
theorem dX12_mend_29 : decode cX12_mend 29 = .ok (.iconst 0, 1) := by decide +kernel
theorem dX12_mend_30 : decode cX12_mend 30 = .ok (.istore_n 3, 1) := by decide +kernel
theorem dX12_mend_31 : decode cX12_mend 31 = .ok (.iload_n 3, 1) := by decide +kernel
theorem dX12_mend_32 : decode cX12_mend 32 = .ok (.aload_n 0, 1) := by decide +kernel
theorem dX12_mend_33 : decode cX12_mend 33 = .ok (.getfield 148, 3) := by decide +kernel
theorem dX12_mend_36 : decode cX12_mend 36 = .ok (.if_icmp .ge 38, 3) := by decide +kernel
theorem dX12_mend_74 : decode cX12_mend 74 = .ok (.iload_n 2, 1) := by decide +kernel
theorem dX12_mend_75 : decode cX12_mend 75 = .ok (.ireturn, 1) := by decide +kernel
theorem dX12_mends_0 : decode cX12_mends 0 = .ok (.iconst 0, 1) := by decide +kernel
theorem dX12_mends_1 : decode cX12_mends 1 = .ok (.istore_n 1, 1) := by decide +kernel
theorem dX12_mends_2 : decode cX12_mends 2 = .ok (.iload_n 1, 1) := by decide +kernel
theorem dX12_mends_3 : decode cX12_mends 3 = .ok (.aload_n 0, 1) := by decide +kernel
theorem dX12_mends_4 : decode cX12_mends 4 = .ok (.getfield 148, 3) := by decide +kernel
theorem dX12_mends_7 : decode cX12_mends 7 = .ok (.if_icmp .ge 24, 3) := by decide +kernel
theorem dX12_mends_31 : decode cX12_mends 31 = .ok (.iconst 1, 1) := by decide +kernel
theorem dX12_mends_32 : decode cX12_mends 32 = .ok (.istore_n 1, 1) := by decide +kernel
theorem dX12_mends_33 : decode cX12_mends 33 = .ok (.iload_n 1, 1) := by decide +kernel
theorem dX12_mends_34 : decode cX12_mends 34 = .ok (.ifCond .eq 124, 3) := by decide +kernel
theorem dX12_mends_37 : decode cX12_mends 37 = .ok (.iconst 0, 1) := by decide +kernel
theorem dX12_mends_38 : decode cX12_mends 38 = .ok (.istore_n 1, 1) := by decide +kernel
theorem dX12_mends_39 : decode cX12_mends 39 = .ok (.iconst 0, 1) := by decide +kernel
theorem dX12_mends_40 : decode cX12_mends 40 = .ok (.istore_n 2, 1) := by decide +kernel
theorem dX12_mends_41 : decode cX12_mends 41 = .ok (.iload_n 2, 1) := by decide +kernel
theorem dX12_mends_42 : decode cX12_mends 42 = .ok (.aload_n 0, 1) := by decide +kernel
theorem dX12_mends_43 : decode cX12_mends 43 = .ok (.getfield 148, 3) := by decide +kernel
theorem dX12_mends_46 : decode cX12_mends 46 = .ok (.if_icmp .ge 109, 3) := by decide +kernel
theorem dX12_mends_155 : decode cX12_mends 155 = .ok (.goto (-122), 3) := by decide +kernel
theorem dX12_mends_158 : decode cX12_mends 158 = .ok (.iconst 1, 1) := by decide +kernel
theorem dX12_mends_159 : decode cX12_mends 159 = .ok (.ireturn, 1) := by decide +kernel
theorem dX12_mostOf_0 : decode cX12_mostOf 0 = .ok (.iload_n 1, 1) := by decide +kernel
theorem dX12_mostOf_1 : decode cX12_mostOf 1 = .ok (.ifCond .ne 6, 3) := by decide +kernel
theorem dX12_mostOf_4 : decode cX12_mostOf 4 = .ok (.bipush 9, 2) := by decide +kernel
theorem dX12_mostOf_6 : decode cX12_mostOf 6 = .ok (.ireturn, 1) := by decide +kernel
theorem dX12_mostOf_7 : decode cX12_mostOf 7 = .ok (.iload_n 1, 1) := by decide +kernel
theorem dX12_mostOf_8 : decode cX12_mostOf 8 = .ok (.iconst 1, 1) := by decide +kernel
theorem dX12_mostOf_9 : decode cX12_mostOf 9 = .ok (.if_icmp .ne 7, 3) := by decide +kernel
theorem dX12_mostOf_12 : decode cX12_mostOf 12 = .ok (.sipush 1000, 3) := by decide +kernel
theorem dX12_mostOf_15 : decode cX12_mostOf 15 = .ok (.ireturn, 1) := by decide +kernel
theorem dX12_mostOf_16 : decode cX12_mostOf 16 = .ok (.iload_n 1, 1) := by decide +kernel
theorem dX12_mostOf_17 : decode cX12_mostOf 17 = .ok (.iconst 5, 1) := by decide +kernel
theorem dX12_mostOf_18 : decode cX12_mostOf 18 = .ok (.if_icmp .ne 10, 3) := by decide +kernel
theorem dX12_mostOf_21 : decode cX12_mostOf 21 = .ok (.aload_n 0, 1) := by decide +kernel
theorem dX12_mostOf_22 : decode cX12_mostOf 22 = .ok (.getfield 148, 3) := by decide +kernel
theorem dX12_mostOf_25 : decode cX12_mostOf 25 = .ok (.iconst 1, 1) := by decide +kernel
theorem dX12_mostOf_26 : decode cX12_mostOf 26 = .ok (.isub, 1) := by decide +kernel
theorem dX12_mostOf_27 : decode cX12_mostOf 27 = .ok (.ireturn, 1) := by decide +kernel
theorem dX12_mostOf_28 : decode cX12_mostOf 28 = .ok (.iload_n 1, 1) := by decide +kernel
theorem dX12_mostOf_29 : decode cX12_mostOf 29 = .ok (.bipush 6, 2) := by decide +kernel
theorem dX12_mostOf_31 : decode cX12_mostOf 31 = .ok (.if_icmp .ne 6, 3) := by decide +kernel
theorem dX12_mostOf_37 : decode cX12_mostOf 37 = .ok (.iload_n 1, 1) := by decide +kernel
theorem dX12_mostOf_38 : decode cX12_mostOf 38 = .ok (.bipush 7, 2) := by decide +kernel
theorem dX12_mostOf_40 : decode cX12_mostOf 40 = .ok (.if_icmp .ne 9, 3) := by decide +kernel
theorem dX12_mostOf_49 : decode cX12_mostOf 49 = .ok (.iload_n 1, 1) := by decide +kernel
theorem dX12_mostOf_50 : decode cX12_mostOf 50 = .ok (.bipush 10, 2) := by decide +kernel
theorem dX12_mostOf_52 : decode cX12_mostOf 52 = .ok (.if_icmp .ne 9, 3) := by decide +kernel
theorem dX12_mostOf_61 : decode cX12_mostOf 61 = .ok (.bipush 99, 2) := by decide +kernel
theorem dX12_mostOf_63 : decode cX12_mostOf 63 = .ok (.ireturn, 1) := by decide +kernel
theorem dX12_need_0 : decode cX12_need 0 = .ok (.aload_n 0, 1) := by decide +kernel
theorem dX12_need_1 : decode cX12_need 1 = .ok (.iconst 0, 1) := by decide +kernel
theorem dX12_need_2 : decode cX12_need 2 = .ok (.putfield 130, 3) := by decide +kernel
theorem dX12_need_5 : decode cX12_need 5 = .ok (.aload_n 0, 1) := by decide +kernel
theorem dX12_need_6 : decode cX12_need 6 = .ok (.iload_n 1, 1) := by decide +kernel
theorem dX12_need_7 : decode cX12_need 7 = .ok (.iconst 0, 1) := by decide +kernel
theorem dX12_need_8 : decode cX12_need 8 = .ok (.aload_n 0, 1) := by decide +kernel
theorem dX12_need_9 : decode cX12_need 9 = .ok (.getfield 324, 3) := by decide +kernel
theorem dX12_need_12 : decode cX12_need 12 = .ok (.iconst 1, 1) := by decide +kernel
theorem dX12_need_13 : decode cX12_need 13 = .ok (.isub, 1) := by decide +kernel
theorem dX12_need_14 : decode cX12_need 14 = .ok (.invokevirtual 151, 3) := by decide +kernel
theorem dX12_need_17 : decode cX12_need 17 = .ok (.ifCond .eq 14, 3) := by decide +kernel
theorem dX12_need_31 : decode cX12_need 31 = .ok (.bipush (-2), 2) := by decide +kernel
theorem dX12_need_33 : decode cX12_need 33 = .ok (.ireturn, 1) := by decide +kernel
theorem dX12_nights_0 : decode cX12_nights 0 = .ok (.aload_n 0, 1) := by decide +kernel
theorem dX12_nights_1 : decode cX12_nights 1 = .ok (.iconst 0, 1) := by decide +kernel
theorem dX12_nights_2 : decode cX12_nights 2 = .ok (.putfield 130, 3) := by decide +kernel
theorem dX12_nights_5 : decode cX12_nights 5 = .ok (.aload_n 0, 1) := by decide +kernel
theorem dX12_nights_6 : decode cX12_nights 6 = .ok (.iload_n 1, 1) := by decide +kernel
theorem dX12_nights_7 : decode cX12_nights 7 = .ok (.iconst 1, 1) := by decide +kernel
theorem dX12_nights_8 : decode cX12_nights 8 = .ok (.bipush 60, 2) := by decide +kernel
theorem dX12_nights_10 : decode cX12_nights 10 = .ok (.invokevirtual 151, 3) := by decide +kernel
theorem dX12_nights_13 : decode cX12_nights 13 = .ok (.ifCond .eq 24, 3) := by decide +kernel
theorem dX12_nights_16 : decode cX12_nights 16 = .ok (.aload_n 0, 1) := by decide +kernel
theorem dX12_nights_17 : decode cX12_nights 17 = .ok (.getfield 148, 3) := by decide +kernel
theorem dX12_nights_20 : decode cX12_nights 20 = .ok (.ifCond .eq 17, 3) := by decide +kernel
theorem dX12_nights_37 : decode cX12_nights 37 = .ok (.iconst (-1), 1) := by decide +kernel
theorem dX12_nights_38 : decode cX12_nights 38 = .ok (.ireturn, 1) := by decide +kernel
theorem dX12_of_0 : decode cX12_of 0 = .ok (.aload_n 0, 1) := by decide +kernel
theorem dX12_of_1 : decode cX12_of 1 = .ok (.iconst 0, 1) := by decide +kernel
theorem dX12_of_2 : decode cX12_of 2 = .ok (.putfield 130, 3) := by decide +kernel
theorem dX12_of_5 : decode cX12_of 5 = .ok (.aload_n 0, 1) := by decide +kernel
theorem dX12_of_6 : decode cX12_of 6 = .ok (.iload_n 1, 1) := by decide +kernel
theorem dX12_of_7 : decode cX12_of 7 = .ok (.invokevirtual 155, 3) := by decide +kernel
theorem dX12_of_10 : decode cX12_of 10 = .ok (.ifCond .ne 7, 3) := by decide +kernel
theorem dX12_of_13 : decode cX12_of 13 = .ok (.ldc_w 434, 3) := by decide +kernel
theorem dX12_of_16 : decode cX12_of 16 = .ok (.ireturn, 1) := by decide +kernel
theorem dX12_plan_0 : decode cX12_plan 0 = .ok (.aload_n 0, 1) := by decide +kernel
theorem dX12_plan_1 : decode cX12_plan 1 = .ok (.iconst 0, 1) := by decide +kernel
theorem dX12_plan_2 : decode cX12_plan 2 = .ok (.putfield 130, 3) := by decide +kernel
theorem dX12_plan_5 : decode cX12_plan 5 = .ok (.aload_n 0, 1) := by decide +kernel
theorem dX12_plan_6 : decode cX12_plan 6 = .ok (.iload_n 1, 1) := by decide +kernel
theorem dX12_plan_7 : decode cX12_plan 7 = .ok (.iconst 1, 1) := by decide +kernel
theorem dX12_plan_8 : decode cX12_plan 8 = .ok (.bipush 10, 2) := by decide +kernel
theorem dX12_plan_10 : decode cX12_plan 10 = .ok (.invokevirtual 151, 3) := by decide +kernel
theorem dX12_plan_13 : decode cX12_plan 13 = .ok (.ifCond .eq 34, 3) := by decide +kernel
theorem dX12_plan_16 : decode cX12_plan 16 = .ok (.aload_n 0, 1) := by decide +kernel
theorem dX12_plan_17 : decode cX12_plan 17 = .ok (.getfield 148, 3) := by decide +kernel
theorem dX12_plan_20 : decode cX12_plan 20 = .ok (.ifCond .eq 27, 3) := by decide +kernel
theorem dX12_plan_47 : decode cX12_plan 47 = .ok (.iconst (-1), 1) := by decide +kernel
theorem dX12_plan_48 : decode cX12_plan 48 = .ok (.ireturn, 1) := by decide +kernel
theorem dX12_raw_0 : decode cX12_raw 0 = .ok (.iload_n 1, 1) := by decide +kernel
theorem dX12_raw_1 : decode cX12_raw 1 = .ok (.aload_n 0, 1) := by decide +kernel
theorem dX12_raw_2 : decode cX12_raw 2 = .ok (.getfield 172, 3) := by decide +kernel
theorem dX12_raw_5 : decode cX12_raw 5 = .ok (.if_icmp .ge 12, 3) := by decide +kernel
theorem dX12_raw_17 : decode cX12_raw 17 = .ok (.iconst (-1), 1) := by decide +kernel
theorem dX12_raw_18 : decode cX12_raw 18 = .ok (.ireturn, 1) := by decide +kernel
theorem dX12_readLaw_0 : decode cX12_readLaw 0 = .ok (.iconst 0, 1) := by decide +kernel
theorem dX12_readLaw_1 : decode cX12_readLaw 1 = .ok (.istore_n 1, 1) := by decide +kernel
theorem dX12_readLaw_2 : decode cX12_readLaw 2 = .ok (.aload_n 0, 1) := by decide +kernel
theorem dX12_readLaw_3 : decode cX12_readLaw 3 = .ok (.invokevirtual 263, 3) := by decide +kernel
theorem dX12_readLaw_6 : decode cX12_readLaw 6 = .ok (.ifCond .eq 112, 3) := by decide +kernel
theorem dX12_readLaw_118 : decode cX12_readLaw 118 = .ok (.aload_n 0, 1) := by decide +kernel
theorem dX12_readLaw_119 : decode cX12_readLaw 119 = .ok (.getfield 188, 3) := by decide +kernel
theorem dX12_readLaw_122 : decode cX12_readLaw 122 = .ok (.ifCond .ne 7, 3) := by decide +kernel
theorem dX12_readLaw_125 : decode cX12_readLaw 125 = .ok (.iload_n 1, 1) := by decide +kernel
theorem dX12_readLaw_126 : decode cX12_readLaw 126 = .ok (.goto 8, 3) := by decide +kernel
theorem dX12_readLaw_134 : decode cX12_readLaw 134 = .ok (.ireturn, 1) := by decide +kernel
theorem dX12_readNeeds_0 : decode cX12_readNeeds 0 = .ok (.iconst 0, 1) := by decide +kernel
theorem dX12_readNeeds_1 : decode cX12_readNeeds 1 = .ok (.istore_n 1, 1) := by decide +kernel
theorem dX12_readNeeds_2 : decode cX12_readNeeds 2 = .ok (.aload_n 0, 1) := by decide +kernel
theorem dX12_readNeeds_3 : decode cX12_readNeeds 3 = .ok (.bipush 20, 2) := by decide +kernel
theorem dX12_readNeeds_5 : decode cX12_readNeeds 5 = .ok (.invokevirtual 251, 3) := by decide +kernel
theorem dX12_readNeeds_8 : decode cX12_readNeeds 8 = .ok (.ifCond .eq 42, 3) := by decide +kernel
theorem dX12_readNeeds_50 : decode cX12_readNeeds 50 = .ok (.aload_n 0, 1) := by decide +kernel
theorem dX12_readNeeds_51 : decode cX12_readNeeds 51 = .ok (.getfield 188, 3) := by decide +kernel
theorem dX12_readNeeds_54 : decode cX12_readNeeds 54 = .ok (.ifCond .ne 7, 3) := by decide +kernel
theorem dX12_readNeeds_57 : decode cX12_readNeeds 57 = .ok (.iload_n 1, 1) := by decide +kernel
theorem dX12_readNeeds_58 : decode cX12_readNeeds 58 = .ok (.goto 8, 3) := by decide +kernel
theorem dX12_readNeeds_66 : decode cX12_readNeeds 66 = .ok (.ireturn, 1) := by decide +kernel
theorem dX12_readPaths_0 : decode cX12_readPaths 0 = .ok (.iconst 0, 1) := by decide +kernel
theorem dX12_readPaths_1 : decode cX12_readPaths 1 = .ok (.istore_n 1, 1) := by decide +kernel
theorem dX12_readPaths_2 : decode cX12_readPaths 2 = .ok (.aload_n 0, 1) := by decide +kernel
theorem dX12_readPaths_3 : decode cX12_readPaths 3 = .ok (.bipush 16, 2) := by decide +kernel
theorem dX12_readPaths_5 : decode cX12_readPaths 5 = .ok (.invokevirtual 251, 3) := by decide +kernel
theorem dX12_readPaths_8 : decode cX12_readPaths 8 = .ok (.ifCond .eq 43, 3) := by decide +kernel
theorem dX12_readPaths_51 : decode cX12_readPaths 51 = .ok (.aload_n 0, 1) := by decide +kernel
theorem dX12_readPaths_52 : decode cX12_readPaths 52 = .ok (.getfield 188, 3) := by decide +kernel
theorem dX12_readPaths_55 : decode cX12_readPaths 55 = .ok (.ifCond .ne 7, 3) := by decide +kernel
theorem dX12_readPaths_58 : decode cX12_readPaths 58 = .ok (.iload_n 1, 1) := by decide +kernel
theorem dX12_readPaths_59 : decode cX12_readPaths 59 = .ok (.goto 8, 3) := by decide +kernel
theorem dX12_readPaths_67 : decode cX12_readPaths 67 = .ok (.ireturn, 1) := by decide +kernel
theorem dX12_readRound_0 : decode cX12_readRound 0 = .ok (.aload_n 0, 1) := by decide +kernel
theorem dX12_readRound_1 : decode cX12_readRound 1 = .ok (.invokevirtual 303, 3) := by decide +kernel
theorem dX12_readRound_4 : decode cX12_readRound 4 = .ok (.iconst (-1), 1) := by decide +kernel
theorem dX12_readRound_5 : decode cX12_readRound 5 = .ok (.if_icmp .ne 7, 3) := by decide +kernel
theorem dX12_readRound_12 : decode cX12_readRound 12 = .ok (.aload_n 0, 1) := by decide +kernel
theorem dX12_readRound_13 : decode cX12_readRound 13 = .ok (.invokevirtual 306, 3) := by decide +kernel
theorem dX12_readRound_16 : decode cX12_readRound 16 = .ok (.ireturn, 1) := by decide +kernel
theorem dX12_readSteps_0 : decode cX12_readSteps 0 = .ok (.aload_n 0, 1) := by decide +kernel
theorem dX12_readSteps_1 : decode cX12_readSteps 1 = .ok (.iconst 0, 1) := by decide +kernel
theorem dX12_readSteps_2 : decode cX12_readSteps 2 = .ok (.putfield 285, 3) := by decide +kernel
theorem dX12_readSteps_5 : decode cX12_readSteps 5 = .ok (.aload_n 0, 1) := by decide +kernel
theorem dX12_readSteps_6 : decode cX12_readSteps 6 = .ok (.invokevirtual 291, 3) := by decide +kernel
theorem dX12_readSteps_9 : decode cX12_readSteps 9 = .ok (.ifCond .ne 28, 3) := by decide +kernel
theorem dX12_readSteps_12 : decode cX12_readSteps 12 = .ok (.aload_n 0, 1) := by decide +kernel
theorem dX12_readSteps_13 : decode cX12_readSteps 13 = .ok (.bipush 30, 2) := by decide +kernel
theorem dX12_readSteps_15 : decode cX12_readSteps 15 = .ok (.invokevirtual 251, 3) := by decide +kernel
theorem dX12_readSteps_18 : decode cX12_readSteps 18 = .ok (.ifCond .ne 19, 3) := by decide +kernel
theorem dX12_readSteps_21 : decode cX12_readSteps 21 = .ok (.aload_n 0, 1) := by decide +kernel
theorem dX12_readSteps_22 : decode cX12_readSteps 22 = .ok (.getfield 248, 3) := by decide +kernel
theorem dX12_readSteps_25 : decode cX12_readSteps 25 = .ok (.ifCond .le 57, 3) := by decide +kernel
theorem dX12_readSteps_82 : decode cX12_readSteps 82 = .ok (.aload_n 0, 1) := by decide +kernel
theorem dX12_readSteps_83 : decode cX12_readSteps 83 = .ok (.getfield 248, 3) := by decide +kernel
theorem dX12_readSteps_86 : decode cX12_readSteps 86 = .ok (.ifCond .ne 14, 3) := by decide +kernel
theorem dX12_readSteps_89 : decode cX12_readSteps 89 = .ok (.aload_n 0, 1) := by decide +kernel
theorem dX12_readSteps_90 : decode cX12_readSteps 90 = .ok (.getfield 188, 3) := by decide +kernel
theorem dX12_readSteps_93 : decode cX12_readSteps 93 = .ok (.ifCond .ne 7, 3) := by decide +kernel
theorem dX12_readSteps_96 : decode cX12_readSteps 96 = .ok (.iconst 0, 1) := by decide +kernel
theorem dX12_readSteps_97 : decode cX12_readSteps 97 = .ok (.goto 8, 3) := by decide +kernel
theorem dX12_readSteps_105 : decode cX12_readSteps 105 = .ok (.ireturn, 1) := by decide +kernel
theorem dX12_reads_0 : decode cX12_reads 0 = .ok (.aload_n 0, 1) := by decide +kernel
theorem dX12_reads_1 : decode cX12_reads 1 = .ok (.aload_n 0, 1) := by decide +kernel
theorem dX12_reads_2 : decode cX12_reads 2 = .ok (.getfield 179, 3) := by decide +kernel
theorem dX12_reads_5 : decode cX12_reads 5 = .ok (.invokevirtual 182, 3) := by decide +kernel
theorem dX12_reads_8 : decode cX12_reads 8 = .ok (.bipush 32, 2) := by decide +kernel
theorem dX12_reads_10 : decode cX12_reads 10 = .ok (.if_icmp .eq 16, 3) := by decide +kernel
theorem dX12_reads_13 : decode cX12_reads 13 = .ok (.aload_n 0, 1) := by decide +kernel
theorem dX12_reads_14 : decode cX12_reads 14 = .ok (.aload_n 0, 1) := by decide +kernel
theorem dX12_reads_15 : decode cX12_reads 15 = .ok (.getfield 179, 3) := by decide +kernel
theorem dX12_reads_18 : decode cX12_reads 18 = .ok (.invokevirtual 182, 3) := by decide +kernel
theorem dX12_reads_21 : decode cX12_reads 21 = .ok (.bipush 10, 2) := by decide +kernel
theorem dX12_reads_23 : decode cX12_reads 23 = .ok (.if_icmp .ne 16, 3) := by decide +kernel
theorem dX12_reads_39 : decode cX12_reads 39 = .ok (.aload_n 0, 1) := by decide +kernel
theorem dX12_reads_40 : decode cX12_reads 40 = .ok (.aload_n 0, 1) := by decide +kernel
theorem dX12_reads_41 : decode cX12_reads 41 = .ok (.getfield 179, 3) := by decide +kernel
theorem dX12_reads_44 : decode cX12_reads 44 = .ok (.putfield 185, 3) := by decide +kernel
theorem dX12_reads_47 : decode cX12_reads 47 = .ok (.aload_n 0, 1) := by decide +kernel
theorem dX12_reads_48 : decode cX12_reads 48 = .ok (.iconst 1, 1) := by decide +kernel
theorem dX12_reads_49 : decode cX12_reads 49 = .ok (.putfield 188, 3) := by decide +kernel
theorem dX12_reads_52 : decode cX12_reads 52 = .ok (.aload_n 0, 1) := by decide +kernel
theorem dX12_reads_53 : decode cX12_reads 53 = .ok (.aload_n 0, 1) := by decide +kernel
theorem dX12_reads_54 : decode cX12_reads 54 = .ok (.getfield 179, 3) := by decide +kernel
theorem dX12_reads_57 : decode cX12_reads 57 = .ok (.invokevirtual 182, 3) := by decide +kernel
theorem dX12_reads_60 : decode cX12_reads 60 = .ok (.istore_n 1, 1) := by decide +kernel
theorem dX12_reads_61 : decode cX12_reads 61 = .ok (.iload_n 1, 1) := by decide +kernel
theorem dX12_reads_62 : decode cX12_reads 62 = .ok (.iconst (-1), 1) := by decide +kernel
theorem dX12_reads_63 : decode cX12_reads 63 = .ok (.if_icmp .ne 9, 3) := by decide +kernel
theorem dX12_reads_66 : decode cX12_reads 66 = .ok (.aload_n 0, 1) := by decide +kernel
theorem dX12_reads_67 : decode cX12_reads 67 = .ok (.iconst 0, 1) := by decide +kernel
theorem dX12_reads_68 : decode cX12_reads 68 = .ok (.putfield 188, 3) := by decide +kernel
theorem dX12_reads_71 : decode cX12_reads 71 = .ok (.return_, 1) := by decide +kernel
theorem dX12_readsText_0 : decode cX12_readsText 0 = .ok (.aload_n 0, 1) := by decide +kernel
theorem dX12_readsText_1 : decode cX12_readsText 1 = .ok (.iload_n 1, 1) := by decide +kernel
theorem dX12_readsText_2 : decode cX12_readsText 2 = .ok (.putfield 216, 3) := by decide +kernel
theorem dX12_readsText_5 : decode cX12_readsText 5 = .ok (.aload_n 0, 1) := by decide +kernel
theorem dX12_readsText_6 : decode cX12_readsText 6 = .ok (.invokevirtual 229, 3) := by decide +kernel
theorem dX12_readsText_9 : decode cX12_readsText 9 = .ok (.iload_n 1, 1) := by decide +kernel
theorem dX12_readsText_10 : decode cX12_readsText 10 = .ok (.iconst 2, 1) := by decide +kernel
theorem dX12_readsText_11 : decode cX12_readsText 11 = .ok (.if_icmp .ne 8, 3) := by decide +kernel
theorem dX12_readsText_14 : decode cX12_readsText 14 = .ok (.aload_n 0, 1) := by decide +kernel
theorem dX12_readsText_15 : decode cX12_readsText 15 = .ok (.invokevirtual 309, 3) := by decide +kernel
theorem dX12_readsText_18 : decode cX12_readsText 18 = .ok (.ireturn, 1) := by decide +kernel
theorem dX12_readsText_19 : decode cX12_readsText 19 = .ok (.iload_n 1, 1) := by decide +kernel
theorem dX12_readsText_20 : decode cX12_readsText 20 = .ok (.iconst 3, 1) := by decide +kernel
theorem dX12_readsText_21 : decode cX12_readsText 21 = .ok (.if_icmp .ne 8, 3) := by decide +kernel
theorem dX12_readsText_24 : decode cX12_readsText 24 = .ok (.aload_n 0, 1) := by decide +kernel
theorem dX12_readsText_25 : decode cX12_readsText 25 = .ok (.invokevirtual 312, 3) := by decide +kernel
theorem dX12_readsText_28 : decode cX12_readsText 28 = .ok (.ireturn, 1) := by decide +kernel
theorem dX12_readsText_29 : decode cX12_readsText 29 = .ok (.iload_n 1, 1) := by decide +kernel
theorem dX12_readsText_30 : decode cX12_readsText 30 = .ok (.iconst 4, 1) := by decide +kernel
theorem dX12_readsText_31 : decode cX12_readsText 31 = .ok (.if_icmp .ne 10, 3) := by decide +kernel
theorem dX12_readsText_34 : decode cX12_readsText 34 = .ok (.aload_n 0, 1) := by decide +kernel
theorem dX12_readsText_35 : decode cX12_readsText 35 = .ok (.invokevirtual 315, 3) := by decide +kernel
theorem dX12_readsText_38 : decode cX12_readsText 38 = .ok (.goto 7, 3) := by decide +kernel
theorem dX12_readsText_41 : decode cX12_readsText 41 = .ok (.aload_n 0, 1) := by decide +kernel
theorem dX12_readsText_42 : decode cX12_readsText 42 = .ok (.invokevirtual 318, 3) := by decide +kernel
theorem dX12_readsText_45 : decode cX12_readsText 45 = .ok (.ireturn, 1) := by decide +kernel
theorem dX12_rooms_0 : decode cX12_rooms 0 = .ok (.aload_n 0, 1) := by decide +kernel
theorem dX12_rooms_1 : decode cX12_rooms 1 = .ok (.iconst 0, 1) := by decide +kernel
theorem dX12_rooms_2 : decode cX12_rooms 2 = .ok (.putfield 130, 3) := by decide +kernel
theorem dX12_rooms_5 : decode cX12_rooms 5 = .ok (.iload_n 1, 1) := by decide +kernel
theorem dX12_rooms_6 : decode cX12_rooms 6 = .ok (.ifCond .eq 22, 3) := by decide +kernel
theorem dX12_rooms_9 : decode cX12_rooms 9 = .ok (.aload_n 0, 1) := by decide +kernel
theorem dX12_rooms_10 : decode cX12_rooms 10 = .ok (.iload_n 1, 1) := by decide +kernel
theorem dX12_rooms_11 : decode cX12_rooms 11 = .ok (.bipush 10, 2) := by decide +kernel
theorem dX12_rooms_13 : decode cX12_rooms 13 = .ok (.bipush 9, 2) := by decide +kernel
theorem dX12_rooms_15 : decode cX12_rooms 15 = .ok (.aload_n 0, 1) := by decide +kernel
theorem dX12_rooms_16 : decode cX12_rooms 16 = .ok (.getfield 148, 3) := by decide +kernel
theorem dX12_rooms_19 : decode cX12_rooms 19 = .ok (.iadd, 1) := by decide +kernel
theorem dX12_rooms_20 : decode cX12_rooms 20 = .ok (.invokevirtual 151, 3) := by decide +kernel
theorem dX12_rooms_23 : decode cX12_rooms 23 = .ok (.ifCond .ne 5, 3) := by decide +kernel
theorem dX12_rooms_26 : decode cX12_rooms 26 = .ok (.iconst (-1), 1) := by decide +kernel
theorem dX12_rooms_27 : decode cX12_rooms 27 = .ok (.ireturn, 1) := by decide +kernel
theorem dX12_rooms_28 : decode cX12_rooms 28 = .ok (.aload_n 0, 1) := by decide +kernel
theorem dX12_rooms_29 : decode cX12_rooms 29 = .ok (.invokevirtual 496, 3) := by decide +kernel
theorem dX12_rooms_32 : decode cX12_rooms 32 = .ok (.iload_n 1, 1) := by decide +kernel
theorem dX12_rooms_33 : decode cX12_rooms 33 = .ok (.ifCond .ne 19, 3) := by decide +kernel
theorem dX12_rooms_36 : decode cX12_rooms 36 = .ok (.aload_n 0, 1) := by decide +kernel
theorem dX12_rooms_37 : decode cX12_rooms 37 = .ok (.getfield 111, 3) := by decide +kernel
theorem dX12_rooms_40 : decode cX12_rooms 40 = .ok (.iconst 1, 1) := by decide +kernel
theorem dX12_rooms_41 : decode cX12_rooms 41 = .ok (.aload_n 0, 1) := by decide +kernel
theorem dX12_rooms_42 : decode cX12_rooms 42 = .ok (.getfield 148, 3) := by decide +kernel
theorem dX12_rooms_45 : decode cX12_rooms 45 = .ok (.ishl, 1) := by decide +kernel
theorem dX12_rooms_46 : decode cX12_rooms 46 = .ok (.iconst 1, 1) := by decide +kernel
theorem dX12_rooms_47 : decode cX12_rooms 47 = .ok (.isub, 1) := by decide +kernel
theorem dX12_rooms_48 : decode cX12_rooms 48 = .ok (.iaload, 1) := by decide +kernel
theorem dX12_rooms_49 : decode cX12_rooms 49 = .ok (.goto 11, 3) := by decide +kernel
theorem dX12_rooms_60 : decode cX12_rooms 60 = .ok (.ireturn, 1) := by decide +kernel
theorem dX12_run_0 : decode cX12_run 0 = .ok (.aload_n 0, 1) := by decide +kernel
theorem dX12_run_1 : decode cX12_run 1 = .ok (.iconst 0, 1) := by decide +kernel
theorem dX12_run_2 : decode cX12_run 2 = .ok (.putfield 130, 3) := by decide +kernel
theorem dX12_run_5 : decode cX12_run 5 = .ok (.aload_n 0, 1) := by decide +kernel
theorem dX12_run_6 : decode cX12_run 6 = .ok (.iload_n 1, 1) := by decide +kernel
theorem dX12_run_7 : decode cX12_run 7 = .ok (.iconst 1, 1) := by decide +kernel
theorem dX12_run_8 : decode cX12_run 8 = .ok (.bipush 99, 2) := by decide +kernel
theorem dX12_run_10 : decode cX12_run 10 = .ok (.invokevirtual 151, 3) := by decide +kernel
theorem dX12_run_13 : decode cX12_run 13 = .ok (.ifCond .eq 20, 3) := by decide +kernel
theorem dX12_run_16 : decode cX12_run 16 = .ok (.aload_n 0, 1) := by decide +kernel
theorem dX12_run_17 : decode cX12_run 17 = .ok (.getfield 148, 3) := by decide +kernel
theorem dX12_run_20 : decode cX12_run 20 = .ok (.ifCond .eq 13, 3) := by decide +kernel
theorem dX12_run_33 : decode cX12_run 33 = .ok (.iconst (-1), 1) := by decide +kernel
theorem dX12_run_34 : decode cX12_run 34 = .ok (.ireturn, 1) := by decide +kernel
theorem dX12_sale_0 : decode cX12_sale 0 = .ok (.aload_n 0, 1) := by decide +kernel
theorem dX12_sale_1 : decode cX12_sale 1 = .ok (.iconst 0, 1) := by decide +kernel
theorem dX12_sale_2 : decode cX12_sale 2 = .ok (.putfield 130, 3) := by decide +kernel
theorem dX12_sale_5 : decode cX12_sale 5 = .ok (.aload_n 0, 1) := by decide +kernel
theorem dX12_sale_6 : decode cX12_sale 6 = .ok (.iconst (-1), 1) := by decide +kernel
theorem dX12_sale_7 : decode cX12_sale 7 = .ok (.invokevirtual 502, 3) := by decide +kernel
theorem dX12_sale_10 : decode cX12_sale 10 = .ok (.istore_n 2, 1) := by decide +kernel
theorem dX12_sale_11 : decode cX12_sale 11 = .ok (.iload_n 2, 1) := by decide +kernel
theorem dX12_sale_12 : decode cX12_sale 12 = .ok (.iconst (-1), 1) := by decide +kernel
theorem dX12_sale_13 : decode cX12_sale 13 = .ok (.if_icmp .eq 7, 3) := by decide +kernel
theorem dX12_sale_20 : decode cX12_sale 20 = .ok (.iload_n 1, 1) := by decide +kernel
theorem dX12_sale_21 : decode cX12_sale 21 = .ok (.ifCond .ne 7, 3) := by decide +kernel
theorem dX12_sale_24 : decode cX12_sale 24 = .ok (.iload_n 2, 1) := by decide +kernel
theorem dX12_sale_25 : decode cX12_sale 25 = .ok (.goto 4, 3) := by decide +kernel
theorem dX12_sale_28 : decode cX12_sale 28 = .ok (.iconst (-1), 1) := by decide +kernel
theorem dX12_sale_29 : decode cX12_sale 29 = .ok (.ireturn, 1) := by decide +kernel
theorem dX12_set_0 : decode cX12_set 0 = .ok (.aload_n 0, 1) := by decide +kernel
theorem dX12_set_1 : decode cX12_set 1 = .ok (.iconst 0, 1) := by decide +kernel
theorem dX12_set_2 : decode cX12_set 2 = .ok (.putfield 130, 3) := by decide +kernel
theorem dX12_set_5 : decode cX12_set 5 = .ok (.aload_n 0, 1) := by decide +kernel
theorem dX12_set_6 : decode cX12_set 6 = .ok (.iload_n 1, 1) := by decide +kernel
theorem dX12_set_7 : decode cX12_set 7 = .ok (.iload_n 2, 1) := by decide +kernel
theorem dX12_set_8 : decode cX12_set 8 = .ok (.iload_n 3, 1) := by decide +kernel
theorem dX12_set_9 : decode cX12_set 9 = .ok (.invokevirtual 163, 3) := by decide +kernel
theorem dX12_set_12 : decode cX12_set 12 = .ok (.ifCond .ne 5, 3) := by decide +kernel
theorem dX12_set_15 : decode cX12_set 15 = .ok (.iconst 0, 1) := by decide +kernel
theorem dX12_set_16 : decode cX12_set 16 = .ok (.ireturn, 1) := by decide +kernel
theorem dX12_set_17 : decode cX12_set 17 = .ok (.iload_n 1, 1) := by decide +kernel
theorem dX12_set_18 : decode cX12_set 18 = .ok (.ifCond .ne 10, 3) := by decide +kernel
theorem dX12_set_21 : decode cX12_set 21 = .ok (.aload_n 0, 1) := by decide +kernel
theorem dX12_set_22 : decode cX12_set 22 = .ok (.getfield 7, 3) := by decide +kernel
theorem dX12_set_25 : decode cX12_set 25 = .ok (.iconst 4, 1) := by decide +kernel
theorem dX12_set_26 : decode cX12_set 26 = .ok (.iload_n 3, 1) := by decide +kernel
theorem dX12_set_27 : decode cX12_set 27 = .ok (.iastore, 1) := by decide +kernel
theorem dX12_set_28 : decode cX12_set 28 = .ok (.iload_n 1, 1) := by decide +kernel
theorem dX12_set_29 : decode cX12_set 29 = .ok (.iconst 1, 1) := by decide +kernel
theorem dX12_set_30 : decode cX12_set 30 = .ok (.if_icmp .ne 8, 3) := by decide +kernel
theorem dX12_set_33 : decode cX12_set 33 = .ok (.aload_n 0, 1) := by decide +kernel
theorem dX12_set_34 : decode cX12_set 34 = .ok (.iload_n 3, 1) := by decide +kernel
theorem dX12_set_35 : decode cX12_set 35 = .ok (.putfield 166, 3) := by decide +kernel
theorem dX12_set_38 : decode cX12_set 38 = .ok (.iload_n 1, 1) := by decide +kernel
theorem dX12_set_39 : decode cX12_set 39 = .ok (.iconst 2, 1) := by decide +kernel
theorem dX12_set_40 : decode cX12_set 40 = .ok (.if_icmp .ne 8, 3) := by decide +kernel
theorem dX12_set_43 : decode cX12_set 43 = .ok (.aload_n 0, 1) := by decide +kernel
theorem dX12_set_44 : decode cX12_set 44 = .ok (.iload_n 3, 1) := by decide +kernel
theorem dX12_set_45 : decode cX12_set 45 = .ok (.putfield 169, 3) := by decide +kernel
theorem dX12_set_48 : decode cX12_set 48 = .ok (.iload_n 1, 1) := by decide +kernel
theorem dX12_set_49 : decode cX12_set 49 = .ok (.iconst 3, 1) := by decide +kernel
theorem dX12_set_50 : decode cX12_set 50 = .ok (.if_icmp .ne 11, 3) := by decide +kernel
theorem dX12_set_53 : decode cX12_set 53 = .ok (.aload_n 0, 1) := by decide +kernel
theorem dX12_set_54 : decode cX12_set 54 = .ok (.iload_n 3, 1) := by decide +kernel
theorem dX12_set_55 : decode cX12_set 55 = .ok (.bipush 20, 2) := by decide +kernel
theorem dX12_set_57 : decode cX12_set 57 = .ok (.isub, 1) := by decide +kernel
theorem dX12_set_58 : decode cX12_set 58 = .ok (.putfield 142, 3) := by decide +kernel
theorem dX12_set_61 : decode cX12_set 61 = .ok (.iload_n 1, 1) := by decide +kernel
theorem dX12_set_62 : decode cX12_set 62 = .ok (.iconst 4, 1) := by decide +kernel
theorem dX12_set_63 : decode cX12_set 63 = .ok (.if_icmp .ne 11, 3) := by decide +kernel
theorem dX12_set_66 : decode cX12_set 66 = .ok (.aload_n 0, 1) := by decide +kernel
theorem dX12_set_67 : decode cX12_set 67 = .ok (.iload_n 3, 1) := by decide +kernel
theorem dX12_set_68 : decode cX12_set 68 = .ok (.bipush 30, 2) := by decide +kernel
theorem dX12_set_70 : decode cX12_set 70 = .ok (.isub, 1) := by decide +kernel
theorem dX12_set_71 : decode cX12_set 71 = .ok (.putfield 145, 3) := by decide +kernel
theorem dX12_set_74 : decode cX12_set 74 = .ok (.iload_n 1, 1) := by decide +kernel
theorem dX12_set_75 : decode cX12_set 75 = .ok (.iconst 5, 1) := by decide +kernel
theorem dX12_set_76 : decode cX12_set 76 = .ok (.if_icmp .ne 10, 3) := by decide +kernel
theorem dX12_set_86 : decode cX12_set 86 = .ok (.iload_n 1, 1) := by decide +kernel
theorem dX12_set_87 : decode cX12_set 87 = .ok (.bipush 6, 2) := by decide +kernel
theorem dX12_set_89 : decode cX12_set 89 = .ok (.if_icmp .ne 10, 3) := by decide +kernel
theorem dX12_set_99 : decode cX12_set 99 = .ok (.iload_n 1, 1) := by decide +kernel
theorem dX12_set_100 : decode cX12_set 100 = .ok (.bipush 7, 2) := by decide +kernel
theorem dX12_set_102 : decode cX12_set 102 = .ok (.if_icmp .ne 13, 3) := by decide +kernel
theorem dX12_set_115 : decode cX12_set 115 = .ok (.iload_n 1, 1) := by decide +kernel
theorem dX12_set_116 : decode cX12_set 116 = .ok (.bipush 8, 2) := by decide +kernel
theorem dX12_set_118 : decode cX12_set 118 = .ok (.if_icmp .ne 13, 3) := by decide +kernel
theorem dX12_set_131 : decode cX12_set 131 = .ok (.iload_n 1, 1) := by decide +kernel
theorem dX12_set_132 : decode cX12_set 132 = .ok (.bipush 9, 2) := by decide +kernel
theorem dX12_set_134 : decode cX12_set 134 = .ok (.if_icmp .ne 10, 3) := by decide +kernel
theorem dX12_set_144 : decode cX12_set 144 = .ok (.iload_n 1, 1) := by decide +kernel
theorem dX12_set_145 : decode cX12_set 145 = .ok (.bipush 10, 2) := by decide +kernel
theorem dX12_set_147 : decode cX12_set 147 = .ok (.if_icmp .ne 10, 3) := by decide +kernel
theorem dX12_set_157 : decode cX12_set 157 = .ok (.aload_n 0, 1) := by decide +kernel
theorem dX12_set_158 : decode cX12_set 158 = .ok (.iconst 0, 1) := by decide +kernel
theorem dX12_set_159 : decode cX12_set 159 = .ok (.putfield 133, 3) := by decide +kernel
theorem dX12_set_162 : decode cX12_set 162 = .ok (.iconst 1, 1) := by decide +kernel
theorem dX12_set_163 : decode cX12_set 163 = .ok (.ireturn, 1) := by decide +kernel
theorem dX12_state_0 : decode cX12_state 0 = .ok (.aload_n 0, 1) := by decide +kernel
theorem dX12_state_1 : decode cX12_state 1 = .ok (.iconst 0, 1) := by decide +kernel
theorem dX12_state_2 : decode cX12_state 2 = .ok (.putfield 130, 3) := by decide +kernel
theorem dX12_state_5 : decode cX12_state 5 = .ok (.aload_n 0, 1) := by decide +kernel
theorem dX12_state_6 : decode cX12_state 6 = .ok (.getfield 7, 3) := by decide +kernel
theorem dX12_state_9 : decode cX12_state 9 = .ok (.iconst 1, 1) := by decide +kernel
theorem dX12_state_10 : decode cX12_state 10 = .ok (.iaload, 1) := by decide +kernel
theorem dX12_state_11 : decode cX12_state 11 = .ok (.istore_n 2, 1) := by decide +kernel
theorem dX12_state_12 : decode cX12_state 12 = .ok (.aload_n 0, 1) := by decide +kernel
theorem dX12_state_13 : decode cX12_state 13 = .ok (.getfield 7, 3) := by decide +kernel
theorem dX12_state_16 : decode cX12_state 16 = .ok (.iconst 1, 1) := by decide +kernel
theorem dX12_state_17 : decode cX12_state 17 = .ok (.iload_n 1, 1) := by decide +kernel
theorem dX12_state_18 : decode cX12_state 18 = .ok (.iastore, 1) := by decide +kernel
theorem dX12_state_19 : decode cX12_state 19 = .ok (.aload_n 0, 1) := by decide +kernel
theorem dX12_state_20 : decode cX12_state 20 = .ok (.iconst 0, 1) := by decide +kernel
theorem dX12_state_21 : decode cX12_state 21 = .ok (.putfield 133, 3) := by decide +kernel
theorem dX12_state_24 : decode cX12_state 24 = .ok (.iload_n 2, 1) := by decide +kernel
theorem dX12_state_25 : decode cX12_state 25 = .ok (.ireturn, 1) := by decide +kernel
theorem dX12_sure_0 : decode cX12_sure 0 = .ok (.aload_n 0, 1) := by decide +kernel
theorem dX12_sure_1 : decode cX12_sure 1 = .ok (.iconst 0, 1) := by decide +kernel
theorem dX12_sure_2 : decode cX12_sure 2 = .ok (.putfield 130, 3) := by decide +kernel
theorem dX12_sure_5 : decode cX12_sure 5 = .ok (.aload_n 0, 1) := by decide +kernel
theorem dX12_sure_6 : decode cX12_sure 6 = .ok (.iload_n 1, 1) := by decide +kernel
theorem dX12_sure_7 : decode cX12_sure 7 = .ok (.invokevirtual 155, 3) := by decide +kernel
theorem dX12_sure_10 : decode cX12_sure 10 = .ok (.ifCond .eq 32, 3) := by decide +kernel
theorem dX12_sure_42 : decode cX12_sure 42 = .ok (.iconst (-1), 1) := by decide +kernel
theorem dX12_sure_43 : decode cX12_sure 43 = .ok (.ireturn, 1) := by decide +kernel
theorem dX12_takesLaw_0 : decode cX12_takesLaw 0 = .ok (.iconst 0, 1) := by decide +kernel
theorem dX12_takesLaw_1 : decode cX12_takesLaw 1 = .ok (.istore_n 2, 1) := by decide +kernel
theorem dX12_takesLaw_2 : decode cX12_takesLaw 2 = .ok (.iload_n 2, 1) := by decide +kernel
theorem dX12_takesLaw_3 : decode cX12_takesLaw 3 = .ok (.iload_n 1, 1) := by decide +kernel
theorem dX12_takesLaw_4 : decode cX12_takesLaw 4 = .ok (.if_icmp .ge 78, 3) := by decide +kernel
theorem dX12_takesLaw_82 : decode cX12_takesLaw 82 = .ok (.iconst 0, 1) := by decide +kernel
theorem dX12_takesLaw_83 : decode cX12_takesLaw 83 = .ok (.istore_n 2, 1) := by decide +kernel
theorem dX12_takesLaw_84 : decode cX12_takesLaw 84 = .ok (.iload_n 2, 1) := by decide +kernel
theorem dX12_takesLaw_85 : decode cX12_takesLaw 85 = .ok (.aload_n 0, 1) := by decide +kernel
theorem dX12_takesLaw_86 : decode cX12_takesLaw 86 = .ok (.getfield 213, 3) := by decide +kernel
theorem dX12_takesLaw_89 : decode cX12_takesLaw 89 = .ok (.if_icmp .ge 59, 3) := by decide +kernel
theorem dX12_takesLaw_148 : decode cX12_takesLaw 148 = .ok (.aload_n 0, 1) := by decide +kernel
theorem dX12_takesLaw_149 : decode cX12_takesLaw 149 = .ok (.getfield 49, 3) := by decide +kernel
theorem dX12_takesLaw_152 : decode cX12_takesLaw 152 = .ok (.aload_n 0, 1) := by decide +kernel
theorem dX12_takesLaw_153 : decode cX12_takesLaw 153 = .ok (.getfield 216, 3) := by decide +kernel
theorem dX12_takesLaw_156 : decode cX12_takesLaw 156 = .ok (.iload_n 1, 1) := by decide +kernel
theorem dX12_takesLaw_157 : decode cX12_takesLaw 157 = .ok (.iastore, 1) := by decide +kernel
theorem dX12_takesLaw_158 : decode cX12_takesLaw 158 = .ok (.return_, 1) := by decide +kernel
theorem dX12_takesOther_0 : decode cX12_takesOther 0 = .ok (.iload_n 1, 1) := by decide +kernel
theorem dX12_takesOther_1 : decode cX12_takesOther 1 = .ok (.iconst 2, 1) := by decide +kernel
theorem dX12_takesOther_2 : decode cX12_takesOther 2 = .ok (.if_icmp .ne 39, 3) := by decide +kernel
theorem dX12_takesOther_5 : decode cX12_takesOther 5 = .ok (.iconst 0, 1) := by decide +kernel
theorem dX12_takesOther_6 : decode cX12_takesOther 6 = .ok (.istore_n 3, 1) := by decide +kernel
theorem dX12_takesOther_7 : decode cX12_takesOther 7 = .ok (.iload_n 3, 1) := by decide +kernel
theorem dX12_takesOther_8 : decode cX12_takesOther 8 = .ok (.iconst 4, 1) := by decide +kernel
theorem dX12_takesOther_9 : decode cX12_takesOther 9 = .ok (.iload_n 2, 1) := by decide +kernel
theorem dX12_takesOther_10 : decode cX12_takesOther 10 = .ok (.imul, 1) := by decide +kernel
theorem dX12_takesOther_11 : decode cX12_takesOther 11 = .ok (.if_icmp .ge 25, 3) := by decide +kernel
theorem dX12_takesOther_36 : decode cX12_takesOther 36 = .ok (.aload_n 0, 1) := by decide +kernel
theorem dX12_takesOther_37 : decode cX12_takesOther 37 = .ok (.iload_n 2, 1) := by decide +kernel
theorem dX12_takesOther_38 : decode cX12_takesOther 38 = .ok (.putfield 321, 3) := by decide +kernel
theorem dX12_takesOther_41 : decode cX12_takesOther 41 = .ok (.iload_n 1, 1) := by decide +kernel
theorem dX12_takesOther_42 : decode cX12_takesOther 42 = .ok (.iconst 3, 1) := by decide +kernel
theorem dX12_takesOther_43 : decode cX12_takesOther 43 = .ok (.if_icmp .ne 72, 3) := by decide +kernel
theorem dX12_takesOther_46 : decode cX12_takesOther 46 = .ok (.iconst 0, 1) := by decide +kernel
theorem dX12_takesOther_47 : decode cX12_takesOther 47 = .ok (.istore_n 3, 1) := by decide +kernel
theorem dX12_takesOther_48 : decode cX12_takesOther 48 = .ok (.iload_n 3, 1) := by decide +kernel
theorem dX12_takesOther_49 : decode cX12_takesOther 49 = .ok (.iconst 5, 1) := by decide +kernel
theorem dX12_takesOther_50 : decode cX12_takesOther 50 = .ok (.iload_n 2, 1) := by decide +kernel
theorem dX12_takesOther_51 : decode cX12_takesOther 51 = .ok (.imul, 1) := by decide +kernel
theorem dX12_takesOther_52 : decode cX12_takesOther 52 = .ok (.if_icmp .ge 24, 3) := by decide +kernel
theorem dX12_takesOther_76 : decode cX12_takesOther 76 = .ok (.aload_n 0, 1) := by decide +kernel
theorem dX12_takesOther_77 : decode cX12_takesOther 77 = .ok (.iload_n 2, 1) := by decide +kernel
theorem dX12_takesOther_78 : decode cX12_takesOther 78 = .ok (.putfield 324, 3) := by decide +kernel
theorem dX12_takesOther_81 : decode cX12_takesOther 81 = .ok (.iconst 0, 1) := by decide +kernel
theorem dX12_takesOther_82 : decode cX12_takesOther 82 = .ok (.istore_n 3, 1) := by decide +kernel
theorem dX12_takesOther_83 : decode cX12_takesOther 83 = .ok (.iload_n 3, 1) := by decide +kernel
theorem dX12_takesOther_84 : decode cX12_takesOther 84 = .ok (.bipush 10, 2) := by decide +kernel
theorem dX12_takesOther_86 : decode cX12_takesOther 86 = .ok (.if_icmp .ge 29, 3) := by decide +kernel
theorem dX12_takesOther_89 : decode cX12_takesOther 89 = .ok (.aload_n 0, 1) := by decide +kernel
theorem dX12_takesOther_90 : decode cX12_takesOther 90 = .ok (.getfield 7, 3) := by decide +kernel
theorem dX12_takesOther_93 : decode cX12_takesOther 93 = .ok (.bipush 46, 2) := by decide +kernel
theorem dX12_takesOther_95 : decode cX12_takesOther 95 = .ok (.iload_n 3, 1) := by decide +kernel
theorem dX12_takesOther_96 : decode cX12_takesOther 96 = .ok (.iadd, 1) := by decide +kernel
theorem dX12_takesOther_97 : decode cX12_takesOther 97 = .ok (.iconst 0, 1) := by decide +kernel
theorem dX12_takesOther_98 : decode cX12_takesOther 98 = .ok (.iastore, 1) := by decide +kernel
theorem dX12_takesOther_99 : decode cX12_takesOther 99 = .ok (.aload_n 0, 1) := by decide +kernel
theorem dX12_takesOther_100 : decode cX12_takesOther 100 = .ok (.getfield 7, 3) := by decide +kernel
theorem dX12_takesOther_103 : decode cX12_takesOther 103 = .ok (.bipush 56, 2) := by decide +kernel
theorem dX12_takesOther_105 : decode cX12_takesOther 105 = .ok (.iload_n 3, 1) := by decide +kernel
theorem dX12_takesOther_106 : decode cX12_takesOther 106 = .ok (.iadd, 1) := by decide +kernel
theorem dX12_takesOther_107 : decode cX12_takesOther 107 = .ok (.iconst 0, 1) := by decide +kernel
theorem dX12_takesOther_108 : decode cX12_takesOther 108 = .ok (.iastore, 1) := by decide +kernel
theorem dX12_takesOther_109 : decode cX12_takesOther 109 = .ok (.iinc 3 1, 3) := by decide +kernel
theorem dX12_takesOther_112 : decode cX12_takesOther 112 = .ok (.goto (-29), 3) := by decide +kernel
theorem dX12_takesOther_115 : decode cX12_takesOther 115 = .ok (.iload_n 1, 1) := by decide +kernel
theorem dX12_takesOther_116 : decode cX12_takesOther 116 = .ok (.iconst 4, 1) := by decide +kernel
theorem dX12_takesOther_117 : decode cX12_takesOther 117 = .ok (.if_icmp .ne 44, 3) := by decide +kernel
theorem dX12_takesOther_120 : decode cX12_takesOther 120 = .ok (.iconst 0, 1) := by decide +kernel
theorem dX12_takesOther_121 : decode cX12_takesOther 121 = .ok (.istore_n 3, 1) := by decide +kernel
theorem dX12_takesOther_122 : decode cX12_takesOther 122 = .ok (.iload_n 3, 1) := by decide +kernel
theorem dX12_takesOther_123 : decode cX12_takesOther 123 = .ok (.iload_n 2, 1) := by decide +kernel
theorem dX12_takesOther_124 : decode cX12_takesOther 124 = .ok (.if_icmp .ge 25, 3) := by decide +kernel
theorem dX12_takesOther_149 : decode cX12_takesOther 149 = .ok (.aload_n 0, 1) := by decide +kernel
theorem dX12_takesOther_150 : decode cX12_takesOther 150 = .ok (.iload_n 2, 1) := by decide +kernel
theorem dX12_takesOther_151 : decode cX12_takesOther 151 = .ok (.putfield 327, 3) := by decide +kernel
theorem dX12_takesOther_154 : decode cX12_takesOther 154 = .ok (.aload_n 0, 1) := by decide +kernel
theorem dX12_takesOther_155 : decode cX12_takesOther 155 = .ok (.getfield 7, 3) := by decide +kernel
theorem dX12_takesOther_158 : decode cX12_takesOther 158 = .ok (.iconst 5, 1) := by decide +kernel
theorem dX12_takesOther_159 : decode cX12_takesOther 159 = .ok (.iconst 0, 1) := by decide +kernel
theorem dX12_takesOther_160 : decode cX12_takesOther 160 = .ok (.iastore, 1) := by decide +kernel
theorem dX12_takesOther_161 : decode cX12_takesOther 161 = .ok (.aload_n 0, 1) := by decide +kernel
theorem dX12_takesOther_162 : decode cX12_takesOther 162 = .ok (.iconst 0, 1) := by decide +kernel
theorem dX12_takesOther_163 : decode cX12_takesOther 163 = .ok (.putfield 133, 3) := by decide +kernel
theorem dX12_takesOther_166 : decode cX12_takesOther 166 = .ok (.return_, 1) := by decide +kernel
theorem dX12_text_0 : decode cX12_text 0 = .ok (.aload_n 0, 1) := by decide +kernel
theorem dX12_text_1 : decode cX12_text 1 = .ok (.iconst 0, 1) := by decide +kernel
theorem dX12_text_2 : decode cX12_text 2 = .ok (.putfield 130, 3) := by decide +kernel
theorem dX12_text_5 : decode cX12_text 5 = .ok (.aload_n 0, 1) := by decide +kernel
theorem dX12_text_6 : decode cX12_text 6 = .ok (.iconst 0, 1) := by decide +kernel
theorem dX12_text_7 : decode cX12_text 7 = .ok (.putfield 330, 3) := by decide +kernel
theorem dX12_text_10 : decode cX12_text 10 = .ok (.aload_n 0, 1) := by decide +kernel
theorem dX12_text_11 : decode cX12_text 11 = .ok (.iconst (-1), 1) := by decide +kernel
theorem dX12_text_12 : decode cX12_text 12 = .ok (.putfield 70, 3) := by decide +kernel
theorem dX12_text_15 : decode cX12_text 15 = .ok (.aload_n 0, 1) := by decide +kernel
theorem dX12_text_16 : decode cX12_text 16 = .ok (.iconst 0, 1) := by decide +kernel
theorem dX12_text_17 : decode cX12_text 17 = .ok (.putfield 179, 3) := by decide +kernel
theorem dX12_text_20 : decode cX12_text 20 = .ok (.aload_n 0, 1) := by decide +kernel
theorem dX12_text_21 : decode cX12_text 21 = .ok (.iconst 0, 1) := by decide +kernel
theorem dX12_text_22 : decode cX12_text 22 = .ok (.putfield 213, 3) := by decide +kernel
theorem dX12_text_25 : decode cX12_text 25 = .ok (.aload_n 0, 1) := by decide +kernel
theorem dX12_text_26 : decode cX12_text 26 = .ok (.iconst 0, 1) := by decide +kernel
theorem dX12_text_27 : decode cX12_text 27 = .ok (.putfield 248, 3) := by decide +kernel
theorem dX12_text_30 : decode cX12_text 30 = .ok (.iconst (-1), 1) := by decide +kernel
theorem dX12_text_31 : decode cX12_text 31 = .ok (.istore_n 2, 1) := by decide +kernel
theorem dX12_text_32 : decode cX12_text 32 = .ok (.aload_n 0, 1) := by decide +kernel
theorem dX12_text_33 : decode cX12_text 33 = .ok (.iload_n 1, 1) := by decide +kernel
theorem dX12_text_34 : decode cX12_text 34 = .ok (.iconst 0, 1) := by decide +kernel
theorem dX12_text_35 : decode cX12_text 35 = .ok (.iconst 4, 1) := by decide +kernel
theorem dX12_text_36 : decode cX12_text 36 = .ok (.invokevirtual 151, 3) := by decide +kernel
theorem dX12_text_39 : decode cX12_text 39 = .ok (.ifCond .eq 30, 3) := by decide +kernel
theorem dX12_text_42 : decode cX12_text 42 = .ok (.aload_n 0, 1) := by decide +kernel
theorem dX12_text_43 : decode cX12_text 43 = .ok (.iload_n 1, 1) := by decide +kernel
theorem dX12_text_44 : decode cX12_text 44 = .ok (.invokevirtual 333, 3) := by decide +kernel
theorem dX12_text_47 : decode cX12_text 47 = .ok (.istore_n 2, 1) := by decide +kernel
theorem dX12_text_48 : decode cX12_text 48 = .ok (.iload_n 2, 1) := by decide +kernel
theorem dX12_text_49 : decode cX12_text 49 = .ok (.iconst (-1), 1) := by decide +kernel
theorem dX12_text_50 : decode cX12_text 50 = .ok (.if_icmp .ne 19, 3) := by decide +kernel
theorem dX12_text_69 : decode cX12_text 69 = .ok (.aload_n 0, 1) := by decide +kernel
theorem dX12_text_70 : decode cX12_text 70 = .ok (.iconst 0, 1) := by decide +kernel
theorem dX12_text_71 : decode cX12_text 71 = .ok (.putfield 172, 3) := by decide +kernel
theorem dX12_text_74 : decode cX12_text 74 = .ok (.iload_n 2, 1) := by decide +kernel
theorem dX12_text_75 : decode cX12_text 75 = .ok (.iconst (-1), 1) := by decide +kernel
theorem dX12_text_76 : decode cX12_text 76 = .ok (.if_icmp .ne 5, 3) := by decide +kernel
theorem dX12_text_79 : decode cX12_text 79 = .ok (.iconst (-1), 1) := by decide +kernel
theorem dX12_text_80 : decode cX12_text 80 = .ok (.ireturn, 1) := by decide +kernel
theorem dX12_text_81 : decode cX12_text 81 = .ok (.iload_n 1, 1) := by decide +kernel
theorem dX12_text_82 : decode cX12_text 82 = .ok (.iconst 1, 1) := by decide +kernel
theorem dX12_text_83 : decode cX12_text 83 = .ok (.if_icmp .gt 11, 3) := by decide +kernel
theorem dX12_text_86 : decode cX12_text 86 = .ok (.aload_n 0, 1) := by decide +kernel
theorem dX12_text_87 : decode cX12_text 87 = .ok (.iload_n 2, 1) := by decide +kernel
theorem dX12_text_88 : decode cX12_text 88 = .ok (.invokevirtual 336, 3) := by decide +kernel
theorem dX12_text_91 : decode cX12_text 91 = .ok (.goto 9, 3) := by decide +kernel
theorem dX12_text_94 : decode cX12_text 94 = .ok (.aload_n 0, 1) := by decide +kernel
theorem dX12_text_95 : decode cX12_text 95 = .ok (.iload_n 1, 1) := by decide +kernel
theorem dX12_text_96 : decode cX12_text 96 = .ok (.iload_n 2, 1) := by decide +kernel
theorem dX12_text_97 : decode cX12_text 97 = .ok (.invokevirtual 339, 3) := by decide +kernel
theorem dX12_text_100 : decode cX12_text 100 = .ok (.iload_n 2, 1) := by decide +kernel
theorem dX12_text_101 : decode cX12_text 101 = .ok (.ireturn, 1) := by decide +kernel
theorem dX12_types_0 : decode cX12_types 0 = .ok (.bipush 24, 2) := by decide +kernel
theorem dX12_types_2 : decode cX12_types 2 = .ok (.istore_n 2, 1) := by decide +kernel
theorem dX12_types_3 : decode cX12_types 3 = .ok (.iload_n 2, 1) := by decide +kernel
theorem dX12_types_4 : decode cX12_types 4 = .ok (.ifCond .lt 35, 3) := by decide +kernel
theorem dX12_types_7 : decode cX12_types 7 = .ok (.aload_n 0, 1) := by decide +kernel
theorem dX12_types_8 : decode cX12_types 8 = .ok (.getfield 43, 3) := by decide +kernel
theorem dX12_types_11 : decode cX12_types 11 = .ok (.aload_n 0, 1) := by decide +kernel
theorem dX12_types_12 : decode cX12_types 12 = .ok (.getfield 172, 3) := by decide +kernel
theorem dX12_types_15 : decode cX12_types 15 = .ok (.iload_n 1, 1) := by decide +kernel
theorem dX12_types_16 : decode cX12_types 16 = .ok (.iload_n 2, 1) := by decide +kernel
theorem dX12_types_17 : decode cX12_types 17 = .ok (.ishr, 1) := by decide +kernel
theorem dX12_types_18 : decode cX12_types 18 = .ok (.sipush 255, 3) := by decide +kernel
theorem dX12_types_21 : decode cX12_types 21 = .ok (.iand, 1) := by decide +kernel
theorem dX12_types_22 : decode cX12_types 22 = .ok (.iastore, 1) := by decide +kernel
theorem dX12_types_23 : decode cX12_types 23 = .ok (.aload_n 0, 1) := by decide +kernel
theorem dX12_types_24 : decode cX12_types 24 = .ok (.aload_n 0, 1) := by decide +kernel
theorem dX12_types_25 : decode cX12_types 25 = .ok (.getfield 172, 3) := by decide +kernel
theorem dX12_types_28 : decode cX12_types 28 = .ok (.iconst 1, 1) := by decide +kernel
theorem dX12_types_29 : decode cX12_types 29 = .ok (.iadd, 1) := by decide +kernel
theorem dX12_types_30 : decode cX12_types 30 = .ok (.putfield 172, 3) := by decide +kernel
theorem dX12_types_33 : decode cX12_types 33 = .ok (.iinc 2 (-8), 3) := by decide +kernel
theorem dX12_types_36 : decode cX12_types 36 = .ok (.goto (-33), 3) := by decide +kernel
theorem dX12_types_39 : decode cX12_types 39 = .ok (.return_, 1) := by decide +kernel
theorem dX12_undo_0 : decode cX12_undo 0 = .ok (.aload_n 0, 1) := by decide +kernel
theorem dX12_undo_1 : decode cX12_undo 1 = .ok (.iconst 0, 1) := by decide +kernel
theorem dX12_undo_2 : decode cX12_undo 2 = .ok (.putfield 130, 3) := by decide +kernel
theorem dX12_undo_5 : decode cX12_undo 5 = .ok (.aload_n 0, 1) := by decide +kernel
theorem dX12_undo_6 : decode cX12_undo 6 = .ok (.getfield 133, 3) := by decide +kernel
theorem dX12_undo_9 : decode cX12_undo 9 = .ok (.ifCond .ne 5, 3) := by decide +kernel
theorem dX12_undo_12 : decode cX12_undo 12 = .ok (.iconst 0, 1) := by decide +kernel
theorem dX12_undo_13 : decode cX12_undo 13 = .ok (.ireturn, 1) := by decide +kernel
theorem dX12_ways_0 : decode cX12_ways 0 = .ok (.aload_n 0, 1) := by decide +kernel
theorem dX12_ways_1 : decode cX12_ways 1 = .ok (.iconst 0, 1) := by decide +kernel
theorem dX12_ways_2 : decode cX12_ways 2 = .ok (.putfield 130, 3) := by decide +kernel
theorem dX12_ways_5 : decode cX12_ways 5 = .ok (.aload_n 0, 1) := by decide +kernel
theorem dX12_ways_6 : decode cX12_ways 6 = .ok (.iload_n 1, 1) := by decide +kernel
theorem dX12_ways_7 : decode cX12_ways 7 = .ok (.iconst 1, 1) := by decide +kernel
theorem dX12_ways_8 : decode cX12_ways 8 = .ok (.bipush 10, 2) := by decide +kernel
theorem dX12_ways_10 : decode cX12_ways 10 = .ok (.invokevirtual 151, 3) := by decide +kernel
theorem dX12_ways_13 : decode cX12_ways 13 = .ok (.ifCond .ne 7, 3) := by decide +kernel
theorem dX12_ways_16 : decode cX12_ways 16 = .ok (.ldc2_w 527, 3) := by decide +kernel
theorem dX12_ways_19 : decode cX12_ways 19 = .ok (.lreturn, 1) := by decide +kernel
theorem dX12_ways_20 : decode cX12_ways 20 = .ok (.aload_n 0, 1) := by decide +kernel
theorem dX12_ways_21 : decode cX12_ways 21 = .ok (.iload_n 1, 1) := by decide +kernel
theorem dX12_ways_22 : decode cX12_ways 22 = .ok (.invokevirtual 529, 3) := by decide +kernel
theorem dX12_ways_25 : decode cX12_ways 25 = .ok (.aload_n 0, 1) := by decide +kernel
theorem dX12_ways_26 : decode cX12_ways 26 = .ok (.iload_n 1, 1) := by decide +kernel
theorem dX12_ways_27 : decode cX12_ways 27 = .ok (.invokevirtual 532, 3) := by decide +kernel
theorem dX12_ways_30 : decode cX12_ways 30 = .ok (.lreturn, 1) := by decide +kernel
theorem dX2_init_0 : decode cX2_init 0 = .ok (.aload_n 0, 1) := by decide +kernel
theorem dX2_init_1 : decode cX2_init 1 = .ok (.invokespecial 3, 3) := by decide +kernel
theorem dX2_init_4 : decode cX2_init 4 = .ok (.aload_n 0, 1) := by decide +kernel
theorem dX2_init_5 : decode cX2_init 5 = .ok (.sipush 400, 3) := by decide +kernel
theorem dX2_init_8 : decode cX2_init 8 = .ok (.newarray .int, 2) := by decide +kernel
theorem dX2_init_10 : decode cX2_init 10 = .ok (.putfield 9, 3) := by decide +kernel
theorem dX2_init_13 : decode cX2_init 13 = .ok (.aload_n 0, 1) := by decide +kernel
theorem dX2_init_14 : decode cX2_init 14 = .ok (.bipush 33, 2) := by decide +kernel
theorem dX2_init_16 : decode cX2_init 16 = .ok (.newarray .int, 2) := by decide +kernel
theorem dX2_init_18 : decode cX2_init 18 = .ok (.putfield 15, 3) := by decide +kernel
theorem dX2_init_21 : decode cX2_init 21 = .ok (.aload_n 0, 1) := by decide +kernel
theorem dX2_init_22 : decode cX2_init 22 = .ok (.bipush 64, 2) := by decide +kernel
theorem dX2_init_24 : decode cX2_init 24 = .ok (.newarray .int, 2) := by decide +kernel
theorem dX2_init_26 : decode cX2_init 26 = .ok (.putfield 18, 3) := by decide +kernel
theorem dX2_init_29 : decode cX2_init 29 = .ok (.aload_n 0, 1) := by decide +kernel
theorem dX2_init_30 : decode cX2_init 30 = .ok (.bipush 64, 2) := by decide +kernel
theorem dX2_init_32 : decode cX2_init 32 = .ok (.newarray .int, 2) := by decide +kernel
theorem dX2_init_34 : decode cX2_init 34 = .ok (.putfield 21, 3) := by decide +kernel
theorem dX2_init_37 : decode cX2_init 37 = .ok (.return_, 1) := by decide +kernel
theorem dX2_read_0 : decode cX2_read 0 = .ok (.aload_n 0, 1) := by decide +kernel
theorem dX2_read_1 : decode cX2_read 1 = .ok (.iconst 0, 1) := by decide +kernel
theorem dX2_read_2 : decode cX2_read 2 = .ok (.putfield 34, 3) := by decide +kernel
theorem dX2_read_5 : decode cX2_read 5 = .ok (.aload_n 0, 1) := by decide +kernel
theorem dX2_read_6 : decode cX2_read 6 = .ok (.iconst 0, 1) := by decide +kernel
theorem dX2_read_7 : decode cX2_read 7 = .ok (.putfield 30, 3) := by decide +kernel
theorem dX2_read_10 : decode cX2_read 10 = .ok (.iconst 0, 1) := by decide +kernel
theorem dX2_read_11 : decode cX2_read 11 = .ok (.istore_n 2, 1) := by decide +kernel
theorem dX2_read_12 : decode cX2_read 12 = .ok (.iload_n 2, 1) := by decide +kernel
theorem dX2_read_13 : decode cX2_read 13 = .ok (.sipush 400, 3) := by decide +kernel
theorem dX2_read_16 : decode cX2_read 16 = .ok (.if_icmp .gt 133, 3) := by decide +kernel
theorem dX2_read_19 : decode cX2_read 19 = .ok (.aload_n 1, 1) := by decide +kernel
theorem dX2_read_20 : decode cX2_read 20 = .ok (.invokevirtual 37, 3) := by decide +kernel
theorem dX2_read_23 : decode cX2_read 23 = .ok (.ifCond .eq 126, 3) := by decide +kernel
theorem dX2_read_149 : decode cX2_read 149 = .ok (.return_, 1) := by decide +kernel
theorem dX2_take_0 : decode cX2_take 0 = .ok (.aload_n 1, 1) := by decide +kernel
theorem dX2_take_1 : decode cX2_take 1 = .ok (.getfield 9, 3) := by decide +kernel
theorem dX2_take_4 : decode cX2_take 4 = .ok (.iconst 0, 1) := by decide +kernel
theorem dX2_take_5 : decode cX2_take 5 = .ok (.aload_n 0, 1) := by decide +kernel
theorem dX2_take_6 : decode cX2_take 6 = .ok (.getfield 9, 3) := by decide +kernel
theorem dX2_take_9 : decode cX2_take 9 = .ok (.iconst 0, 1) := by decide +kernel
theorem dX2_take_10 : decode cX2_take 10 = .ok (.sipush 400, 3) := by decide +kernel
theorem dX2_take_13 : decode cX2_take 13 = .ok (.invokestatic 24, 3) := by decide +kernel
theorem dX2_take_16 : decode cX2_take 16 = .ok (.aload_n 1, 1) := by decide +kernel
theorem dX2_take_17 : decode cX2_take 17 = .ok (.getfield 15, 3) := by decide +kernel
theorem dX2_take_20 : decode cX2_take 20 = .ok (.iconst 0, 1) := by decide +kernel
theorem dX2_take_21 : decode cX2_take 21 = .ok (.aload_n 0, 1) := by decide +kernel
theorem dX2_take_22 : decode cX2_take 22 = .ok (.getfield 15, 3) := by decide +kernel
theorem dX2_take_25 : decode cX2_take 25 = .ok (.iconst 0, 1) := by decide +kernel
theorem dX2_take_26 : decode cX2_take 26 = .ok (.bipush 33, 2) := by decide +kernel
theorem dX2_take_28 : decode cX2_take 28 = .ok (.invokestatic 24, 3) := by decide +kernel
theorem dX2_take_31 : decode cX2_take 31 = .ok (.aload_n 0, 1) := by decide +kernel
theorem dX2_take_32 : decode cX2_take 32 = .ok (.aload_n 1, 1) := by decide +kernel
theorem dX2_take_33 : decode cX2_take 33 = .ok (.getfield 30, 3) := by decide +kernel
theorem dX2_take_36 : decode cX2_take 36 = .ok (.putfield 30, 3) := by decide +kernel
theorem dX2_take_39 : decode cX2_take 39 = .ok (.return_, 1) := by decide +kernel
theorem dX3_init_0 : decode cX3_init 0 = .ok (.aload_n 0, 1) := by decide +kernel
theorem dX3_init_1 : decode cX3_init 1 = .ok (.invokespecial 3, 3) := by decide +kernel
theorem dX3_init_4 : decode cX3_init 4 = .ok (.aload_n 0, 1) := by decide +kernel
theorem dX3_init_5 : decode cX3_init 5 = .ok (.bipush 10, 2) := by decide +kernel
theorem dX3_init_7 : decode cX3_init 7 = .ok (.newarray .int, 2) := by decide +kernel
theorem dX3_init_9 : decode cX3_init 9 = .ok (.putfield 9, 3) := by decide +kernel
theorem dX3_init_12 : decode cX3_init 12 = .ok (.aload_n 0, 1) := by decide +kernel
theorem dX3_init_13 : decode cX3_init 13 = .ok (.bipush 10, 2) := by decide +kernel
theorem dX3_init_15 : decode cX3_init 15 = .ok (.newarray .int, 2) := by decide +kernel
theorem dX3_init_17 : decode cX3_init 17 = .ok (.putfield 15, 3) := by decide +kernel
theorem dX3_init_20 : decode cX3_init 20 = .ok (.aload_n 0, 1) := by decide +kernel
theorem dX3_init_21 : decode cX3_init 21 = .ok (.bipush 10, 2) := by decide +kernel
theorem dX3_init_23 : decode cX3_init 23 = .ok (.newarray .int, 2) := by decide +kernel
theorem dX3_init_25 : decode cX3_init 25 = .ok (.putfield 18, 3) := by decide +kernel
theorem dX3_init_28 : decode cX3_init 28 = .ok (.aload_n 0, 1) := by decide +kernel
theorem dX3_init_29 : decode cX3_init 29 = .ok (.bipush 10, 2) := by decide +kernel
theorem dX3_init_31 : decode cX3_init 31 = .ok (.newarray .int, 2) := by decide +kernel
theorem dX3_init_33 : decode cX3_init 33 = .ok (.putfield 21, 3) := by decide +kernel
theorem dX3_init_36 : decode cX3_init 36 = .ok (.aload_n 0, 1) := by decide +kernel
theorem dX3_init_37 : decode cX3_init 37 = .ok (.bipush 10, 2) := by decide +kernel
theorem dX3_init_39 : decode cX3_init 39 = .ok (.newarray .int, 2) := by decide +kernel
theorem dX3_init_41 : decode cX3_init 41 = .ok (.putfield 24, 3) := by decide +kernel
theorem dX3_init_44 : decode cX3_init 44 = .ok (.return_, 1) := by decide +kernel
theorem dX3_read_0 : decode cX3_read 0 = .ok (.aload_n 0, 1) := by decide +kernel
theorem dX3_read_1 : decode cX3_read 1 = .ok (.iconst 0, 1) := by decide +kernel
theorem dX3_read_2 : decode cX3_read 2 = .ok (.putfield 33, 3) := by decide +kernel
theorem dX3_read_5 : decode cX3_read 5 = .ok (.iconst 0, 1) := by decide +kernel
theorem dX3_read_6 : decode cX3_read 6 = .ok (.istore_n 3, 1) := by decide +kernel
theorem dX3_read_7 : decode cX3_read 7 = .ok (.iload_n 3, 1) := by decide +kernel
theorem dX3_read_8 : decode cX3_read 8 = .ok (.sipush 400, 3) := by decide +kernel
theorem dX3_read_11 : decode cX3_read 11 = .ok (.if_icmp .gt 46, 3) := by decide +kernel
theorem dX3_read_14 : decode cX3_read 14 = .ok (.aload_n 1, 1) := by decide +kernel
theorem dX3_read_15 : decode cX3_read 15 = .ok (.invokevirtual 37, 3) := by decide +kernel
theorem dX3_read_18 : decode cX3_read 18 = .ok (.ifCond .eq 39, 3) := by decide +kernel
theorem dX3_read_57 : decode cX3_read 57 = .ok (.return_, 1) := by decide +kernel
theorem dX3_take_0 : decode cX3_take 0 = .ok (.aload_n 1, 1) := by decide +kernel
theorem dX3_take_1 : decode cX3_take 1 = .ok (.getfield 9, 3) := by decide +kernel
theorem dX3_take_4 : decode cX3_take 4 = .ok (.iconst 0, 1) := by decide +kernel
theorem dX3_take_5 : decode cX3_take 5 = .ok (.aload_n 0, 1) := by decide +kernel
theorem dX3_take_6 : decode cX3_take 6 = .ok (.getfield 9, 3) := by decide +kernel
theorem dX3_take_9 : decode cX3_take 9 = .ok (.iconst 0, 1) := by decide +kernel
theorem dX3_take_10 : decode cX3_take 10 = .ok (.bipush 10, 2) := by decide +kernel
theorem dX3_take_12 : decode cX3_take 12 = .ok (.invokestatic 27, 3) := by decide +kernel
theorem dX3_take_15 : decode cX3_take 15 = .ok (.aload_n 1, 1) := by decide +kernel
theorem dX3_take_16 : decode cX3_take 16 = .ok (.getfield 15, 3) := by decide +kernel
theorem dX3_take_19 : decode cX3_take 19 = .ok (.iconst 0, 1) := by decide +kernel
theorem dX3_take_20 : decode cX3_take 20 = .ok (.aload_n 0, 1) := by decide +kernel
theorem dX3_take_21 : decode cX3_take 21 = .ok (.getfield 15, 3) := by decide +kernel
theorem dX3_take_24 : decode cX3_take 24 = .ok (.iconst 0, 1) := by decide +kernel
theorem dX3_take_25 : decode cX3_take 25 = .ok (.bipush 10, 2) := by decide +kernel
theorem dX3_take_27 : decode cX3_take 27 = .ok (.invokestatic 27, 3) := by decide +kernel
theorem dX3_take_30 : decode cX3_take 30 = .ok (.aload_n 1, 1) := by decide +kernel
theorem dX3_take_31 : decode cX3_take 31 = .ok (.getfield 18, 3) := by decide +kernel
theorem dX3_take_34 : decode cX3_take 34 = .ok (.iconst 0, 1) := by decide +kernel
theorem dX3_take_35 : decode cX3_take 35 = .ok (.aload_n 0, 1) := by decide +kernel
theorem dX3_take_36 : decode cX3_take 36 = .ok (.getfield 18, 3) := by decide +kernel
theorem dX3_take_39 : decode cX3_take 39 = .ok (.iconst 0, 1) := by decide +kernel
theorem dX3_take_40 : decode cX3_take 40 = .ok (.bipush 10, 2) := by decide +kernel
theorem dX3_take_42 : decode cX3_take 42 = .ok (.invokestatic 27, 3) := by decide +kernel
theorem dX3_take_45 : decode cX3_take 45 = .ok (.aload_n 1, 1) := by decide +kernel
theorem dX3_take_46 : decode cX3_take 46 = .ok (.getfield 21, 3) := by decide +kernel
theorem dX3_take_49 : decode cX3_take 49 = .ok (.iconst 0, 1) := by decide +kernel
theorem dX3_take_50 : decode cX3_take 50 = .ok (.aload_n 0, 1) := by decide +kernel
theorem dX3_take_51 : decode cX3_take 51 = .ok (.getfield 21, 3) := by decide +kernel
theorem dX3_take_54 : decode cX3_take 54 = .ok (.iconst 0, 1) := by decide +kernel
theorem dX3_take_55 : decode cX3_take 55 = .ok (.bipush 10, 2) := by decide +kernel
theorem dX3_take_57 : decode cX3_take 57 = .ok (.invokestatic 27, 3) := by decide +kernel
theorem dX3_take_60 : decode cX3_take 60 = .ok (.aload_n 1, 1) := by decide +kernel
theorem dX3_take_61 : decode cX3_take 61 = .ok (.getfield 24, 3) := by decide +kernel
theorem dX3_take_64 : decode cX3_take 64 = .ok (.iconst 0, 1) := by decide +kernel
theorem dX3_take_65 : decode cX3_take 65 = .ok (.aload_n 0, 1) := by decide +kernel
theorem dX3_take_66 : decode cX3_take 66 = .ok (.getfield 24, 3) := by decide +kernel
theorem dX3_take_69 : decode cX3_take 69 = .ok (.iconst 0, 1) := by decide +kernel
theorem dX3_take_70 : decode cX3_take 70 = .ok (.bipush 10, 2) := by decide +kernel
theorem dX3_take_72 : decode cX3_take 72 = .ok (.invokestatic 27, 3) := by decide +kernel
theorem dX3_take_75 : decode cX3_take 75 = .ok (.aload_n 0, 1) := by decide +kernel
theorem dX3_take_76 : decode cX3_take 76 = .ok (.aload_n 1, 1) := by decide +kernel
theorem dX3_take_77 : decode cX3_take 77 = .ok (.getfield 33, 3) := by decide +kernel
theorem dX3_take_80 : decode cX3_take 80 = .ok (.putfield 33, 3) := by decide +kernel
theorem dX3_take_83 : decode cX3_take 83 = .ok (.return_, 1) := by decide +kernel
theorem dX4_forgetNeeds_0 : decode cX4_forgetNeeds 0 = .ok (.iconst 0, 1) := by decide +kernel
theorem dX4_forgetNeeds_1 : decode cX4_forgetNeeds 1 = .ok (.istore_n 1, 1) := by decide +kernel
theorem dX4_forgetNeeds_2 : decode cX4_forgetNeeds 2 = .ok (.iload_n 1, 1) := by decide +kernel
theorem dX4_forgetNeeds_3 : decode cX4_forgetNeeds 3 = .ok (.bipush 10, 2) := by decide +kernel
theorem dX4_forgetNeeds_5 : decode cX4_forgetNeeds 5 = .ok (.if_icmp .ge 16, 3) := by decide +kernel
theorem dX4_forgetNeeds_8 : decode cX4_forgetNeeds 8 = .ok (.aload_n 0, 1) := by decide +kernel
theorem dX4_forgetNeeds_9 : decode cX4_forgetNeeds 9 = .ok (.getfield 24, 3) := by decide +kernel
theorem dX4_forgetNeeds_12 : decode cX4_forgetNeeds 12 = .ok (.iload_n 1, 1) := by decide +kernel
theorem dX4_forgetNeeds_13 : decode cX4_forgetNeeds 13 = .ok (.iconst (-1), 1) := by decide +kernel
theorem dX4_forgetNeeds_14 : decode cX4_forgetNeeds 14 = .ok (.iastore, 1) := by decide +kernel
theorem dX4_forgetNeeds_15 : decode cX4_forgetNeeds 15 = .ok (.iinc 1 1, 3) := by decide +kernel
theorem dX4_forgetNeeds_18 : decode cX4_forgetNeeds 18 = .ok (.goto (-16), 3) := by decide +kernel
theorem dX4_forgetNeeds_21 : decode cX4_forgetNeeds 21 = .ok (.aload_n 0, 1) := by decide +kernel
theorem dX4_forgetNeeds_22 : decode cX4_forgetNeeds 22 = .ok (.iconst 0, 1) := by decide +kernel
theorem dX4_forgetNeeds_23 : decode cX4_forgetNeeds 23 = .ok (.putfield 37, 3) := by decide +kernel
theorem dX4_forgetNeeds_26 : decode cX4_forgetNeeds 26 = .ok (.return_, 1) := by decide +kernel
theorem dX4_init_0 : decode cX4_init 0 = .ok (.aload_n 0, 1) := by decide +kernel
theorem dX4_init_1 : decode cX4_init 1 = .ok (.invokespecial 3, 3) := by decide +kernel
theorem dX4_init_4 : decode cX4_init 4 = .ok (.aload_n 0, 1) := by decide +kernel
theorem dX4_init_5 : decode cX4_init 5 = .ok (.bipush 10, 2) := by decide +kernel
theorem dX4_init_7 : decode cX4_init 7 = .ok (.newarray .int, 2) := by decide +kernel
theorem dX4_init_9 : decode cX4_init 9 = .ok (.putfield 9, 3) := by decide +kernel
theorem dX4_init_12 : decode cX4_init 12 = .ok (.aload_n 0, 1) := by decide +kernel
theorem dX4_init_13 : decode cX4_init 13 = .ok (.bipush 10, 2) := by decide +kernel
theorem dX4_init_15 : decode cX4_init 15 = .ok (.newarray .int, 2) := by decide +kernel
theorem dX4_init_17 : decode cX4_init 17 = .ok (.putfield 15, 3) := by decide +kernel
theorem dX4_init_20 : decode cX4_init 20 = .ok (.aload_n 0, 1) := by decide +kernel
theorem dX4_init_21 : decode cX4_init 21 = .ok (.bipush 10, 2) := by decide +kernel
theorem dX4_init_23 : decode cX4_init 23 = .ok (.newarray .int, 2) := by decide +kernel
theorem dX4_init_25 : decode cX4_init 25 = .ok (.putfield 18, 3) := by decide +kernel
theorem dX4_init_28 : decode cX4_init 28 = .ok (.aload_n 0, 1) := by decide +kernel
theorem dX4_init_29 : decode cX4_init 29 = .ok (.bipush 10, 2) := by decide +kernel
theorem dX4_init_31 : decode cX4_init 31 = .ok (.newarray .int, 2) := by decide +kernel
theorem dX4_init_33 : decode cX4_init 33 = .ok (.putfield 21, 3) := by decide +kernel
theorem dX4_init_36 : decode cX4_init 36 = .ok (.aload_n 0, 1) := by decide +kernel
theorem dX4_init_37 : decode cX4_init 37 = .ok (.bipush 10, 2) := by decide +kernel
theorem dX4_init_39 : decode cX4_init 39 = .ok (.newarray .int, 2) := by decide +kernel
theorem dX4_init_41 : decode cX4_init 41 = .ok (.putfield 24, 3) := by decide +kernel
theorem dX4_init_44 : decode cX4_init 44 = .ok (.aload_n 0, 1) := by decide +kernel
theorem dX4_init_45 : decode cX4_init 45 = .ok (.iconst (-1), 1) := by decide +kernel
theorem dX4_init_46 : decode cX4_init 46 = .ok (.putfield 27, 3) := by decide +kernel
theorem dX4_init_49 : decode cX4_init 49 = .ok (.iconst 0, 1) := by decide +kernel
theorem dX4_init_50 : decode cX4_init 50 = .ok (.istore_n 1, 1) := by decide +kernel
theorem dX4_init_51 : decode cX4_init 51 = .ok (.iload_n 1, 1) := by decide +kernel
theorem dX4_init_52 : decode cX4_init 52 = .ok (.bipush 10, 2) := by decide +kernel
theorem dX4_init_54 : decode cX4_init 54 = .ok (.if_icmp .ge 16, 3) := by decide +kernel
theorem dX4_init_57 : decode cX4_init 57 = .ok (.aload_n 0, 1) := by decide +kernel
theorem dX4_init_58 : decode cX4_init 58 = .ok (.getfield 21, 3) := by decide +kernel
theorem dX4_init_61 : decode cX4_init 61 = .ok (.iload_n 1, 1) := by decide +kernel
theorem dX4_init_62 : decode cX4_init 62 = .ok (.iconst (-1), 1) := by decide +kernel
theorem dX4_init_63 : decode cX4_init 63 = .ok (.iastore, 1) := by decide +kernel
theorem dX4_init_64 : decode cX4_init 64 = .ok (.iinc 1 1, 3) := by decide +kernel
theorem dX4_init_67 : decode cX4_init 67 = .ok (.goto (-16), 3) := by decide +kernel
theorem dX4_init_70 : decode cX4_init 70 = .ok (.iconst 0, 1) := by decide +kernel
theorem dX4_init_71 : decode cX4_init 71 = .ok (.istore_n 1, 1) := by decide +kernel
theorem dX4_init_72 : decode cX4_init 72 = .ok (.iload_n 1, 1) := by decide +kernel
theorem dX4_init_73 : decode cX4_init 73 = .ok (.bipush 10, 2) := by decide +kernel
theorem dX4_init_75 : decode cX4_init 75 = .ok (.if_icmp .ge 16, 3) := by decide +kernel
theorem dX4_init_78 : decode cX4_init 78 = .ok (.aload_n 0, 1) := by decide +kernel
theorem dX4_init_79 : decode cX4_init 79 = .ok (.getfield 24, 3) := by decide +kernel
theorem dX4_init_82 : decode cX4_init 82 = .ok (.iload_n 1, 1) := by decide +kernel
theorem dX4_init_83 : decode cX4_init 83 = .ok (.iconst (-1), 1) := by decide +kernel
theorem dX4_init_84 : decode cX4_init 84 = .ok (.iastore, 1) := by decide +kernel
theorem dX4_init_85 : decode cX4_init 85 = .ok (.iinc 1 1, 3) := by decide +kernel
theorem dX4_init_88 : decode cX4_init 88 = .ok (.goto (-16), 3) := by decide +kernel
theorem dX4_init_91 : decode cX4_init 91 = .ok (.return_, 1) := by decide +kernel
theorem dX4_take_0 : decode cX4_take 0 = .ok (.aload_n 1, 1) := by decide +kernel
theorem dX4_take_1 : decode cX4_take 1 = .ok (.getfield 9, 3) := by decide +kernel
theorem dX4_take_4 : decode cX4_take 4 = .ok (.iconst 0, 1) := by decide +kernel
theorem dX4_take_5 : decode cX4_take 5 = .ok (.aload_n 0, 1) := by decide +kernel
theorem dX4_take_6 : decode cX4_take 6 = .ok (.getfield 9, 3) := by decide +kernel
theorem dX4_take_9 : decode cX4_take 9 = .ok (.iconst 0, 1) := by decide +kernel
theorem dX4_take_10 : decode cX4_take 10 = .ok (.bipush 10, 2) := by decide +kernel
theorem dX4_take_12 : decode cX4_take 12 = .ok (.invokestatic 31, 3) := by decide +kernel
theorem dX4_take_15 : decode cX4_take 15 = .ok (.aload_n 1, 1) := by decide +kernel
theorem dX4_take_16 : decode cX4_take 16 = .ok (.getfield 15, 3) := by decide +kernel
theorem dX4_take_19 : decode cX4_take 19 = .ok (.iconst 0, 1) := by decide +kernel
theorem dX4_take_20 : decode cX4_take 20 = .ok (.aload_n 0, 1) := by decide +kernel
theorem dX4_take_21 : decode cX4_take 21 = .ok (.getfield 15, 3) := by decide +kernel
theorem dX4_take_24 : decode cX4_take 24 = .ok (.iconst 0, 1) := by decide +kernel
theorem dX4_take_25 : decode cX4_take 25 = .ok (.bipush 10, 2) := by decide +kernel
theorem dX4_take_27 : decode cX4_take 27 = .ok (.invokestatic 31, 3) := by decide +kernel
theorem dX4_take_30 : decode cX4_take 30 = .ok (.aload_n 1, 1) := by decide +kernel
theorem dX4_take_31 : decode cX4_take 31 = .ok (.getfield 18, 3) := by decide +kernel
theorem dX4_take_34 : decode cX4_take 34 = .ok (.iconst 0, 1) := by decide +kernel
theorem dX4_take_35 : decode cX4_take 35 = .ok (.aload_n 0, 1) := by decide +kernel
theorem dX4_take_36 : decode cX4_take 36 = .ok (.getfield 18, 3) := by decide +kernel
theorem dX4_take_39 : decode cX4_take 39 = .ok (.iconst 0, 1) := by decide +kernel
theorem dX4_take_40 : decode cX4_take 40 = .ok (.bipush 10, 2) := by decide +kernel
theorem dX4_take_42 : decode cX4_take 42 = .ok (.invokestatic 31, 3) := by decide +kernel
theorem dX4_take_45 : decode cX4_take 45 = .ok (.aload_n 1, 1) := by decide +kernel
theorem dX4_take_46 : decode cX4_take 46 = .ok (.getfield 21, 3) := by decide +kernel
theorem dX4_take_49 : decode cX4_take 49 = .ok (.iconst 0, 1) := by decide +kernel
theorem dX4_take_50 : decode cX4_take 50 = .ok (.aload_n 0, 1) := by decide +kernel
theorem dX4_take_51 : decode cX4_take 51 = .ok (.getfield 21, 3) := by decide +kernel
theorem dX4_take_54 : decode cX4_take 54 = .ok (.iconst 0, 1) := by decide +kernel
theorem dX4_take_55 : decode cX4_take 55 = .ok (.bipush 10, 2) := by decide +kernel
theorem dX4_take_57 : decode cX4_take 57 = .ok (.invokestatic 31, 3) := by decide +kernel
theorem dX4_take_60 : decode cX4_take 60 = .ok (.aload_n 1, 1) := by decide +kernel
theorem dX4_take_61 : decode cX4_take 61 = .ok (.getfield 24, 3) := by decide +kernel
theorem dX4_take_64 : decode cX4_take 64 = .ok (.iconst 0, 1) := by decide +kernel
theorem dX4_take_65 : decode cX4_take 65 = .ok (.aload_n 0, 1) := by decide +kernel
theorem dX4_take_66 : decode cX4_take 66 = .ok (.getfield 24, 3) := by decide +kernel
theorem dX4_take_69 : decode cX4_take 69 = .ok (.iconst 0, 1) := by decide +kernel
theorem dX4_take_70 : decode cX4_take 70 = .ok (.bipush 10, 2) := by decide +kernel
theorem dX4_take_72 : decode cX4_take 72 = .ok (.invokestatic 31, 3) := by decide +kernel
theorem dX4_take_75 : decode cX4_take 75 = .ok (.aload_n 0, 1) := by decide +kernel
theorem dX4_take_76 : decode cX4_take 76 = .ok (.aload_n 1, 1) := by decide +kernel
theorem dX4_take_77 : decode cX4_take 77 = .ok (.getfield 37, 3) := by decide +kernel
theorem dX4_take_80 : decode cX4_take 80 = .ok (.putfield 37, 3) := by decide +kernel
theorem dX4_take_83 : decode cX4_take 83 = .ok (.aload_n 0, 1) := by decide +kernel
theorem dX4_take_84 : decode cX4_take 84 = .ok (.aload_n 1, 1) := by decide +kernel
theorem dX4_take_85 : decode cX4_take 85 = .ok (.getfield 27, 3) := by decide +kernel
theorem dX4_take_88 : decode cX4_take 88 = .ok (.putfield 27, 3) := by decide +kernel
theorem dX4_take_91 : decode cX4_take 91 = .ok (.aload_n 0, 1) := by decide +kernel
theorem dX4_take_92 : decode cX4_take 92 = .ok (.aload_n 1, 1) := by decide +kernel
theorem dX4_take_93 : decode cX4_take 93 = .ok (.getfield 40, 3) := by decide +kernel
theorem dX4_take_96 : decode cX4_take 96 = .ok (.putfield 40, 3) := by decide +kernel
theorem dX4_take_99 : decode cX4_take 99 = .ok (.aload_n 0, 1) := by decide +kernel
theorem dX4_take_100 : decode cX4_take 100 = .ok (.aload_n 1, 1) := by decide +kernel
theorem dX4_take_101 : decode cX4_take 101 = .ok (.getfield 43, 3) := by decide +kernel
theorem dX4_take_104 : decode cX4_take 104 = .ok (.putfield 43, 3) := by decide +kernel
theorem dX4_take_107 : decode cX4_take 107 = .ok (.aload_n 0, 1) := by decide +kernel
theorem dX4_take_108 : decode cX4_take 108 = .ok (.aload_n 1, 1) := by decide +kernel
theorem dX4_take_109 : decode cX4_take 109 = .ok (.getfield 46, 3) := by decide +kernel
theorem dX4_take_112 : decode cX4_take 112 = .ok (.putfield 46, 3) := by decide +kernel
theorem dX4_take_115 : decode cX4_take 115 = .ok (.aload_n 0, 1) := by decide +kernel
theorem dX4_take_116 : decode cX4_take 116 = .ok (.aload_n 1, 1) := by decide +kernel
theorem dX4_take_117 : decode cX4_take 117 = .ok (.getfield 49, 3) := by decide +kernel
theorem dX4_take_120 : decode cX4_take 120 = .ok (.putfield 49, 3) := by decide +kernel
theorem dX4_take_123 : decode cX4_take 123 = .ok (.aload_n 0, 1) := by decide +kernel
theorem dX4_take_124 : decode cX4_take 124 = .ok (.aload_n 1, 1) := by decide +kernel
theorem dX4_take_125 : decode cX4_take 125 = .ok (.getfield 52, 3) := by decide +kernel
theorem dX4_take_128 : decode cX4_take 128 = .ok (.putfield 52, 3) := by decide +kernel
theorem dX4_take_131 : decode cX4_take 131 = .ok (.return_, 1) := by decide +kernel
theorem dX5_init_0 : decode cX5_init 0 = .ok (.aload_n 0, 1) := by decide +kernel
theorem dX5_init_1 : decode cX5_init 1 = .ok (.invokespecial 3, 3) := by decide +kernel
theorem dX5_init_4 : decode cX5_init 4 = .ok (.aload_n 0, 1) := by decide +kernel
theorem dX5_init_5 : decode cX5_init 5 = .ok (.bipush 40, 2) := by decide +kernel
theorem dX5_init_7 : decode cX5_init 7 = .ok (.newarray .int, 2) := by decide +kernel
theorem dX5_init_9 : decode cX5_init 9 = .ok (.putfield 9, 3) := by decide +kernel
theorem dX5_init_12 : decode cX5_init 12 = .ok (.aload_n 0, 1) := by decide +kernel
theorem dX5_init_13 : decode cX5_init 13 = .ok (.bipush 40, 2) := by decide +kernel
theorem dX5_init_15 : decode cX5_init 15 = .ok (.newarray .int, 2) := by decide +kernel
theorem dX5_init_17 : decode cX5_init 17 = .ok (.putfield 15, 3) := by decide +kernel
theorem dX5_init_20 : decode cX5_init 20 = .ok (.aload_n 0, 1) := by decide +kernel
theorem dX5_init_21 : decode cX5_init 21 = .ok (.bipush 40, 2) := by decide +kernel
theorem dX5_init_23 : decode cX5_init 23 = .ok (.newarray .int, 2) := by decide +kernel
theorem dX5_init_25 : decode cX5_init 25 = .ok (.putfield 18, 3) := by decide +kernel
theorem dX5_init_28 : decode cX5_init 28 = .ok (.aload_n 0, 1) := by decide +kernel
theorem dX5_init_29 : decode cX5_init 29 = .ok (.bipush 40, 2) := by decide +kernel
theorem dX5_init_31 : decode cX5_init 31 = .ok (.newarray .int, 2) := by decide +kernel
theorem dX5_init_33 : decode cX5_init 33 = .ok (.putfield 21, 3) := by decide +kernel
theorem dX5_init_36 : decode cX5_init 36 = .ok (.aload_n 0, 1) := by decide +kernel
theorem dX5_init_37 : decode cX5_init 37 = .ok (.bipush 100, 2) := by decide +kernel
theorem dX5_init_39 : decode cX5_init 39 = .ok (.newarray .int, 2) := by decide +kernel
theorem dX5_init_41 : decode cX5_init 41 = .ok (.putfield 24, 3) := by decide +kernel
theorem dX5_init_44 : decode cX5_init 44 = .ok (.aload_n 0, 1) := by decide +kernel
theorem dX5_init_45 : decode cX5_init 45 = .ok (.bipush 10, 2) := by decide +kernel
theorem dX5_init_47 : decode cX5_init 47 = .ok (.newarray .int, 2) := by decide +kernel
theorem dX5_init_49 : decode cX5_init 49 = .ok (.putfield 27, 3) := by decide +kernel
theorem dX5_init_52 : decode cX5_init 52 = .ok (.iconst 0, 1) := by decide +kernel
theorem dX5_init_53 : decode cX5_init 53 = .ok (.istore_n 1, 1) := by decide +kernel
theorem dX5_init_54 : decode cX5_init 54 = .ok (.iload_n 1, 1) := by decide +kernel
theorem dX5_init_55 : decode cX5_init 55 = .ok (.bipush 10, 2) := by decide +kernel
theorem dX5_init_57 : decode cX5_init 57 = .ok (.if_icmp .ge 16, 3) := by decide +kernel
theorem dX5_init_60 : decode cX5_init 60 = .ok (.aload_n 0, 1) := by decide +kernel
theorem dX5_init_61 : decode cX5_init 61 = .ok (.getfield 27, 3) := by decide +kernel
theorem dX5_init_64 : decode cX5_init 64 = .ok (.iload_n 1, 1) := by decide +kernel
theorem dX5_init_65 : decode cX5_init 65 = .ok (.iconst (-1), 1) := by decide +kernel
theorem dX5_init_66 : decode cX5_init 66 = .ok (.iastore, 1) := by decide +kernel
theorem dX5_init_67 : decode cX5_init 67 = .ok (.iinc 1 1, 3) := by decide +kernel
theorem dX5_init_70 : decode cX5_init 70 = .ok (.goto (-16), 3) := by decide +kernel
theorem dX5_init_73 : decode cX5_init 73 = .ok (.return_, 1) := by decide +kernel
theorem dX5_read_0 : decode cX5_read 0 = .ok (.aload_n 0, 1) := by decide +kernel
theorem dX5_read_1 : decode cX5_read 1 = .ok (.iconst 0, 1) := by decide +kernel
theorem dX5_read_2 : decode cX5_read 2 = .ok (.putfield 36, 3) := by decide +kernel
theorem dX5_read_5 : decode cX5_read 5 = .ok (.iconst 0, 1) := by decide +kernel
theorem dX5_read_6 : decode cX5_read 6 = .ok (.istore_n 3, 1) := by decide +kernel
theorem dX5_read_7 : decode cX5_read 7 = .ok (.iload_n 3, 1) := by decide +kernel
theorem dX5_read_8 : decode cX5_read 8 = .ok (.sipush 400, 3) := by decide +kernel
theorem dX5_read_11 : decode cX5_read 11 = .ok (.if_icmp .gt 46, 3) := by decide +kernel
theorem dX5_read_14 : decode cX5_read 14 = .ok (.aload_n 1, 1) := by decide +kernel
theorem dX5_read_15 : decode cX5_read 15 = .ok (.invokevirtual 40, 3) := by decide +kernel
theorem dX5_read_18 : decode cX5_read 18 = .ok (.ifCond .eq 39, 3) := by decide +kernel
theorem dX5_read_57 : decode cX5_read 57 = .ok (.return_, 1) := by decide +kernel
theorem dX5_take_0 : decode cX5_take 0 = .ok (.aload_n 1, 1) := by decide +kernel
theorem dX5_take_1 : decode cX5_take 1 = .ok (.getfield 9, 3) := by decide +kernel
theorem dX5_take_4 : decode cX5_take 4 = .ok (.iconst 0, 1) := by decide +kernel
theorem dX5_take_5 : decode cX5_take 5 = .ok (.aload_n 0, 1) := by decide +kernel
theorem dX5_take_6 : decode cX5_take 6 = .ok (.getfield 9, 3) := by decide +kernel
theorem dX5_take_9 : decode cX5_take 9 = .ok (.iconst 0, 1) := by decide +kernel
theorem dX5_take_10 : decode cX5_take 10 = .ok (.bipush 40, 2) := by decide +kernel
theorem dX5_take_12 : decode cX5_take 12 = .ok (.invokestatic 30, 3) := by decide +kernel
theorem dX5_take_15 : decode cX5_take 15 = .ok (.aload_n 1, 1) := by decide +kernel
theorem dX5_take_16 : decode cX5_take 16 = .ok (.getfield 15, 3) := by decide +kernel
theorem dX5_take_19 : decode cX5_take 19 = .ok (.iconst 0, 1) := by decide +kernel
theorem dX5_take_20 : decode cX5_take 20 = .ok (.aload_n 0, 1) := by decide +kernel
theorem dX5_take_21 : decode cX5_take 21 = .ok (.getfield 15, 3) := by decide +kernel
theorem dX5_take_24 : decode cX5_take 24 = .ok (.iconst 0, 1) := by decide +kernel
theorem dX5_take_25 : decode cX5_take 25 = .ok (.bipush 40, 2) := by decide +kernel
theorem dX5_take_27 : decode cX5_take 27 = .ok (.invokestatic 30, 3) := by decide +kernel
theorem dX5_take_30 : decode cX5_take 30 = .ok (.aload_n 1, 1) := by decide +kernel
theorem dX5_take_31 : decode cX5_take 31 = .ok (.getfield 18, 3) := by decide +kernel
theorem dX5_take_34 : decode cX5_take 34 = .ok (.iconst 0, 1) := by decide +kernel
theorem dX5_take_35 : decode cX5_take 35 = .ok (.aload_n 0, 1) := by decide +kernel
theorem dX5_take_36 : decode cX5_take 36 = .ok (.getfield 18, 3) := by decide +kernel
theorem dX5_take_39 : decode cX5_take 39 = .ok (.iconst 0, 1) := by decide +kernel
theorem dX5_take_40 : decode cX5_take 40 = .ok (.bipush 40, 2) := by decide +kernel
theorem dX5_take_42 : decode cX5_take 42 = .ok (.invokestatic 30, 3) := by decide +kernel
theorem dX5_take_45 : decode cX5_take 45 = .ok (.aload_n 1, 1) := by decide +kernel
theorem dX5_take_46 : decode cX5_take 46 = .ok (.getfield 21, 3) := by decide +kernel
theorem dX5_take_49 : decode cX5_take 49 = .ok (.iconst 0, 1) := by decide +kernel
theorem dX5_take_50 : decode cX5_take 50 = .ok (.aload_n 0, 1) := by decide +kernel
theorem dX5_take_51 : decode cX5_take 51 = .ok (.getfield 21, 3) := by decide +kernel
theorem dX5_take_54 : decode cX5_take 54 = .ok (.iconst 0, 1) := by decide +kernel
theorem dX5_take_55 : decode cX5_take 55 = .ok (.bipush 40, 2) := by decide +kernel
theorem dX5_take_57 : decode cX5_take 57 = .ok (.invokestatic 30, 3) := by decide +kernel
theorem dX5_take_60 : decode cX5_take 60 = .ok (.aload_n 0, 1) := by decide +kernel
theorem dX5_take_61 : decode cX5_take 61 = .ok (.aload_n 1, 1) := by decide +kernel
theorem dX5_take_62 : decode cX5_take 62 = .ok (.getfield 36, 3) := by decide +kernel
theorem dX5_take_65 : decode cX5_take 65 = .ok (.putfield 36, 3) := by decide +kernel
theorem dX5_take_68 : decode cX5_take 68 = .ok (.iconst 0, 1) := by decide +kernel
theorem dX5_take_69 : decode cX5_take 69 = .ok (.istore_n 2, 1) := by decide +kernel
theorem dX5_take_70 : decode cX5_take 70 = .ok (.iload_n 2, 1) := by decide +kernel
theorem dX5_take_71 : decode cX5_take 71 = .ok (.bipush 10, 2) := by decide +kernel
theorem dX5_take_73 : decode cX5_take 73 = .ok (.if_icmp .ge 16, 3) := by decide +kernel
theorem dX5_take_76 : decode cX5_take 76 = .ok (.aload_n 0, 1) := by decide +kernel
theorem dX5_take_77 : decode cX5_take 77 = .ok (.getfield 27, 3) := by decide +kernel
theorem dX5_take_80 : decode cX5_take 80 = .ok (.iload_n 2, 1) := by decide +kernel
theorem dX5_take_81 : decode cX5_take 81 = .ok (.iconst (-1), 1) := by decide +kernel
theorem dX5_take_82 : decode cX5_take 82 = .ok (.iastore, 1) := by decide +kernel
theorem dX5_take_83 : decode cX5_take 83 = .ok (.iinc 2 1, 3) := by decide +kernel
theorem dX5_take_86 : decode cX5_take 86 = .ok (.goto (-16), 3) := by decide +kernel
theorem dX5_take_89 : decode cX5_take 89 = .ok (.return_, 1) := by decide +kernel
theorem dX7_init_0 : decode cX7_init 0 = .ok (.aload_n 0, 1) := by decide +kernel
theorem dX7_init_1 : decode cX7_init 1 = .ok (.invokespecial 3, 3) := by decide +kernel
theorem dX7_init_4 : decode cX7_init 4 = .ok (.aload_n 0, 1) := by decide +kernel
theorem dX7_init_5 : decode cX7_init 5 = .ok (.sipush 200, 3) := by decide +kernel
theorem dX7_init_8 : decode cX7_init 8 = .ok (.newarray .int, 2) := by decide +kernel
theorem dX7_init_10 : decode cX7_init 10 = .ok (.putfield 9, 3) := by decide +kernel
theorem dX7_init_13 : decode cX7_init 13 = .ok (.aload_n 0, 1) := by decide +kernel
theorem dX7_init_14 : decode cX7_init 14 = .ok (.iconst 4, 1) := by decide +kernel
theorem dX7_init_15 : decode cX7_init 15 = .ok (.newarray .int, 2) := by decide +kernel
theorem dX7_init_17 : decode cX7_init 17 = .ok (.putfield 15, 3) := by decide +kernel
theorem dX7_init_20 : decode cX7_init 20 = .ok (.aload_n 0, 1) := by decide +kernel
theorem dX7_init_21 : decode cX7_init 21 = .ok (.iconst 4, 1) := by decide +kernel
theorem dX7_init_22 : decode cX7_init 22 = .ok (.newarray .int, 2) := by decide +kernel
theorem dX7_init_24 : decode cX7_init 24 = .ok (.putfield 18, 3) := by decide +kernel
theorem dX7_init_27 : decode cX7_init 27 = .ok (.return_, 1) := by decide +kernel
theorem dX7_read_0 : decode cX7_read 0 = .ok (.aload_n 0, 1) := by decide +kernel
theorem dX7_read_1 : decode cX7_read 1 = .ok (.iconst 0, 1) := by decide +kernel
theorem dX7_read_2 : decode cX7_read 2 = .ok (.putfield 27, 3) := by decide +kernel
theorem dX7_read_5 : decode cX7_read 5 = .ok (.aload_n 0, 1) := by decide +kernel
theorem dX7_read_6 : decode cX7_read 6 = .ok (.iconst 0, 1) := by decide +kernel
theorem dX7_read_7 : decode cX7_read 7 = .ok (.putfield 31, 3) := by decide +kernel
theorem dX7_read_10 : decode cX7_read 10 = .ok (.iconst 0, 1) := by decide +kernel
theorem dX7_read_11 : decode cX7_read 11 = .ok (.istore_n 3, 1) := by decide +kernel
theorem dX7_read_12 : decode cX7_read 12 = .ok (.iload_n 3, 1) := by decide +kernel
theorem dX7_read_13 : decode cX7_read 13 = .ok (.sipush 400, 3) := by decide +kernel
theorem dX7_read_16 : decode cX7_read 16 = .ok (.if_icmp .gt 145, 3) := by decide +kernel
theorem dX7_read_19 : decode cX7_read 19 = .ok (.aload_n 1, 1) := by decide +kernel
theorem dX7_read_20 : decode cX7_read 20 = .ok (.invokevirtual 34, 3) := by decide +kernel
theorem dX7_read_23 : decode cX7_read 23 = .ok (.ifCond .eq 138, 3) := by decide +kernel
theorem dX7_read_161 : decode cX7_read 161 = .ok (.aload_n 0, 1) := by decide +kernel
theorem dX7_read_162 : decode cX7_read 162 = .ok (.getfield 31, 3) := by decide +kernel
theorem dX7_read_165 : decode cX7_read 165 = .ok (.ifCond .le 8, 3) := by decide +kernel
theorem dX7_read_173 : decode cX7_read 173 = .ok (.aload_n 0, 1) := by decide +kernel
theorem dX7_read_174 : decode cX7_read 174 = .ok (.getfield 27, 3) := by decide +kernel
theorem dX7_read_177 : decode cX7_read 177 = .ok (.sipush 200, 3) := by decide +kernel
theorem dX7_read_180 : decode cX7_read 180 = .ok (.if_icmp .le 8, 3) := by decide +kernel
theorem dX7_read_188 : decode cX7_read 188 = .ok (.return_, 1) := by decide +kernel
theorem dX7_take_0 : decode cX7_take 0 = .ok (.aload_n 1, 1) := by decide +kernel
theorem dX7_take_1 : decode cX7_take 1 = .ok (.getfield 9, 3) := by decide +kernel
theorem dX7_take_4 : decode cX7_take 4 = .ok (.iconst 0, 1) := by decide +kernel
theorem dX7_take_5 : decode cX7_take 5 = .ok (.aload_n 0, 1) := by decide +kernel
theorem dX7_take_6 : decode cX7_take 6 = .ok (.getfield 9, 3) := by decide +kernel
theorem dX7_take_9 : decode cX7_take 9 = .ok (.iconst 0, 1) := by decide +kernel
theorem dX7_take_10 : decode cX7_take 10 = .ok (.sipush 200, 3) := by decide +kernel
theorem dX7_take_13 : decode cX7_take 13 = .ok (.invokestatic 21, 3) := by decide +kernel
theorem dX7_take_16 : decode cX7_take 16 = .ok (.aload_n 0, 1) := by decide +kernel
theorem dX7_take_17 : decode cX7_take 17 = .ok (.aload_n 1, 1) := by decide +kernel
theorem dX7_take_18 : decode cX7_take 18 = .ok (.getfield 27, 3) := by decide +kernel
theorem dX7_take_21 : decode cX7_take 21 = .ok (.putfield 27, 3) := by decide +kernel
theorem dX7_take_24 : decode cX7_take 24 = .ok (.return_, 1) := by decide +kernel
theorem dX8_append_0 : decode cX8_append 0 = .ok (.bipush 24, 2) := by decide +kernel
theorem dX8_append_2 : decode cX8_append 2 = .ok (.istore_n 2, 1) := by decide +kernel
theorem dX8_append_3 : decode cX8_append 3 = .ok (.iload_n 2, 1) := by decide +kernel
theorem dX8_append_4 : decode cX8_append 4 = .ok (.ifCond .lt 45, 3) := by decide +kernel
theorem dX8_append_7 : decode cX8_append 7 = .ok (.aload_n 0, 1) := by decide +kernel
theorem dX8_append_8 : decode cX8_append 8 = .ok (.getfield 25, 3) := by decide +kernel
theorem dX8_append_11 : decode cX8_append 11 = .ok (.sipush 400, 3) := by decide +kernel
theorem dX8_append_14 : decode cX8_append 14 = .ok (.if_icmp .ge 29, 3) := by decide +kernel
theorem dX8_append_17 : decode cX8_append 17 = .ok (.aload_n 0, 1) := by decide +kernel
theorem dX8_append_18 : decode cX8_append 18 = .ok (.getfield 9, 3) := by decide +kernel
theorem dX8_append_21 : decode cX8_append 21 = .ok (.aload_n 0, 1) := by decide +kernel
theorem dX8_append_22 : decode cX8_append 22 = .ok (.getfield 25, 3) := by decide +kernel
theorem dX8_append_25 : decode cX8_append 25 = .ok (.iload_n 1, 1) := by decide +kernel
theorem dX8_append_26 : decode cX8_append 26 = .ok (.iload_n 2, 1) := by decide +kernel
theorem dX8_append_27 : decode cX8_append 27 = .ok (.iushr, 1) := by decide +kernel
theorem dX8_append_28 : decode cX8_append 28 = .ok (.sipush 255, 3) := by decide +kernel
theorem dX8_append_31 : decode cX8_append 31 = .ok (.iand, 1) := by decide +kernel
theorem dX8_append_32 : decode cX8_append 32 = .ok (.iastore, 1) := by decide +kernel
theorem dX8_append_33 : decode cX8_append 33 = .ok (.aload_n 0, 1) := by decide +kernel
theorem dX8_append_34 : decode cX8_append 34 = .ok (.dup, 1) := by decide +kernel
theorem dX8_append_35 : decode cX8_append 35 = .ok (.getfield 25, 3) := by decide +kernel
theorem dX8_append_38 : decode cX8_append 38 = .ok (.iconst 1, 1) := by decide +kernel
theorem dX8_append_39 : decode cX8_append 39 = .ok (.iadd, 1) := by decide +kernel
theorem dX8_append_40 : decode cX8_append 40 = .ok (.putfield 25, 3) := by decide +kernel
theorem dX8_append_43 : decode cX8_append 43 = .ok (.iinc 2 (-8), 3) := by decide +kernel
theorem dX8_append_46 : decode cX8_append 46 = .ok (.goto (-43), 3) := by decide +kernel
theorem dX8_append_49 : decode cX8_append 49 = .ok (.return_, 1) := by decide +kernel
theorem dX8_goesOn_0 : decode cX8_goesOn 0 = .ok (.aload_n 0, 1) := by decide +kernel
theorem dX8_goesOn_1 : decode cX8_goesOn 1 = .ok (.getfield 32, 3) := by decide +kernel
theorem dX8_goesOn_4 : decode cX8_goesOn 4 = .ok (.ifCond .ne 14, 3) := by decide +kernel
theorem dX8_goesOn_7 : decode cX8_goesOn 7 = .ok (.aload_n 0, 1) := by decide +kernel
theorem dX8_goesOn_8 : decode cX8_goesOn 8 = .ok (.getfield 51, 3) := by decide +kernel
theorem dX8_goesOn_11 : decode cX8_goesOn 11 = .ok (.ifCond .eq 7, 3) := by decide +kernel
theorem dX8_goesOn_18 : decode cX8_goesOn 18 = .ok (.iconst 0, 1) := by decide +kernel
theorem dX8_goesOn_19 : decode cX8_goesOn 19 = .ok (.ireturn, 1) := by decide +kernel
theorem dX8_init_0 : decode cX8_init 0 = .ok (.aload_n 0, 1) := by decide +kernel
theorem dX8_init_1 : decode cX8_init 1 = .ok (.invokespecial 3, 3) := by decide +kernel
theorem dX8_init_4 : decode cX8_init 4 = .ok (.aload_n 0, 1) := by decide +kernel
theorem dX8_init_5 : decode cX8_init 5 = .ok (.sipush 400, 3) := by decide +kernel
theorem dX8_init_8 : decode cX8_init 8 = .ok (.newarray .int, 2) := by decide +kernel
theorem dX8_init_10 : decode cX8_init 10 = .ok (.putfield 9, 3) := by decide +kernel
theorem dX8_init_13 : decode cX8_init 13 = .ok (.aload_n 0, 1) := by decide +kernel
theorem dX8_init_14 : decode cX8_init 14 = .ok (.ldc 15, 2) := by decide +kernel
theorem dX8_init_16 : decode cX8_init 16 = .ok (.putfield 17, 3) := by decide +kernel
theorem dX8_init_19 : decode cX8_init 19 = .ok (.aload_n 0, 1) := by decide +kernel
theorem dX8_init_20 : decode cX8_init 20 = .ok (.iconst (-1), 1) := by decide +kernel
theorem dX8_init_21 : decode cX8_init 21 = .ok (.putfield 21, 3) := by decide +kernel
theorem dX8_init_24 : decode cX8_init 24 = .ok (.return_, 1) := by decide +kernel
theorem dX8_open_0 : decode cX8_open 0 = .ok (.aload_n 0, 1) := by decide +kernel
theorem dX8_open_1 : decode cX8_open 1 = .ok (.iload_n 1, 1) := by decide +kernel
theorem dX8_open_2 : decode cX8_open 2 = .ok (.invokestatic 28, 3) := by decide +kernel
theorem dX8_open_5 : decode cX8_open 5 = .ok (.putfield 17, 3) := by decide +kernel
theorem dX8_open_8 : decode cX8_open 8 = .ok (.aload_n 0, 1) := by decide +kernel
theorem dX8_open_9 : decode cX8_open 9 = .ok (.iconst 0, 1) := by decide +kernel
theorem dX8_open_10 : decode cX8_open 10 = .ok (.putfield 32, 3) := by decide +kernel
theorem dX8_open_13 : decode cX8_open 13 = .ok (.aload_n 0, 1) := by decide +kernel
theorem dX8_open_14 : decode cX8_open 14 = .ok (.iconst (-1), 1) := by decide +kernel
theorem dX8_open_15 : decode cX8_open 15 = .ok (.putfield 21, 3) := by decide +kernel
theorem dX8_open_18 : decode cX8_open 18 = .ok (.aload_n 0, 1) := by decide +kernel
theorem dX8_open_19 : decode cX8_open 19 = .ok (.iconst 0, 1) := by decide +kernel
theorem dX8_open_20 : decode cX8_open 20 = .ok (.putfield 35, 3) := by decide +kernel
theorem dX8_open_23 : decode cX8_open 23 = .ok (.aload_n 0, 1) := by decide +kernel
theorem dX8_open_24 : decode cX8_open 24 = .ok (.invokevirtual 38, 3) := by decide +kernel
theorem dX8_open_27 : decode cX8_open 27 = .ok (.return_, 1) := by decide +kernel
theorem dX8_step_0 : decode cX8_step 0 = .ok (.aload_n 0, 1) := by decide +kernel
theorem dX8_step_1 : decode cX8_step 1 = .ok (.getfield 32, 3) := by decide +kernel
theorem dX8_step_4 : decode cX8_step 4 = .ok (.ifCond .eq 4, 3) := by decide +kernel
theorem dX8_step_8 : decode cX8_step 8 = .ok (.aload_n 0, 1) := by decide +kernel
theorem dX8_step_9 : decode cX8_step 9 = .ok (.getfield 35, 3) := by decide +kernel
theorem dX8_step_12 : decode cX8_step 12 = .ok (.aload_n 0, 1) := by decide +kernel
theorem dX8_step_13 : decode cX8_step 13 = .ok (.getfield 25, 3) := by decide +kernel
theorem dX8_step_16 : decode cX8_step 16 = .ok (.if_icmp .ge 44, 3) := by decide +kernel
theorem dX8_step_60 : decode cX8_step 60 = .ok (.aload_n 0, 1) := by decide +kernel
theorem dX8_step_61 : decode cX8_step 61 = .ok (.aload_n 0, 1) := by decide +kernel
theorem dX8_step_62 : decode cX8_step 62 = .ok (.getfield 35, 3) := by decide +kernel
theorem dX8_step_65 : decode cX8_step 65 = .ok (.putfield 54, 3) := by decide +kernel
theorem dX8_step_68 : decode cX8_step 68 = .ok (.aload_n 0, 1) := by decide +kernel
theorem dX8_step_69 : decode cX8_step 69 = .ok (.getfield 35, 3) := by decide +kernel
theorem dX8_step_72 : decode cX8_step 72 = .ok (.aload_n 0, 1) := by decide +kernel
theorem dX8_step_73 : decode cX8_step 73 = .ok (.getfield 25, 3) := by decide +kernel
theorem dX8_step_76 : decode cX8_step 76 = .ok (.if_icmp .lt 11, 3) := by decide +kernel
theorem dX8_step_79 : decode cX8_step 79 = .ok (.aload_n 0, 1) := by decide +kernel
theorem dX8_step_80 : decode cX8_step 80 = .ok (.iconst 0, 1) := by decide +kernel
theorem dX8_step_81 : decode cX8_step 81 = .ok (.putfield 51, 3) := by decide +kernel
theorem dX8_step_84 : decode cX8_step 84 = .ok (.goto 150, 3) := by decide +kernel
theorem dX8_step_234 : decode cX8_step 234 = .ok (.return_, 1) := by decide +kernel
theorem dX8_wordsOf_0 : decode cX8_wordsOf 0 = .ok (.iload_n 0, 1) := by decide +kernel
theorem dX8_wordsOf_1 : decode cX8_wordsOf 1 = .ok (.tableswitch 50 0 4 #[35, 38, 41, 44, 47], 35) := by decide +kernel
theorem dX8_wordsOf_36 : decode cX8_wordsOf 36 = .ok (.ldc 41, 2) := by decide +kernel
theorem dX8_wordsOf_38 : decode cX8_wordsOf 38 = .ok (.areturn, 1) := by decide +kernel
theorem dX8_wordsOf_39 : decode cX8_wordsOf 39 = .ok (.ldc 43, 2) := by decide +kernel
theorem dX8_wordsOf_41 : decode cX8_wordsOf 41 = .ok (.areturn, 1) := by decide +kernel
theorem dX8_wordsOf_42 : decode cX8_wordsOf 42 = .ok (.ldc 45, 2) := by decide +kernel
theorem dX8_wordsOf_44 : decode cX8_wordsOf 44 = .ok (.areturn, 1) := by decide +kernel
theorem dX8_wordsOf_45 : decode cX8_wordsOf 45 = .ok (.ldc 47, 2) := by decide +kernel
theorem dX8_wordsOf_47 : decode cX8_wordsOf 47 = .ok (.areturn, 1) := by decide +kernel
theorem dX8_wordsOf_48 : decode cX8_wordsOf 48 = .ok (.ldc 49, 2) := by decide +kernel
theorem dX8_wordsOf_50 : decode cX8_wordsOf 50 = .ok (.areturn, 1) := by decide +kernel
theorem dX8_wordsOf_51 : decode cX8_wordsOf 51 = .ok (.ldc 15, 2) := by decide +kernel
theorem dX8_wordsOf_53 : decode cX8_wordsOf 53 = .ok (.areturn, 1) := by decide +kernel
theorem dX9_fill_0 : decode cX9_fill 0 = .ok (.iconst 0, 1) := by decide +kernel
theorem dX9_fill_1 : decode cX9_fill 1 = .ok (.istore 6, 2) := by decide +kernel
theorem dX9_fill_3 : decode cX9_fill 3 = .ok (.iload 6, 2) := by decide +kernel
theorem dX9_fill_5 : decode cX9_fill 5 = .ok (.iload 5, 2) := by decide +kernel
theorem dX9_fill_7 : decode cX9_fill 7 = .ok (.if_icmp .ge 98, 3) := by decide +kernel
theorem dX9_fill_105 : decode cX9_fill 105 = .ok (.return_, 1) := by decide +kernel
theorem dX9_follow_0 : decode cX9_follow 0 = .ok (.aload_n 1, 1) := by decide +kernel
theorem dX9_follow_1 : decode cX9_follow 1 = .ok (.getfield 22, 3) := by decide +kernel
theorem dX9_follow_4 : decode cX9_follow 4 = .ok (.getfield 28, 3) := by decide +kernel
theorem dX9_follow_7 : decode cX9_follow 7 = .ok (.istore_n 3, 1) := by decide +kernel
theorem dX9_follow_8 : decode cX9_follow 8 = .ok (.iconst 0, 1) := by decide +kernel
theorem dX9_follow_9 : decode cX9_follow 9 = .ok (.istore 4, 2) := by decide +kernel
theorem dX9_follow_11 : decode cX9_follow 11 = .ok (.iload 4, 2) := by decide +kernel
theorem dX9_follow_13 : decode cX9_follow 13 = .ok (.iload_n 3, 1) := by decide +kernel
theorem dX9_follow_14 : decode cX9_follow 14 = .ok (.if_icmp .ge 22, 3) := by decide +kernel
theorem dX9_follow_36 : decode cX9_follow 36 = .ok (.iconst 0, 1) := by decide +kernel
theorem dX9_follow_37 : decode cX9_follow 37 = .ok (.istore 4, 2) := by decide +kernel
theorem dX9_follow_39 : decode cX9_follow 39 = .ok (.iload 4, 2) := by decide +kernel
theorem dX9_follow_41 : decode cX9_follow 41 = .ok (.iload_n 2, 1) := by decide +kernel
theorem dX9_follow_42 : decode cX9_follow 42 = .ok (.if_icmp .ge 44, 3) := by decide +kernel
theorem dX9_follow_45 : decode cX9_follow 45 = .ok (.aload_n 1, 1) := by decide +kernel
theorem dX9_follow_46 : decode cX9_follow 46 = .ok (.getfield 38, 3) := by decide +kernel
theorem dX9_follow_49 : decode cX9_follow 49 = .ok (.iload 4, 2) := by decide +kernel
theorem dX9_follow_51 : decode cX9_follow 51 = .ok (.aload_n 1, 1) := by decide +kernel
theorem dX9_follow_52 : decode cX9_follow 52 = .ok (.getfield 22, 3) := by decide +kernel
theorem dX9_follow_55 : decode cX9_follow 55 = .ok (.invokevirtual 42, 3) := by decide +kernel
theorem dX9_follow_58 : decode cX9_follow 58 = .ok (.invokevirtual 46, 3) := by decide +kernel
theorem dX9_follow_61 : decode cX9_follow 61 = .ok (.istore 5, 2) := by decide +kernel
theorem dX9_follow_63 : decode cX9_follow 63 = .ok (.aload_n 0, 1) := by decide +kernel
theorem dX9_follow_64 : decode cX9_follow 64 = .ok (.aload_n 0, 1) := by decide +kernel
theorem dX9_follow_65 : decode cX9_follow 65 = .ok (.getfield 9, 3) := by decide +kernel
theorem dX9_follow_68 : decode cX9_follow 68 = .ok (.iload 4, 2) := by decide +kernel
theorem dX9_follow_70 : decode cX9_follow 70 = .ok (.iload 4, 2) := by decide +kernel
theorem dX9_follow_72 : decode cX9_follow 72 = .ok (.iconst 1, 1) := by decide +kernel
theorem dX9_follow_73 : decode cX9_follow 73 = .ok (.isub, 1) := by decide +kernel
theorem dX9_follow_74 : decode cX9_follow 74 = .ok (.iload 5, 2) := by decide +kernel
theorem dX9_follow_76 : decode cX9_follow 76 = .ok (.iload_n 3, 1) := by decide +kernel
theorem dX9_follow_77 : decode cX9_follow 77 = .ok (.invokevirtual 52, 3) := by decide +kernel
theorem dX9_follow_80 : decode cX9_follow 80 = .ok (.iinc 4 1, 3) := by decide +kernel
theorem dX9_follow_83 : decode cX9_follow 83 = .ok (.goto (-44), 3) := by decide +kernel
theorem dX9_follow_86 : decode cX9_follow 86 = .ok (.iload_n 2, 1) := by decide +kernel
theorem dX9_follow_87 : decode cX9_follow 87 = .ok (.iconst 1, 1) := by decide +kernel
theorem dX9_follow_88 : decode cX9_follow 88 = .ok (.isub, 1) := by decide +kernel
theorem dX9_follow_89 : decode cX9_follow 89 = .ok (.istore 4, 2) := by decide +kernel
theorem dX9_follow_91 : decode cX9_follow 91 = .ok (.iload 4, 2) := by decide +kernel
theorem dX9_follow_93 : decode cX9_follow 93 = .ok (.ifCond .lt 56, 3) := by decide +kernel
theorem dX9_follow_96 : decode cX9_follow 96 = .ok (.aload_n 1, 1) := by decide +kernel
theorem dX9_follow_97 : decode cX9_follow 97 = .ok (.getfield 38, 3) := by decide +kernel
theorem dX9_follow_100 : decode cX9_follow 100 = .ok (.iload 4, 2) := by decide +kernel
theorem dX9_follow_102 : decode cX9_follow 102 = .ok (.aload_n 1, 1) := by decide +kernel
theorem dX9_follow_103 : decode cX9_follow 103 = .ok (.getfield 22, 3) := by decide +kernel
theorem dX9_follow_106 : decode cX9_follow 106 = .ok (.invokevirtual 42, 3) := by decide +kernel
theorem dX9_follow_109 : decode cX9_follow 109 = .ok (.invokevirtual 46, 3) := by decide +kernel
theorem dX9_follow_112 : decode cX9_follow 112 = .ok (.istore 5, 2) := by decide +kernel
theorem dX9_follow_114 : decode cX9_follow 114 = .ok (.aload_n 0, 1) := by decide +kernel
theorem dX9_follow_115 : decode cX9_follow 115 = .ok (.aload_n 0, 1) := by decide +kernel
theorem dX9_follow_116 : decode cX9_follow 116 = .ok (.getfield 15, 3) := by decide +kernel
theorem dX9_follow_119 : decode cX9_follow 119 = .ok (.iload 4, 2) := by decide +kernel
theorem dX9_follow_121 : decode cX9_follow 121 = .ok (.iload 4, 2) := by decide +kernel
theorem dX9_follow_123 : decode cX9_follow 123 = .ok (.iconst 1, 1) := by decide +kernel
theorem dX9_follow_124 : decode cX9_follow 124 = .ok (.iadd, 1) := by decide +kernel
theorem dX9_follow_125 : decode cX9_follow 125 = .ok (.iload_n 2, 1) := by decide +kernel
theorem dX9_follow_126 : decode cX9_follow 126 = .ok (.if_icmp .ge 10, 3) := by decide +kernel
theorem dX9_follow_129 : decode cX9_follow 129 = .ok (.iload 4, 2) := by decide +kernel
theorem dX9_follow_131 : decode cX9_follow 131 = .ok (.iconst 1, 1) := by decide +kernel
theorem dX9_follow_132 : decode cX9_follow 132 = .ok (.iadd, 1) := by decide +kernel
theorem dX9_follow_133 : decode cX9_follow 133 = .ok (.goto 4, 3) := by decide +kernel
theorem dX9_follow_136 : decode cX9_follow 136 = .ok (.iconst (-1), 1) := by decide +kernel
theorem dX9_follow_137 : decode cX9_follow 137 = .ok (.iload 5, 2) := by decide +kernel
theorem dX9_follow_139 : decode cX9_follow 139 = .ok (.iload_n 3, 1) := by decide +kernel
theorem dX9_follow_140 : decode cX9_follow 140 = .ok (.invokevirtual 52, 3) := by decide +kernel
theorem dX9_follow_143 : decode cX9_follow 143 = .ok (.iinc 4 (-1), 3) := by decide +kernel
theorem dX9_follow_146 : decode cX9_follow 146 = .ok (.goto (-55), 3) := by decide +kernel
theorem dX9_follow_149 : decode cX9_follow 149 = .ok (.lconst 0, 1) := by decide +kernel
theorem dX9_follow_150 : decode cX9_follow 150 = .ok (.lstore 4, 2) := by decide +kernel
theorem dX9_follow_152 : decode cX9_follow 152 = .ok (.iconst 0, 1) := by decide +kernel
theorem dX9_follow_153 : decode cX9_follow 153 = .ok (.istore 6, 2) := by decide +kernel
theorem dX9_follow_155 : decode cX9_follow 155 = .ok (.iload 6, 2) := by decide +kernel
theorem dX9_follow_157 : decode cX9_follow 157 = .ok (.iload_n 3, 1) := by decide +kernel
theorem dX9_follow_158 : decode cX9_follow 158 = .ok (.if_icmp .ge 21, 3) := by decide +kernel
theorem dX9_follow_179 : decode cX9_follow 179 = .ok (.lload 4, 2) := by decide +kernel
theorem dX9_follow_181 : decode cX9_follow 181 = .ok (.lreturn, 1) := by decide +kernel
theorem dX9_init_0 : decode cX9_init 0 = .ok (.aload_n 0, 1) := by decide +kernel
theorem dX9_init_1 : decode cX9_init 1 = .ok (.invokespecial 3, 3) := by decide +kernel
theorem dX9_init_4 : decode cX9_init 4 = .ok (.aload_n 0, 1) := by decide +kernel
theorem dX9_init_5 : decode cX9_init 5 = .ok (.bipush 100, 2) := by decide +kernel
theorem dX9_init_7 : decode cX9_init 7 = .ok (.newarray .long, 2) := by decide +kernel
theorem dX9_init_9 : decode cX9_init 9 = .ok (.putfield 9, 3) := by decide +kernel
theorem dX9_init_12 : decode cX9_init 12 = .ok (.aload_n 0, 1) := by decide +kernel
theorem dX9_init_13 : decode cX9_init 13 = .ok (.bipush 100, 2) := by decide +kernel
theorem dX9_init_15 : decode cX9_init 15 = .ok (.newarray .long, 2) := by decide +kernel
theorem dX9_init_17 : decode cX9_init 17 = .ok (.putfield 15, 3) := by decide +kernel
theorem dX9_init_20 : decode cX9_init 20 = .ok (.aload_n 0, 1) := by decide +kernel
theorem dX9_init_21 : decode cX9_init 21 = .ok (.bipush 10, 2) := by decide +kernel
theorem dX9_init_23 : decode cX9_init 23 = .ok (.newarray .int, 2) := by decide +kernel
theorem dX9_init_25 : decode cX9_init 25 = .ok (.putfield 18, 3) := by decide +kernel
theorem dX9_init_28 : decode cX9_init 28 = .ok (.return_, 1) := by decide +kernel
