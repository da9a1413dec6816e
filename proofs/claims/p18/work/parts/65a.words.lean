def nB_cJ0_charAt_5068e : Nat := 0xacf201b81b0900b42aacef01b81b0900b42a0c0099ec01b62a
theorem hB_cJ0_charAt_5068e : dnB cJ0_charAt_5068e 25 nB_cJ0_charAt_5068e := (by decide +kernel : cJ0_charAt_5068e.data.toList = (List.range 25).map (fun i => UInt8.ofNat (nB_cJ0_charAt_5068e / 256 ^ i % 256)))
theorem dJ0_charAt_5068e_0 : decode cJ0_charAt_5068e 0 = .ok (.aload_n 0, 1) := dn_aload_n_0 hB_cJ0_charAt_5068e (by decide +kernel)
theorem dJ0_charAt_5068e_1 : decode cJ0_charAt_5068e 1 = .ok (.invokevirtual 492, 3) := dn_invokevirtual hB_cJ0_charAt_5068e (by decide +kernel)
theorem dJ0_charAt_5068e_4 : decode cJ0_charAt_5068e 4 = .ok (.ifCond .eq 12, 3) := dn_ifCond_eq hB_cJ0_charAt_5068e (by decide +kernel)
theorem dJ0_charAt_5068e_7 : decode cJ0_charAt_5068e 7 = .ok (.aload_n 0, 1) := dn_aload_n_0 hB_cJ0_charAt_5068e (by decide +kernel)
theorem dJ0_charAt_5068e_8 : decode cJ0_charAt_5068e 8 = .ok (.getfield 9, 3) := dn_getfield hB_cJ0_charAt_5068e (by decide +kernel)
theorem dJ0_charAt_5068e_11 : decode cJ0_charAt_5068e 11 = .ok (.iload_n 1, 1) := dn_iload_n_1 hB_cJ0_charAt_5068e (by decide +kernel)
theorem dJ0_charAt_5068e_12 : decode cJ0_charAt_5068e 12 = .ok (.invokestatic 495, 3) := dn_invokestatic hB_cJ0_charAt_5068e (by decide +kernel)
theorem dJ0_charAt_5068e_15 : decode cJ0_charAt_5068e 15 = .ok (.ireturn, 1) := dn_ireturn hB_cJ0_charAt_5068e (by decide +kernel)
def nB_cJ0_checkIndex_df160 : Nat := 0xb1572304b81d04b21b1a
theorem hB_cJ0_checkIndex_df160 : dnB cJ0_checkIndex_df160 10 nB_cJ0_checkIndex_df160 := (by decide +kernel : cJ0_checkIndex_df160.data.toList = (List.range 10).map (fun i => UInt8.ofNat (nB_cJ0_checkIndex_df160 / 256 ^ i % 256)))
theorem dJ0_checkIndex_df160_0 : decode cJ0_checkIndex_df160 0 = .ok (.iload_n 0, 1) := dn_iload_n_0 hB_cJ0_checkIndex_df160 (by decide +kernel)
theorem dJ0_checkIndex_df160_1 : decode cJ0_checkIndex_df160 1 = .ok (.iload_n 1, 1) := dn_iload_n_1 hB_cJ0_checkIndex_df160 (by decide +kernel)
theorem dJ0_checkIndex_df160_2 : decode cJ0_checkIndex_df160 2 = .ok (.getstatic 1053, 3) := dn_getstatic hB_cJ0_checkIndex_df160 (by decide +kernel)
theorem dJ0_checkIndex_df160_5 : decode cJ0_checkIndex_df160 5 = .ok (.invokestatic 1059, 3) := dn_invokestatic hB_cJ0_checkIndex_df160 (by decide +kernel)
theorem dJ0_checkIndex_df160_8 : decode cJ0_checkIndex_df160 8 = .ok (.pop, 1) := dn_pop hB_cJ0_checkIndex_df160 (by decide +kernel)
theorem dJ0_checkIndex_df160_9 : decode cJ0_checkIndex_df160 9 = .ok (.return_, 1) := dn_return_ hB_cJ0_checkIndex_df160 (by decide +kernel)
def nB_cJ0_coder_7d493 : Nat := 0xac040400a70f00b42a0a00992600b2
theorem hB_cJ0_coder_7d493 : dnB cJ0_coder_7d493 15 nB_cJ0_coder_7d493 := (by decide +kernel : cJ0_coder_7d493.data.toList = (List.range 15).map (fun i => UInt8.ofNat (nB_cJ0_coder_7d493 / 256 ^ i % 256)))
theorem dJ0_coder_7d493_0 : decode cJ0_coder_7d493 0 = .ok (.getstatic 38, 3) := dn_getstatic hB_cJ0_coder_7d493 (by decide +kernel)
theorem dJ0_coder_7d493_3 : decode cJ0_coder_7d493 3 = .ok (.ifCond .eq 10, 3) := dn_ifCond_eq hB_cJ0_coder_7d493 (by decide +kernel)
theorem dJ0_coder_7d493_6 : decode cJ0_coder_7d493 6 = .ok (.aload_n 0, 1) := dn_aload_n_0 hB_cJ0_coder_7d493 (by decide +kernel)
theorem dJ0_coder_7d493_7 : decode cJ0_coder_7d493 7 = .ok (.getfield 15, 3) := dn_getfield hB_cJ0_coder_7d493 (by decide +kernel)
theorem dJ0_coder_7d493_10 : decode cJ0_coder_7d493 10 = .ok (.goto 4, 3) := dn_goto hB_cJ0_coder_7d493 (by decide +kernel)
theorem dJ0_coder_7d493_14 : decode cJ0_coder_7d493 14 = .ok (.ireturn, 1) := dn_ireturn hB_cJ0_coder_7d493 (by decide +kernel)
def nB_cJ0_indexOf_0f7a4 : Nat := 0xac7902b6031b2a
theorem hB_cJ0_indexOf_0f7a4 : dnB cJ0_indexOf_0f7a4 7 nB_cJ0_indexOf_0f7a4 := (by decide +kernel : cJ0_indexOf_0f7a4.data.toList = (List.range 7).map (fun i => UInt8.ofNat (nB_cJ0_indexOf_0f7a4 / 256 ^ i % 256)))
theorem dJ0_indexOf_0f7a4_0 : decode cJ0_indexOf_0f7a4 0 = .ok (.aload_n 0, 1) := dn_aload_n_0 hB_cJ0_indexOf_0f7a4 (by decide +kernel)
theorem dJ0_indexOf_0f7a4_1 : decode cJ0_indexOf_0f7a4 1 = .ok (.iload_n 1, 1) := dn_iload_n_1 hB_cJ0_indexOf_0f7a4 (by decide +kernel)
theorem dJ0_indexOf_0f7a4_2 : decode cJ0_indexOf_0f7a4 2 = .ok (.iconst 0, 1) := dn_iconst_0 hB_cJ0_indexOf_0f7a4 (by decide +kernel)
theorem dJ0_indexOf_0f7a4_3 : decode cJ0_indexOf_0f7a4 3 = .ok (.invokevirtual 633, 3) := dn_invokevirtual hB_cJ0_indexOf_0f7a4 (by decide +kernel)
theorem dJ0_indexOf_0f7a4_6 : decode cJ0_indexOf_0f7a4 6 = .ok (.ireturn, 1) := dn_ireturn hB_cJ0_indexOf_0f7a4 (by decide +kernel)
def nB_cJ0_indexOf_7cf53 : Nat := 0xac8002b8f901b62a1c1b0900b42a1000a77d02b8f901b62a1c1b0900b42a130099ec01b62a
theorem hB_cJ0_indexOf_7cf53 : dnB cJ0_indexOf_7cf53 37 nB_cJ0_indexOf_7cf53 := (by decide +kernel : cJ0_indexOf_7cf53.data.toList = (List.range 37).map (fun i => UInt8.ofNat (nB_cJ0_indexOf_7cf53 / 256 ^ i % 256)))
theorem dJ0_indexOf_7cf53_0 : decode cJ0_indexOf_7cf53 0 = .ok (.aload_n 0, 1) := dn_aload_n_0 hB_cJ0_indexOf_7cf53 (by decide +kernel)
theorem dJ0_indexOf_7cf53_1 : decode cJ0_indexOf_7cf53 1 = .ok (.invokevirtual 492, 3) := dn_invokevirtual hB_cJ0_indexOf_7cf53 (by decide +kernel)
theorem dJ0_indexOf_7cf53_4 : decode cJ0_indexOf_7cf53 4 = .ok (.ifCond .eq 19, 3) := dn_ifCond_eq hB_cJ0_indexOf_7cf53 (by decide +kernel)
theorem dJ0_indexOf_7cf53_7 : decode cJ0_indexOf_7cf53 7 = .ok (.aload_n 0, 1) := dn_aload_n_0 hB_cJ0_indexOf_7cf53 (by decide +kernel)
theorem dJ0_indexOf_7cf53_8 : decode cJ0_indexOf_7cf53 8 = .ok (.getfield 9, 3) := dn_getfield hB_cJ0_indexOf_7cf53 (by decide +kernel)
theorem dJ0_indexOf_7cf53_11 : decode cJ0_indexOf_7cf53 11 = .ok (.iload_n 1, 1) := dn_iload_n_1 hB_cJ0_indexOf_7cf53 (by decide +kernel)
theorem dJ0_indexOf_7cf53_12 : decode cJ0_indexOf_7cf53 12 = .ok (.iload_n 2, 1) := dn_iload_n_2 hB_cJ0_indexOf_7cf53 (by decide +kernel)
theorem dJ0_indexOf_7cf53_13 : decode cJ0_indexOf_7cf53 13 = .ok (.aload_n 0, 1) := dn_aload_n_0 hB_cJ0_indexOf_7cf53 (by decide +kernel)
theorem dJ0_indexOf_7cf53_14 : decode cJ0_indexOf_7cf53 14 = .ok (.invokevirtual 505, 3) := dn_invokevirtual hB_cJ0_indexOf_7cf53 (by decide +kernel)
theorem dJ0_indexOf_7cf53_17 : decode cJ0_indexOf_7cf53 17 = .ok (.invokestatic 637, 3) := dn_invokestatic hB_cJ0_indexOf_7cf53 (by decide +kernel)
theorem dJ0_indexOf_7cf53_20 : decode cJ0_indexOf_7cf53 20 = .ok (.goto 16, 3) := dn_goto hB_cJ0_indexOf_7cf53 (by decide +kernel)
theorem dJ0_indexOf_7cf53_36 : decode cJ0_indexOf_7cf53 36 = .ok (.ireturn, 1) := dn_ireturn hB_cJ0_indexOf_7cf53 (by decide +kernel)
def nB_cJ0_isLatin1_aae02 : Nat := 0xac030400a70407009a0f00b42a0e00992600b2
theorem hB_cJ0_isLatin1_aae02 : dnB cJ0_isLatin1_aae02 19 nB_cJ0_isLatin1_aae02 := (by decide +kernel : cJ0_isLatin1_aae02.data.toList = (List.range 19).map (fun i => UInt8.ofNat (nB_cJ0_isLatin1_aae02 / 256 ^ i % 256)))
theorem dJ0_isLatin1_aae02_0 : decode cJ0_isLatin1_aae02 0 = .ok (.getstatic 38, 3) := dn_getstatic hB_cJ0_isLatin1_aae02 (by decide +kernel)
theorem dJ0_isLatin1_aae02_3 : decode cJ0_isLatin1_aae02 3 = .ok (.ifCond .eq 14, 3) := dn_ifCond_eq hB_cJ0_isLatin1_aae02 (by decide +kernel)
theorem dJ0_isLatin1_aae02_6 : decode cJ0_isLatin1_aae02 6 = .ok (.aload_n 0, 1) := dn_aload_n_0 hB_cJ0_isLatin1_aae02 (by decide +kernel)
theorem dJ0_isLatin1_aae02_7 : decode cJ0_isLatin1_aae02 7 = .ok (.getfield 15, 3) := dn_getfield hB_cJ0_isLatin1_aae02 (by decide +kernel)
theorem dJ0_isLatin1_aae02_10 : decode cJ0_isLatin1_aae02 10 = .ok (.ifCond .ne 7, 3) := dn_ifCond_ne hB_cJ0_isLatin1_aae02 (by decide +kernel)
theorem dJ0_isLatin1_aae02_13 : decode cJ0_isLatin1_aae02 13 = .ok (.iconst 1, 1) := dn_iconst_1 hB_cJ0_isLatin1_aae02 (by decide +kernel)
theorem dJ0_isLatin1_aae02_14 : decode cJ0_isLatin1_aae02 14 = .ok (.goto 4, 3) := dn_goto hB_cJ0_isLatin1_aae02 (by decide +kernel)
theorem dJ0_isLatin1_aae02_18 : decode cJ0_isLatin1_aae02 18 = .ok (.ireturn, 1) := dn_ireturn hB_cJ0_isLatin1_aae02 (by decide +kernel)
def nB_cJ0_length_8abf5 : Nat := 0xac7a4f01b62abe0900b42a
theorem hB_cJ0_length_8abf5 : dnB cJ0_length_8abf5 11 nB_cJ0_length_8abf5 := (by decide +kernel : cJ0_length_8abf5.data.toList = (List.range 11).map (fun i => UInt8.ofNat (nB_cJ0_length_8abf5 / 256 ^ i % 256)))
theorem dJ0_length_8abf5_0 : decode cJ0_length_8abf5 0 = .ok (.aload_n 0, 1) := dn_aload_n_0 hB_cJ0_length_8abf5 (by decide +kernel)
theorem dJ0_length_8abf5_1 : decode cJ0_length_8abf5 1 = .ok (.getfield 9, 3) := dn_getfield hB_cJ0_length_8abf5 (by decide +kernel)
theorem dJ0_length_8abf5_4 : decode cJ0_length_8abf5 4 = .ok (.arraylength, 1) := dn_arraylength hB_cJ0_length_8abf5 (by decide +kernel)
theorem dJ0_length_8abf5_5 : decode cJ0_length_8abf5 5 = .ok (.aload_n 0, 1) := dn_aload_n_0 hB_cJ0_length_8abf5 (by decide +kernel)
theorem dJ0_length_8abf5_6 : decode cJ0_length_8abf5 6 = .ok (.invokevirtual 335, 3) := dn_invokevirtual hB_cJ0_length_8abf5 (by decide +kernel)
theorem dJ0_length_8abf5_9 : decode cJ0_length_8abf5 9 = .ok (.ishr, 1) := dn_ishr hB_cJ0_length_8abf5 (by decide +kernel)
theorem dJ0_length_8abf5_10 : decode cJ0_length_8abf5 10 = .ok (.ireturn, 1) := dn_ireturn hB_cJ0_length_8abf5 (by decide +kernel)
def nB_cJ1_canEncode_9a6ad : Nat := 0xac030400a7040700a3ff00111a0e009b1a
theorem hB_cJ1_canEncode_9a6ad : dnB cJ1_canEncode_9a6ad 17 nB_cJ1_canEncode_9a6ad := (by decide +kernel : cJ1_canEncode_9a6ad.data.toList = (List.range 17).map (fun i => UInt8.ofNat (nB_cJ1_canEncode_9a6ad / 256 ^ i % 256)))
theorem dJ1_canEncode_9a6ad_0 : decode cJ1_canEncode_9a6ad 0 = .ok (.iload_n 0, 1) := dn_iload_n_0 hB_cJ1_canEncode_9a6ad (by decide +kernel)
theorem dJ1_canEncode_9a6ad_1 : decode cJ1_canEncode_9a6ad 1 = .ok (.ifCond .lt 14, 3) := dn_ifCond_lt hB_cJ1_canEncode_9a6ad (by decide +kernel)
theorem dJ1_canEncode_9a6ad_4 : decode cJ1_canEncode_9a6ad 4 = .ok (.iload_n 0, 1) := dn_iload_n_0 hB_cJ1_canEncode_9a6ad (by decide +kernel)
theorem dJ1_canEncode_9a6ad_5 : decode cJ1_canEncode_9a6ad 5 = .ok (.sipush 255, 3) := dn_sipush hB_cJ1_canEncode_9a6ad (by decide +kernel)
theorem dJ1_canEncode_9a6ad_8 : decode cJ1_canEncode_9a6ad 8 = .ok (.if_icmp .gt 7, 3) := dn_if_icmp_gt hB_cJ1_canEncode_9a6ad (by decide +kernel)
theorem dJ1_canEncode_9a6ad_11 : decode cJ1_canEncode_9a6ad 11 = .ok (.iconst 1, 1) := dn_iconst_1 hB_cJ1_canEncode_9a6ad (by decide +kernel)
theorem dJ1_canEncode_9a6ad_12 : decode cJ1_canEncode_9a6ad 12 = .ok (.goto 4, 3) := dn_goto hB_cJ1_canEncode_9a6ad (by decide +kernel)
theorem dJ1_canEncode_9a6ad_15 : decode cJ1_canEncode_9a6ad 15 = .ok (.iconst 0, 1) := dn_iconst_0 hB_cJ1_canEncode_9a6ad (by decide +kernel)
theorem dJ1_canEncode_9a6ad_16 : decode cJ1_canEncode_9a6ad 16 = .ok (.ireturn, 1) := dn_ireturn hB_cJ1_canEncode_9a6ad (by decide +kernel)
def nB_cJ1_charAt_3b067 : Nat := 0xac927eff0011331b2a0900b8be2a1b
theorem hB_cJ1_charAt_3b067 : dnB cJ1_charAt_3b067 15 nB_cJ1_charAt_3b067 := (by decide +kernel : cJ1_charAt_3b067.data.toList = (List.range 15).map (fun i => UInt8.ofNat (nB_cJ1_charAt_3b067 / 256 ^ i % 256)))
theorem dJ1_charAt_3b067_0 : decode cJ1_charAt_3b067 0 = .ok (.iload_n 1, 1) := dn_iload_n_1 hB_cJ1_charAt_3b067 (by decide +kernel)
theorem dJ1_charAt_3b067_1 : decode cJ1_charAt_3b067 1 = .ok (.aload_n 0, 1) := dn_aload_n_0 hB_cJ1_charAt_3b067 (by decide +kernel)
theorem dJ1_charAt_3b067_2 : decode cJ1_charAt_3b067 2 = .ok (.arraylength, 1) := dn_arraylength hB_cJ1_charAt_3b067 (by decide +kernel)
theorem dJ1_charAt_3b067_3 : decode cJ1_charAt_3b067 3 = .ok (.invokestatic 9, 3) := dn_invokestatic hB_cJ1_charAt_3b067 (by decide +kernel)
theorem dJ1_charAt_3b067_6 : decode cJ1_charAt_3b067 6 = .ok (.aload_n 0, 1) := dn_aload_n_0 hB_cJ1_charAt_3b067 (by decide +kernel)
theorem dJ1_charAt_3b067_7 : decode cJ1_charAt_3b067 7 = .ok (.iload_n 1, 1) := dn_iload_n_1 hB_cJ1_charAt_3b067 (by decide +kernel)
theorem dJ1_charAt_3b067_8 : decode cJ1_charAt_3b067 8 = .ok (.baload, 1) := dn_baload hB_cJ1_charAt_3b067 (by decide +kernel)
theorem dJ1_charAt_3b067_9 : decode cJ1_charAt_3b067 9 = .ok (.sipush 255, 3) := dn_sipush hB_cJ1_charAt_3b067 (by decide +kernel)
theorem dJ1_charAt_3b067_12 : decode cJ1_charAt_3b067 12 = .ok (.iand, 1) := dn_iand hB_cJ1_charAt_3b067 (by decide +kernel)
theorem dJ1_charAt_3b067_13 : decode cJ1_charAt_3b067 13 = .ok (.i2c, 1) := dn_i2c hB_cJ1_charAt_3b067 (by decide +kernel)
theorem dJ1_charAt_3b067_14 : decode cJ1_charAt_3b067 14 = .ok (.ireturn, 1) := dn_ireturn hB_cJ1_charAt_3b067 (by decide +kernel)
def nB_cJ1_indexOfChar_4cfef : Nat := 0xac02ebffa7010584ac05150600a004153305152a1500a21d051505361c0436911b
theorem hB_cJ1_indexOfChar_4cfef : dnB cJ1_indexOfChar_4cfef 33 nB_cJ1_indexOfChar_4cfef := (by decide +kernel : cJ1_indexOfChar_4cfef.data.toList = (List.range 33).map (fun i => UInt8.ofNat (nB_cJ1_indexOfChar_4cfef / 256 ^ i % 256)))
theorem dJ1_indexOfChar_4cfef_0 : decode cJ1_indexOfChar_4cfef 0 = .ok (.iload_n 1, 1) := dn_iload_n_1 hB_cJ1_indexOfChar_4cfef (by decide +kernel)
theorem dJ1_indexOfChar_4cfef_1 : decode cJ1_indexOfChar_4cfef 1 = .ok (.i2b, 1) := dn_i2b hB_cJ1_indexOfChar_4cfef (by decide +kernel)
theorem dJ1_indexOfChar_4cfef_2 : decode cJ1_indexOfChar_4cfef 2 = .ok (.istore 4, 2) := dn_istore hB_cJ1_indexOfChar_4cfef (by decide +kernel)
theorem dJ1_indexOfChar_4cfef_4 : decode cJ1_indexOfChar_4cfef 4 = .ok (.iload_n 2, 1) := dn_iload_n_2 hB_cJ1_indexOfChar_4cfef (by decide +kernel)
theorem dJ1_indexOfChar_4cfef_5 : decode cJ1_indexOfChar_4cfef 5 = .ok (.istore 5, 2) := dn_istore hB_cJ1_indexOfChar_4cfef (by decide +kernel)
theorem dJ1_indexOfChar_4cfef_7 : decode cJ1_indexOfChar_4cfef 7 = .ok (.iload 5, 2) := dn_iload hB_cJ1_indexOfChar_4cfef (by decide +kernel)
theorem dJ1_indexOfChar_4cfef_9 : decode cJ1_indexOfChar_4cfef 9 = .ok (.iload_n 3, 1) := dn_iload_n_3 hB_cJ1_indexOfChar_4cfef (by decide +kernel)
theorem dJ1_indexOfChar_4cfef_10 : decode cJ1_indexOfChar_4cfef 10 = .ok (.if_icmp .ge 21, 3) := dn_if_icmp_ge hB_cJ1_indexOfChar_4cfef (by decide +kernel)
theorem dJ1_indexOfChar_4cfef_13 : decode cJ1_indexOfChar_4cfef 13 = .ok (.aload_n 0, 1) := dn_aload_n_0 hB_cJ1_indexOfChar_4cfef (by decide +kernel)
theorem dJ1_indexOfChar_4cfef_14 : decode cJ1_indexOfChar_4cfef 14 = .ok (.iload 5, 2) := dn_iload hB_cJ1_indexOfChar_4cfef (by decide +kernel)
theorem dJ1_indexOfChar_4cfef_16 : decode cJ1_indexOfChar_4cfef 16 = .ok (.baload, 1) := dn_baload hB_cJ1_indexOfChar_4cfef (by decide +kernel)
theorem dJ1_indexOfChar_4cfef_17 : decode cJ1_indexOfChar_4cfef 17 = .ok (.iload 4, 2) := dn_iload hB_cJ1_indexOfChar_4cfef (by decide +kernel)
theorem dJ1_indexOfChar_4cfef_19 : decode cJ1_indexOfChar_4cfef 19 = .ok (.if_icmp .ne 6, 3) := dn_if_icmp_ne hB_cJ1_indexOfChar_4cfef (by decide +kernel)
theorem dJ1_indexOfChar_4cfef_22 : decode cJ1_indexOfChar_4cfef 22 = .ok (.iload 5, 2) := dn_iload hB_cJ1_indexOfChar_4cfef (by decide +kernel)
theorem dJ1_indexOfChar_4cfef_24 : decode cJ1_indexOfChar_4cfef 24 = .ok (.ireturn, 1) := dn_ireturn hB_cJ1_indexOfChar_4cfef (by decide +kernel)
theorem dJ1_indexOfChar_4cfef_25 : decode cJ1_indexOfChar_4cfef 25 = .ok (.iinc 5 1, 3) := dn_iinc hB_cJ1_indexOfChar_4cfef (by decide +kernel)
theorem dJ1_indexOfChar_4cfef_28 : decode cJ1_indexOfChar_4cfef 28 = .ok (.goto (-21), 3) := dn_goto hB_cJ1_indexOfChar_4cfef (by decide +kernel)
theorem dJ1_indexOfChar_4cfef_31 : decode cJ1_indexOfChar_4cfef 31 = .ok (.iconst (-1), 1) := dn_iconst_m1 hB_cJ1_indexOfChar_4cfef (by decide +kernel)
theorem dJ1_indexOfChar_4cfef_32 : decode cJ1_indexOfChar_4cfef 32 = .ok (.ireturn, 1) := dn_ireturn hB_cJ1_indexOfChar_4cfef (by decide +kernel)
def nB_cJ1_indexOf_4cfef : Nat := 0xac5f00b81d1c1b2aac020500a11d1c3e2600b8be2a1d3d5c00b8031cac0205009a5800b81b
theorem hB_cJ1_indexOf_4cfef : dnB cJ1_indexOf_4cfef 37 nB_cJ1_indexOf_4cfef := (by decide +kernel : cJ1_indexOf_4cfef.data.toList = (List.range 37).map (fun i => UInt8.ofNat (nB_cJ1_indexOf_4cfef / 256 ^ i % 256)))
theorem dJ1_indexOf_4cfef_0 : decode cJ1_indexOf_4cfef 0 = .ok (.iload_n 1, 1) := dn_iload_n_1 hB_cJ1_indexOf_4cfef (by decide +kernel)
theorem dJ1_indexOf_4cfef_1 : decode cJ1_indexOf_4cfef 1 = .ok (.invokestatic 88, 3) := dn_invokestatic hB_cJ1_indexOf_4cfef (by decide +kernel)
theorem dJ1_indexOf_4cfef_4 : decode cJ1_indexOf_4cfef 4 = .ok (.ifCond .ne 5, 3) := dn_ifCond_ne hB_cJ1_indexOf_4cfef (by decide +kernel)
theorem dJ1_indexOf_4cfef_7 : decode cJ1_indexOf_4cfef 7 = .ok (.iconst (-1), 1) := dn_iconst_m1 hB_cJ1_indexOf_4cfef (by decide +kernel)
theorem dJ1_indexOf_4cfef_8 : decode cJ1_indexOf_4cfef 8 = .ok (.ireturn, 1) := dn_ireturn hB_cJ1_indexOf_4cfef (by decide +kernel)
theorem dJ1_indexOf_4cfef_9 : decode cJ1_indexOf_4cfef 9 = .ok (.iload_n 2, 1) := dn_iload_n_2 hB_cJ1_indexOf_4cfef (by decide +kernel)
theorem dJ1_indexOf_4cfef_10 : decode cJ1_indexOf_4cfef 10 = .ok (.iconst 0, 1) := dn_iconst_0 hB_cJ1_indexOf_4cfef (by decide +kernel)
theorem dJ1_indexOf_4cfef_11 : decode cJ1_indexOf_4cfef 11 = .ok (.invokestatic 92, 3) := dn_invokestatic hB_cJ1_indexOf_4cfef (by decide +kernel)
theorem dJ1_indexOf_4cfef_14 : decode cJ1_indexOf_4cfef 14 = .ok (.istore_n 2, 1) := dn_istore_n_2 hB_cJ1_indexOf_4cfef (by decide +kernel)
theorem dJ1_indexOf_4cfef_15 : decode cJ1_indexOf_4cfef 15 = .ok (.iload_n 3, 1) := dn_iload_n_3 hB_cJ1_indexOf_4cfef (by decide +kernel)
theorem dJ1_indexOf_4cfef_16 : decode cJ1_indexOf_4cfef 16 = .ok (.aload_n 0, 1) := dn_aload_n_0 hB_cJ1_indexOf_4cfef (by decide +kernel)
theorem dJ1_indexOf_4cfef_17 : decode cJ1_indexOf_4cfef 17 = .ok (.arraylength, 1) := dn_arraylength hB_cJ1_indexOf_4cfef (by decide +kernel)
theorem dJ1_indexOf_4cfef_18 : decode cJ1_indexOf_4cfef 18 = .ok (.invokestatic 38, 3) := dn_invokestatic hB_cJ1_indexOf_4cfef (by decide +kernel)
theorem dJ1_indexOf_4cfef_21 : decode cJ1_indexOf_4cfef 21 = .ok (.istore_n 3, 1) := dn_istore_n_3 hB_cJ1_indexOf_4cfef (by decide +kernel)
theorem dJ1_indexOf_4cfef_22 : decode cJ1_indexOf_4cfef 22 = .ok (.iload_n 2, 1) := dn_iload_n_2 hB_cJ1_indexOf_4cfef (by decide +kernel)
theorem dJ1_indexOf_4cfef_23 : decode cJ1_indexOf_4cfef 23 = .ok (.iload_n 3, 1) := dn_iload_n_3 hB_cJ1_indexOf_4cfef (by decide +kernel)
theorem dJ1_indexOf_4cfef_24 : decode cJ1_indexOf_4cfef 24 = .ok (.if_icmp .lt 5, 3) := dn_if_icmp_lt hB_cJ1_indexOf_4cfef (by decide +kernel)
theorem dJ1_indexOf_4cfef_27 : decode cJ1_indexOf_4cfef 27 = .ok (.iconst (-1), 1) := dn_iconst_m1 hB_cJ1_indexOf_4cfef (by decide +kernel)
theorem dJ1_indexOf_4cfef_28 : decode cJ1_indexOf_4cfef 28 = .ok (.ireturn, 1) := dn_ireturn hB_cJ1_indexOf_4cfef (by decide +kernel)
theorem dJ1_indexOf_4cfef_29 : decode cJ1_indexOf_4cfef 29 = .ok (.aload_n 0, 1) := dn_aload_n_0 hB_cJ1_indexOf_4cfef (by decide +kernel)
theorem dJ1_indexOf_4cfef_30 : decode cJ1_indexOf_4cfef 30 = .ok (.iload_n 1, 1) := dn_iload_n_1 hB_cJ1_indexOf_4cfef (by decide +kernel)
theorem dJ1_indexOf_4cfef_31 : decode cJ1_indexOf_4cfef 31 = .ok (.iload_n 2, 1) := dn_iload_n_2 hB_cJ1_indexOf_4cfef (by decide +kernel)
theorem dJ1_indexOf_4cfef_32 : decode cJ1_indexOf_4cfef 32 = .ok (.iload_n 3, 1) := dn_iload_n_3 hB_cJ1_indexOf_4cfef (by decide +kernel)
theorem dJ1_indexOf_4cfef_33 : decode cJ1_indexOf_4cfef 33 = .ok (.invokestatic 95, 3) := dn_invokestatic hB_cJ1_indexOf_4cfef (by decide +kernel)
theorem dJ1_indexOf_4cfef_36 : decode cJ1_indexOf_4cfef 36 = .ok (.ireturn, 1) := dn_ireturn hB_cJ1_indexOf_4cfef (by decide +kernel)
def nB_cJ3_checkIndex_8e157 : Nat := 0xac1abf5f00b81b1a2c0a00a11b1a08009b1a
theorem hB_cJ3_checkIndex_8e157 : dnB cJ3_checkIndex_8e157 18 nB_cJ3_checkIndex_8e157 := (by decide +kernel : cJ3_checkIndex_8e157.data.toList = (List.range 18).map (fun i => UInt8.ofNat (nB_cJ3_checkIndex_8e157 / 256 ^ i % 256)))
theorem dJ3_checkIndex_8e157_0 : decode cJ3_checkIndex_8e157 0 = .ok (.iload_n 0, 1) := dn_iload_n_0 hB_cJ3_checkIndex_8e157 (by decide +kernel)
theorem dJ3_checkIndex_8e157_1 : decode cJ3_checkIndex_8e157 1 = .ok (.ifCond .lt 8, 3) := dn_ifCond_lt hB_cJ3_checkIndex_8e157 (by decide +kernel)
theorem dJ3_checkIndex_8e157_4 : decode cJ3_checkIndex_8e157 4 = .ok (.iload_n 0, 1) := dn_iload_n_0 hB_cJ3_checkIndex_8e157 (by decide +kernel)
theorem dJ3_checkIndex_8e157_5 : decode cJ3_checkIndex_8e157 5 = .ok (.iload_n 1, 1) := dn_iload_n_1 hB_cJ3_checkIndex_8e157 (by decide +kernel)
theorem dJ3_checkIndex_8e157_6 : decode cJ3_checkIndex_8e157 6 = .ok (.if_icmp .lt 10, 3) := dn_if_icmp_lt hB_cJ3_checkIndex_8e157 (by decide +kernel)
theorem dJ3_checkIndex_8e157_16 : decode cJ3_checkIndex_8e157 16 = .ok (.iload_n 0, 1) := dn_iload_n_0 hB_cJ3_checkIndex_8e157 (by decide +kernel)
theorem dJ3_checkIndex_8e157_17 : decode cJ3_checkIndex_8e157 17 = .ok (.ireturn, 1) := dn_ireturn hB_cJ3_checkIndex_8e157 (by decide +kernel)
def nB_cX8_number : Nat := 0xac1d2600b62a3e1b0400a74f00b42a0a009a2000b42a5900b6052a0800a41c4f00b42a0b00a11b4f00b42a1800a75900b6042a0b009f043300b42a
theorem hB_cX8_number : dnB cX8_number 59 nB_cX8_number := (by decide +kernel : cX8_number.data.toList = (List.range 59).map (fun i => UInt8.ofNat (nB_cX8_number / 256 ^ i % 256)))
theorem dX8_number_0 : decode cX8_number 0 = .ok (.aload_n 0, 1) := dn_aload_n_0 hB_cX8_number (by decide +kernel)
theorem dX8_number_1 : decode cX8_number 1 = .ok (.getfield 51, 3) := dn_getfield hB_cX8_number (by decide +kernel)
theorem dX8_number_4 : decode cX8_number 4 = .ok (.iconst 1, 1) := dn_iconst_1 hB_cX8_number (by decide +kernel)
theorem dX8_number_5 : decode cX8_number 5 = .ok (.if_icmp .eq 11, 3) := dn_if_icmp_eq hB_cX8_number (by decide +kernel)
theorem dX8_number_8 : decode cX8_number 8 = .ok (.aload_n 0, 1) := dn_aload_n_0 hB_cX8_number (by decide +kernel)
theorem dX8_number_9 : decode cX8_number 9 = .ok (.iconst 1, 1) := dn_iconst_1 hB_cX8_number (by decide +kernel)
theorem dX8_number_10 : decode cX8_number 10 = .ok (.invokevirtual 89, 3) := dn_invokevirtual hB_cX8_number (by decide +kernel)
theorem dX8_number_13 : decode cX8_number 13 = .ok (.goto 24, 3) := dn_goto hB_cX8_number (by decide +kernel)
theorem dX8_number_16 : decode cX8_number 16 = .ok (.aload_n 0, 1) := dn_aload_n_0 hB_cX8_number (by decide +kernel)
theorem dX8_number_17 : decode cX8_number 17 = .ok (.getfield 79, 3) := dn_getfield hB_cX8_number (by decide +kernel)
theorem dX8_number_20 : decode cX8_number 20 = .ok (.iload_n 1, 1) := dn_iload_n_1 hB_cX8_number (by decide +kernel)
theorem dX8_number_21 : decode cX8_number 21 = .ok (.if_icmp .lt 11, 3) := dn_if_icmp_lt hB_cX8_number (by decide +kernel)
theorem dX8_number_24 : decode cX8_number 24 = .ok (.aload_n 0, 1) := dn_aload_n_0 hB_cX8_number (by decide +kernel)
theorem dX8_number_25 : decode cX8_number 25 = .ok (.getfield 79, 3) := dn_getfield hB_cX8_number (by decide +kernel)
theorem dX8_number_28 : decode cX8_number 28 = .ok (.iload_n 2, 1) := dn_iload_n_2 hB_cX8_number (by decide +kernel)
theorem dX8_number_29 : decode cX8_number 29 = .ok (.if_icmp .le 8, 3) := dn_if_icmp_le hB_cX8_number (by decide +kernel)
theorem dX8_number_32 : decode cX8_number 32 = .ok (.aload_n 0, 1) := dn_aload_n_0 hB_cX8_number (by decide +kernel)
theorem dX8_number_33 : decode cX8_number 33 = .ok (.iconst 2, 1) := dn_iconst_2 hB_cX8_number (by decide +kernel)
theorem dX8_number_34 : decode cX8_number 34 = .ok (.invokevirtual 89, 3) := dn_invokevirtual hB_cX8_number (by decide +kernel)
theorem dX8_number_37 : decode cX8_number 37 = .ok (.aload_n 0, 1) := dn_aload_n_0 hB_cX8_number (by decide +kernel)
theorem dX8_number_38 : decode cX8_number 38 = .ok (.getfield 32, 3) := dn_getfield hB_cX8_number (by decide +kernel)
theorem dX8_number_41 : decode cX8_number 41 = .ok (.ifCond .ne 10, 3) := dn_ifCond_ne hB_cX8_number (by decide +kernel)
theorem dX8_number_44 : decode cX8_number 44 = .ok (.aload_n 0, 1) := dn_aload_n_0 hB_cX8_number (by decide +kernel)
theorem dX8_number_45 : decode cX8_number 45 = .ok (.getfield 79, 3) := dn_getfield hB_cX8_number (by decide +kernel)
theorem dX8_number_48 : decode cX8_number 48 = .ok (.goto 4, 3) := dn_goto hB_cX8_number (by decide +kernel)
theorem dX8_number_51 : decode cX8_number 51 = .ok (.iload_n 1, 1) := dn_iload_n_1 hB_cX8_number (by decide +kernel)
theorem dX8_number_52 : decode cX8_number 52 = .ok (.istore_n 3, 1) := dn_istore_n_3 hB_cX8_number (by decide +kernel)
theorem dX8_number_53 : decode cX8_number 53 = .ok (.aload_n 0, 1) := dn_aload_n_0 hB_cX8_number (by decide +kernel)
theorem dX8_number_54 : decode cX8_number 54 = .ok (.invokevirtual 38, 3) := dn_invokevirtual hB_cX8_number (by decide +kernel)
theorem dX8_number_57 : decode cX8_number 57 = .ok (.iload_n 3, 1) := dn_iload_n_3 hB_cX8_number (by decide +kernel)
theorem dX8_number_58 : decode cX8_number 58 = .ok (.ireturn, 1) := dn_ireturn hB_cX8_number (by decide +kernel)
def nB_cX8_open : Nat := 0xb12600b62a2300b5032a1500b5022a2000b5032a1100b51c00b81b2a
theorem hB_cX8_open : dnB cX8_open 28 nB_cX8_open := (by decide +kernel : cX8_open.data.toList = (List.range 28).map (fun i => UInt8.ofNat (nB_cX8_open / 256 ^ i % 256)))
theorem dX8_open_0 : decode cX8_open 0 = .ok (.aload_n 0, 1) := dn_aload_n_0 hB_cX8_open (by decide +kernel)
theorem dX8_open_1 : decode cX8_open 1 = .ok (.iload_n 1, 1) := dn_iload_n_1 hB_cX8_open (by decide +kernel)
theorem dX8_open_2 : decode cX8_open 2 = .ok (.invokestatic 28, 3) := dn_invokestatic hB_cX8_open (by decide +kernel)
theorem dX8_open_5 : decode cX8_open 5 = .ok (.putfield 17, 3) := dn_putfield hB_cX8_open (by decide +kernel)
theorem dX8_open_8 : decode cX8_open 8 = .ok (.aload_n 0, 1) := dn_aload_n_0 hB_cX8_open (by decide +kernel)
theorem dX8_open_9 : decode cX8_open 9 = .ok (.iconst 0, 1) := dn_iconst_0 hB_cX8_open (by decide +kernel)
theorem dX8_open_10 : decode cX8_open 10 = .ok (.putfield 32, 3) := dn_putfield hB_cX8_open (by decide +kernel)
theorem dX8_open_13 : decode cX8_open 13 = .ok (.aload_n 0, 1) := dn_aload_n_0 hB_cX8_open (by decide +kernel)
theorem dX8_open_14 : decode cX8_open 14 = .ok (.iconst (-1), 1) := dn_iconst_m1 hB_cX8_open (by decide +kernel)
theorem dX8_open_15 : decode cX8_open 15 = .ok (.putfield 21, 3) := dn_putfield hB_cX8_open (by decide +kernel)
theorem dX8_open_18 : decode cX8_open 18 = .ok (.aload_n 0, 1) := dn_aload_n_0 hB_cX8_open (by decide +kernel)
theorem dX8_open_19 : decode cX8_open 19 = .ok (.iconst 0, 1) := dn_iconst_0 hB_cX8_open (by decide +kernel)
theorem dX8_open_20 : decode cX8_open 20 = .ok (.putfield 35, 3) := dn_putfield hB_cX8_open (by decide +kernel)
theorem dX8_open_23 : decode cX8_open 23 = .ok (.aload_n 0, 1) := dn_aload_n_0 hB_cX8_open (by decide +kernel)
theorem dX8_open_24 : decode cX8_open 24 = .ok (.invokevirtual 38, 3) := dn_invokevirtual hB_cX8_open (by decide +kernel)
theorem dX8_open_27 : decode cX8_open 27 = .ok (.return_, 1) := dn_return_ hB_cX8_open (by decide +kernel)
def nB_cX8_pass : Nat := 0xb12600b62a5900b6042a08009f1b3300b42a
theorem hB_cX8_pass : dnB cX8_pass 18 nB_cX8_pass := (by decide +kernel : cX8_pass.data.toList = (List.range 18).map (fun i => UInt8.ofNat (nB_cX8_pass / 256 ^ i % 256)))
theorem dX8_pass_0 : decode cX8_pass 0 = .ok (.aload_n 0, 1) := dn_aload_n_0 hB_cX8_pass (by decide +kernel)
theorem dX8_pass_1 : decode cX8_pass 1 = .ok (.getfield 51, 3) := dn_getfield hB_cX8_pass (by decide +kernel)
theorem dX8_pass_4 : decode cX8_pass 4 = .ok (.iload_n 1, 1) := dn_iload_n_1 hB_cX8_pass (by decide +kernel)
theorem dX8_pass_5 : decode cX8_pass 5 = .ok (.if_icmp .eq 8, 3) := dn_if_icmp_eq hB_cX8_pass (by decide +kernel)
theorem dX8_pass_8 : decode cX8_pass 8 = .ok (.aload_n 0, 1) := dn_aload_n_0 hB_cX8_pass (by decide +kernel)
theorem dX8_pass_9 : decode cX8_pass 9 = .ok (.iconst 1, 1) := dn_iconst_1 hB_cX8_pass (by decide +kernel)
theorem dX8_pass_10 : decode cX8_pass 10 = .ok (.invokevirtual 89, 3) := dn_invokevirtual hB_cX8_pass (by decide +kernel)
theorem dX8_pass_13 : decode cX8_pass 13 = .ok (.aload_n 0, 1) := dn_aload_n_0 hB_cX8_pass (by decide +kernel)
theorem dX8_pass_14 : decode cX8_pass 14 = .ok (.invokevirtual 38, 3) := dn_invokevirtual hB_cX8_pass (by decide +kernel)
theorem dX8_pass_17 : decode cX8_pass 17 = .ok (.return_, 1) := dn_return_ hB_cX8_pass (by decide +kernel)
def nB_cX8_passComparison : Nat := 0xac1b2600b62a5900b6042a08009f3e101b0e009f3d101b14009f3c101b3c3300b42a
theorem hB_cX8_passComparison : dnB cX8_passComparison 34 nB_cX8_passComparison := (by decide +kernel : cX8_passComparison.data.toList = (List.range 34).map (fun i => UInt8.ofNat (nB_cX8_passComparison / 256 ^ i % 256)))
theorem dX8_passComparison_0 : decode cX8_passComparison 0 = .ok (.aload_n 0, 1) := dn_aload_n_0 hB_cX8_passComparison (by decide +kernel)
theorem dX8_passComparison_1 : decode cX8_passComparison 1 = .ok (.getfield 51, 3) := dn_getfield hB_cX8_passComparison (by decide +kernel)
theorem dX8_passComparison_4 : decode cX8_passComparison 4 = .ok (.istore_n 1, 1) := dn_istore_n_1 hB_cX8_passComparison (by decide +kernel)
theorem dX8_passComparison_5 : decode cX8_passComparison 5 = .ok (.iload_n 1, 1) := dn_iload_n_1 hB_cX8_passComparison (by decide +kernel)
theorem dX8_passComparison_6 : decode cX8_passComparison 6 = .ok (.bipush 60, 2) := dn_bipush hB_cX8_passComparison (by decide +kernel)
theorem dX8_passComparison_8 : decode cX8_passComparison 8 = .ok (.if_icmp .eq 20, 3) := dn_if_icmp_eq hB_cX8_passComparison (by decide +kernel)
theorem dX8_passComparison_11 : decode cX8_passComparison 11 = .ok (.iload_n 1, 1) := dn_iload_n_1 hB_cX8_passComparison (by decide +kernel)
theorem dX8_passComparison_12 : decode cX8_passComparison 12 = .ok (.bipush 61, 2) := dn_bipush hB_cX8_passComparison (by decide +kernel)
theorem dX8_passComparison_14 : decode cX8_passComparison 14 = .ok (.if_icmp .eq 14, 3) := dn_if_icmp_eq hB_cX8_passComparison (by decide +kernel)
theorem dX8_passComparison_17 : decode cX8_passComparison 17 = .ok (.iload_n 1, 1) := dn_iload_n_1 hB_cX8_passComparison (by decide +kernel)
theorem dX8_passComparison_18 : decode cX8_passComparison 18 = .ok (.bipush 62, 2) := dn_bipush hB_cX8_passComparison (by decide +kernel)
theorem dX8_passComparison_20 : decode cX8_passComparison 20 = .ok (.if_icmp .eq 8, 3) := dn_if_icmp_eq hB_cX8_passComparison (by decide +kernel)
theorem dX8_passComparison_23 : decode cX8_passComparison 23 = .ok (.aload_n 0, 1) := dn_aload_n_0 hB_cX8_passComparison (by decide +kernel)
theorem dX8_passComparison_24 : decode cX8_passComparison 24 = .ok (.iconst 1, 1) := dn_iconst_1 hB_cX8_passComparison (by decide +kernel)
theorem dX8_passComparison_25 : decode cX8_passComparison 25 = .ok (.invokevirtual 89, 3) := dn_invokevirtual hB_cX8_passComparison (by decide +kernel)
theorem dX8_passComparison_28 : decode cX8_passComparison 28 = .ok (.aload_n 0, 1) := dn_aload_n_0 hB_cX8_passComparison (by decide +kernel)
theorem dX8_passComparison_29 : decode cX8_passComparison 29 = .ok (.invokevirtual 38, 3) := dn_invokevirtual hB_cX8_passComparison (by decide +kernel)
theorem dX8_passComparison_32 : decode cX8_passComparison 32 = .ok (.iload_n 1, 1) := dn_iload_n_1 hB_cX8_passComparison (by decide +kernel)
theorem dX8_passComparison_33 : decode cX8_passComparison 33 = .ok (.ireturn, 1) := dn_ireturn hB_cX8_passComparison (by decide +kernel)
def nB_cX8_step : Nat := 0xb12300b560042300b4592a3300b5050400a72e2300b42a0900b42a0f009b4900b6922e2300b42a0900b42a47122a3000a74400b62a0a00994100b82e2300b42a0900b42a4600a73300b5601b0001110800a7050700a0021b2a3c3d00b62adcffa72300b560042300b4592a1000993900b82e2300b42a0900b42a1f00a21900b42a2300b42a4400993900b82e2300b42a0900b42a9600a73300b5032a0b00a11900b42a2300b42a3600b52300b42a2acfffa72300b560042300b4592a1000a00a102e2300b42a0900b42a11009f20102e2300b42a0900b42a2c00a21900b42a2300b42ab10400992000b42a
theorem hB_cX8_step : dnB cX8_step 235 nB_cX8_step := (by decide +kernel : cX8_step.data.toList = (List.range 235).map (fun i => UInt8.ofNat (nB_cX8_step / 256 ^ i % 256)))
theorem dX8_step_0 : decode cX8_step 0 = .ok (.aload_n 0, 1) := dn_aload_n_0 hB_cX8_step (by decide +kernel)
theorem dX8_step_1 : decode cX8_step 1 = .ok (.getfield 32, 3) := dn_getfield hB_cX8_step (by decide +kernel)
theorem dX8_step_4 : decode cX8_step 4 = .ok (.ifCond .eq 4, 3) := dn_ifCond_eq hB_cX8_step (by decide +kernel)
theorem dX8_step_7 : decode cX8_step 7 = .ok (.return_, 1) := dn_return_ hB_cX8_step (by decide +kernel)
theorem dX8_step_8 : decode cX8_step 8 = .ok (.aload_n 0, 1) := dn_aload_n_0 hB_cX8_step (by decide +kernel)
theorem dX8_step_9 : decode cX8_step 9 = .ok (.getfield 35, 3) := dn_getfield hB_cX8_step (by decide +kernel)
theorem dX8_step_12 : decode cX8_step 12 = .ok (.aload_n 0, 1) := dn_aload_n_0 hB_cX8_step (by decide +kernel)
theorem dX8_step_13 : decode cX8_step 13 = .ok (.getfield 25, 3) := dn_getfield hB_cX8_step (by decide +kernel)
theorem dX8_step_16 : decode cX8_step 16 = .ok (.if_icmp .ge 44, 3) := dn_if_icmp_ge hB_cX8_step (by decide +kernel)
theorem dX8_step_19 : decode cX8_step 19 = .ok (.aload_n 0, 1) := dn_aload_n_0 hB_cX8_step (by decide +kernel)
theorem dX8_step_20 : decode cX8_step 20 = .ok (.getfield 9, 3) := dn_getfield hB_cX8_step (by decide +kernel)
theorem dX8_step_23 : decode cX8_step 23 = .ok (.aload_n 0, 1) := dn_aload_n_0 hB_cX8_step (by decide +kernel)
theorem dX8_step_24 : decode cX8_step 24 = .ok (.getfield 35, 3) := dn_getfield hB_cX8_step (by decide +kernel)
theorem dX8_step_27 : decode cX8_step 27 = .ok (.iaload, 1) := dn_iaload hB_cX8_step (by decide +kernel)
theorem dX8_step_28 : decode cX8_step 28 = .ok (.bipush 32, 2) := dn_bipush hB_cX8_step (by decide +kernel)
theorem dX8_step_30 : decode cX8_step 30 = .ok (.if_icmp .eq 17, 3) := dn_if_icmp_eq hB_cX8_step (by decide +kernel)
theorem dX8_step_33 : decode cX8_step 33 = .ok (.aload_n 0, 1) := dn_aload_n_0 hB_cX8_step (by decide +kernel)
theorem dX8_step_34 : decode cX8_step 34 = .ok (.getfield 9, 3) := dn_getfield hB_cX8_step (by decide +kernel)
theorem dX8_step_37 : decode cX8_step 37 = .ok (.aload_n 0, 1) := dn_aload_n_0 hB_cX8_step (by decide +kernel)
theorem dX8_step_38 : decode cX8_step 38 = .ok (.getfield 35, 3) := dn_getfield hB_cX8_step (by decide +kernel)
theorem dX8_step_41 : decode cX8_step 41 = .ok (.iaload, 1) := dn_iaload hB_cX8_step (by decide +kernel)
theorem dX8_step_42 : decode cX8_step 42 = .ok (.bipush 10, 2) := dn_bipush hB_cX8_step (by decide +kernel)
theorem dX8_step_44 : decode cX8_step 44 = .ok (.if_icmp .ne 16, 3) := dn_if_icmp_ne hB_cX8_step (by decide +kernel)
theorem dX8_step_47 : decode cX8_step 47 = .ok (.aload_n 0, 1) := dn_aload_n_0 hB_cX8_step (by decide +kernel)
theorem dX8_step_48 : decode cX8_step 48 = .ok (.dup, 1) := dn_dup hB_cX8_step (by decide +kernel)
theorem dX8_step_49 : decode cX8_step 49 = .ok (.getfield 35, 3) := dn_getfield hB_cX8_step (by decide +kernel)
theorem dX8_step_52 : decode cX8_step 52 = .ok (.iconst 1, 1) := dn_iconst_1 hB_cX8_step (by decide +kernel)
theorem dX8_step_53 : decode cX8_step 53 = .ok (.iadd, 1) := dn_iadd hB_cX8_step (by decide +kernel)
theorem dX8_step_54 : decode cX8_step 54 = .ok (.putfield 35, 3) := dn_putfield hB_cX8_step (by decide +kernel)
theorem dX8_step_57 : decode cX8_step 57 = .ok (.goto (-49), 3) := dn_goto hB_cX8_step (by decide +kernel)
theorem dX8_step_60 : decode cX8_step 60 = .ok (.aload_n 0, 1) := dn_aload_n_0 hB_cX8_step (by decide +kernel)
theorem dX8_step_61 : decode cX8_step 61 = .ok (.aload_n 0, 1) := dn_aload_n_0 hB_cX8_step (by decide +kernel)
theorem dX8_step_62 : decode cX8_step 62 = .ok (.getfield 35, 3) := dn_getfield hB_cX8_step (by decide +kernel)
theorem dX8_step_65 : decode cX8_step 65 = .ok (.putfield 54, 3) := dn_putfield hB_cX8_step (by decide +kernel)
theorem dX8_step_68 : decode cX8_step 68 = .ok (.aload_n 0, 1) := dn_aload_n_0 hB_cX8_step (by decide +kernel)
theorem dX8_step_69 : decode cX8_step 69 = .ok (.getfield 35, 3) := dn_getfield hB_cX8_step (by decide +kernel)
theorem dX8_step_72 : decode cX8_step 72 = .ok (.aload_n 0, 1) := dn_aload_n_0 hB_cX8_step (by decide +kernel)
theorem dX8_step_73 : decode cX8_step 73 = .ok (.getfield 25, 3) := dn_getfield hB_cX8_step (by decide +kernel)
theorem dX8_step_76 : decode cX8_step 76 = .ok (.if_icmp .lt 11, 3) := dn_if_icmp_lt hB_cX8_step (by decide +kernel)
theorem dX8_step_79 : decode cX8_step 79 = .ok (.aload_n 0, 1) := dn_aload_n_0 hB_cX8_step (by decide +kernel)
theorem dX8_step_80 : decode cX8_step 80 = .ok (.iconst 0, 1) := dn_iconst_0 hB_cX8_step (by decide +kernel)
theorem dX8_step_81 : decode cX8_step 81 = .ok (.putfield 51, 3) := dn_putfield hB_cX8_step (by decide +kernel)
theorem dX8_step_84 : decode cX8_step 84 = .ok (.goto 150, 3) := dn_goto hB_cX8_step (by decide +kernel)
theorem dX8_step_87 : decode cX8_step 87 = .ok (.aload_n 0, 1) := dn_aload_n_0 hB_cX8_step (by decide +kernel)
theorem dX8_step_88 : decode cX8_step 88 = .ok (.getfield 9, 3) := dn_getfield hB_cX8_step (by decide +kernel)
theorem dX8_step_91 : decode cX8_step 91 = .ok (.aload_n 0, 1) := dn_aload_n_0 hB_cX8_step (by decide +kernel)
theorem dX8_step_92 : decode cX8_step 92 = .ok (.getfield 35, 3) := dn_getfield hB_cX8_step (by decide +kernel)
theorem dX8_step_95 : decode cX8_step 95 = .ok (.iaload, 1) := dn_iaload hB_cX8_step (by decide +kernel)
theorem dX8_step_96 : decode cX8_step 96 = .ok (.invokestatic 57, 3) := dn_invokestatic hB_cX8_step (by decide +kernel)
theorem dX8_step_99 : decode cX8_step 99 = .ok (.ifCond .eq 68, 3) := dn_ifCond_eq hB_cX8_step (by decide +kernel)
theorem dX8_step_102 : decode cX8_step 102 = .ok (.aload_n 0, 1) := dn_aload_n_0 hB_cX8_step (by decide +kernel)
theorem dX8_step_103 : decode cX8_step 103 = .ok (.getfield 35, 3) := dn_getfield hB_cX8_step (by decide +kernel)
theorem dX8_step_106 : decode cX8_step 106 = .ok (.aload_n 0, 1) := dn_aload_n_0 hB_cX8_step (by decide +kernel)
theorem dX8_step_107 : decode cX8_step 107 = .ok (.getfield 25, 3) := dn_getfield hB_cX8_step (by decide +kernel)
theorem dX8_step_110 : decode cX8_step 110 = .ok (.if_icmp .ge 31, 3) := dn_if_icmp_ge hB_cX8_step (by decide +kernel)
theorem dX8_step_113 : decode cX8_step 113 = .ok (.aload_n 0, 1) := dn_aload_n_0 hB_cX8_step (by decide +kernel)
theorem dX8_step_114 : decode cX8_step 114 = .ok (.getfield 9, 3) := dn_getfield hB_cX8_step (by decide +kernel)
theorem dX8_step_117 : decode cX8_step 117 = .ok (.aload_n 0, 1) := dn_aload_n_0 hB_cX8_step (by decide +kernel)
theorem dX8_step_118 : decode cX8_step 118 = .ok (.getfield 35, 3) := dn_getfield hB_cX8_step (by decide +kernel)
theorem dX8_step_121 : decode cX8_step 121 = .ok (.iaload, 1) := dn_iaload hB_cX8_step (by decide +kernel)
theorem dX8_step_122 : decode cX8_step 122 = .ok (.invokestatic 57, 3) := dn_invokestatic hB_cX8_step (by decide +kernel)
theorem dX8_step_125 : decode cX8_step 125 = .ok (.ifCond .eq 16, 3) := dn_ifCond_eq hB_cX8_step (by decide +kernel)
theorem dX8_step_128 : decode cX8_step 128 = .ok (.aload_n 0, 1) := dn_aload_n_0 hB_cX8_step (by decide +kernel)
theorem dX8_step_129 : decode cX8_step 129 = .ok (.dup, 1) := dn_dup hB_cX8_step (by decide +kernel)
theorem dX8_step_130 : decode cX8_step 130 = .ok (.getfield 35, 3) := dn_getfield hB_cX8_step (by decide +kernel)
theorem dX8_step_133 : decode cX8_step 133 = .ok (.iconst 1, 1) := dn_iconst_1 hB_cX8_step (by decide +kernel)
theorem dX8_step_134 : decode cX8_step 134 = .ok (.iadd, 1) := dn_iadd hB_cX8_step (by decide +kernel)
theorem dX8_step_135 : decode cX8_step 135 = .ok (.putfield 35, 3) := dn_putfield hB_cX8_step (by decide +kernel)
theorem dX8_step_138 : decode cX8_step 138 = .ok (.goto (-36), 3) := dn_goto hB_cX8_step (by decide +kernel)
theorem dX8_step_141 : decode cX8_step 141 = .ok (.aload_n 0, 1) := dn_aload_n_0 hB_cX8_step (by decide +kernel)
theorem dX8_step_142 : decode cX8_step 142 = .ok (.invokevirtual 61, 3) := dn_invokevirtual hB_cX8_step (by decide +kernel)
theorem dX8_step_145 : decode cX8_step 145 = .ok (.istore_n 1, 1) := dn_istore_n_1 hB_cX8_step (by decide +kernel)
theorem dX8_step_146 : decode cX8_step 146 = .ok (.aload_n 0, 1) := dn_aload_n_0 hB_cX8_step (by decide +kernel)
theorem dX8_step_147 : decode cX8_step 147 = .ok (.iload_n 1, 1) := dn_iload_n_1 hB_cX8_step (by decide +kernel)
theorem dX8_step_148 : decode cX8_step 148 = .ok (.iconst (-1), 1) := dn_iconst_m1 hB_cX8_step (by decide +kernel)
theorem dX8_step_149 : decode cX8_step 149 = .ok (.if_icmp .ne 7, 3) := dn_if_icmp_ne hB_cX8_step (by decide +kernel)
theorem dX8_step_152 : decode cX8_step 152 = .ok (.iconst 2, 1) := dn_iconst_2 hB_cX8_step (by decide +kernel)
theorem dX8_step_153 : decode cX8_step 153 = .ok (.goto 8, 3) := dn_goto hB_cX8_step (by decide +kernel)
theorem dX8_step_156 : decode cX8_step 156 = .ok (.sipush 256, 3) := dn_sipush hB_cX8_step (by decide +kernel)
theorem dX8_step_159 : decode cX8_step 159 = .ok (.iload_n 1, 1) := dn_iload_n_1 hB_cX8_step (by decide +kernel)
theorem dX8_step_160 : decode cX8_step 160 = .ok (.iadd, 1) := dn_iadd hB_cX8_step (by decide +kernel)
theorem dX8_step_161 : decode cX8_step 161 = .ok (.putfield 51, 3) := dn_putfield hB_cX8_step (by decide +kernel)
theorem dX8_step_164 : decode cX8_step 164 = .ok (.goto 70, 3) := dn_goto hB_cX8_step (by decide +kernel)
theorem dX8_step_167 : decode cX8_step 167 = .ok (.aload_n 0, 1) := dn_aload_n_0 hB_cX8_step (by decide +kernel)
theorem dX8_step_168 : decode cX8_step 168 = .ok (.getfield 9, 3) := dn_getfield hB_cX8_step (by decide +kernel)
theorem dX8_step_171 : decode cX8_step 171 = .ok (.aload_n 0, 1) := dn_aload_n_0 hB_cX8_step (by decide +kernel)
theorem dX8_step_172 : decode cX8_step 172 = .ok (.getfield 35, 3) := dn_getfield hB_cX8_step (by decide +kernel)
theorem dX8_step_175 : decode cX8_step 175 = .ok (.iaload, 1) := dn_iaload hB_cX8_step (by decide +kernel)
theorem dX8_step_176 : decode cX8_step 176 = .ok (.invokestatic 65, 3) := dn_invokestatic hB_cX8_step (by decide +kernel)
theorem dX8_step_179 : decode cX8_step 179 = .ok (.ifCond .eq 10, 3) := dn_ifCond_eq hB_cX8_step (by decide +kernel)
theorem dX8_step_182 : decode cX8_step 182 = .ok (.aload_n 0, 1) := dn_aload_n_0 hB_cX8_step (by decide +kernel)
theorem dX8_step_183 : decode cX8_step 183 = .ok (.invokevirtual 68, 3) := dn_invokevirtual hB_cX8_step (by decide +kernel)
theorem dX8_step_186 : decode cX8_step 186 = .ok (.goto 48, 3) := dn_goto hB_cX8_step (by decide +kernel)
theorem dX8_step_189 : decode cX8_step 189 = .ok (.aload_n 0, 1) := dn_aload_n_0 hB_cX8_step (by decide +kernel)
theorem dX8_step_190 : decode cX8_step 190 = .ok (.ldc 71, 2) := dn_ldc hB_cX8_step (by decide +kernel)
theorem dX8_step_192 : decode cX8_step 192 = .ok (.aload_n 0, 1) := dn_aload_n_0 hB_cX8_step (by decide +kernel)
theorem dX8_step_193 : decode cX8_step 193 = .ok (.getfield 9, 3) := dn_getfield hB_cX8_step (by decide +kernel)
theorem dX8_step_196 : decode cX8_step 196 = .ok (.aload_n 0, 1) := dn_aload_n_0 hB_cX8_step (by decide +kernel)
theorem dX8_step_197 : decode cX8_step 197 = .ok (.getfield 35, 3) := dn_getfield hB_cX8_step (by decide +kernel)
theorem dX8_step_200 : decode cX8_step 200 = .ok (.iaload, 1) := dn_iaload hB_cX8_step (by decide +kernel)
theorem dX8_step_201 : decode cX8_step 201 = .ok (.i2c, 1) := dn_i2c hB_cX8_step (by decide +kernel)
theorem dX8_step_202 : decode cX8_step 202 = .ok (.invokevirtual 73, 3) := dn_invokevirtual hB_cX8_step (by decide +kernel)
theorem dX8_step_205 : decode cX8_step 205 = .ok (.ifCond .lt 15, 3) := dn_ifCond_lt hB_cX8_step (by decide +kernel)
theorem dX8_step_208 : decode cX8_step 208 = .ok (.aload_n 0, 1) := dn_aload_n_0 hB_cX8_step (by decide +kernel)
theorem dX8_step_209 : decode cX8_step 209 = .ok (.getfield 9, 3) := dn_getfield hB_cX8_step (by decide +kernel)
theorem dX8_step_212 : decode cX8_step 212 = .ok (.aload_n 0, 1) := dn_aload_n_0 hB_cX8_step (by decide +kernel)
theorem dX8_step_213 : decode cX8_step 213 = .ok (.getfield 35, 3) := dn_getfield hB_cX8_step (by decide +kernel)
theorem dX8_step_216 : decode cX8_step 216 = .ok (.iaload, 1) := dn_iaload hB_cX8_step (by decide +kernel)
theorem dX8_step_217 : decode cX8_step 217 = .ok (.goto 4, 3) := dn_goto hB_cX8_step (by decide +kernel)
theorem dX8_step_220 : decode cX8_step 220 = .ok (.iconst 2, 1) := dn_iconst_2 hB_cX8_step (by decide +kernel)
theorem dX8_step_221 : decode cX8_step 221 = .ok (.putfield 51, 3) := dn_putfield hB_cX8_step (by decide +kernel)
theorem dX8_step_224 : decode cX8_step 224 = .ok (.aload_n 0, 1) := dn_aload_n_0 hB_cX8_step (by decide +kernel)
theorem dX8_step_225 : decode cX8_step 225 = .ok (.dup, 1) := dn_dup hB_cX8_step (by decide +kernel)
theorem dX8_step_226 : decode cX8_step 226 = .ok (.getfield 35, 3) := dn_getfield hB_cX8_step (by decide +kernel)
theorem dX8_step_229 : decode cX8_step 229 = .ok (.iconst 1, 1) := dn_iconst_1 hB_cX8_step (by decide +kernel)
theorem dX8_step_230 : decode cX8_step 230 = .ok (.iadd, 1) := dn_iadd hB_cX8_step (by decide +kernel)
theorem dX8_step_231 : decode cX8_step 231 = .ok (.putfield 35, 3) := dn_putfield hB_cX8_step (by decide +kernel)
theorem dX8_step_234 : decode cX8_step 234 = .ok (.return_, 1) := dn_return_ hB_cX8_step (by decide +kernel)
def nB_cX8_wordNumber : Nat := 0xac020400a71b0700a02300b42a1c0f00991da4ffa70104843e043d3600b42a010184ac1b0500a02300b42a1c0d00991d1b00a70102843e030400a7040700a005152e1c0900b42a1200a22300b42a1c1a00991d26009f2010051505365500b604151100b42a5600a25200b61100b42a04150436033e043d3600b42a3c03
theorem hB_cX8_wordNumber : dnB cX8_wordNumber 125 nB_cX8_wordNumber := (by decide +kernel : cX8_wordNumber.data.toList = (List.range 125).map (fun i => UInt8.ofNat (nB_cX8_wordNumber / 256 ^ i % 256)))
theorem dX8_wordNumber_0 : decode cX8_wordNumber 0 = .ok (.iconst 0, 1) := dn_iconst_0 hB_cX8_wordNumber (by decide +kernel)
theorem dX8_wordNumber_1 : decode cX8_wordNumber 1 = .ok (.istore_n 1, 1) := dn_istore_n_1 hB_cX8_wordNumber (by decide +kernel)
theorem dX8_wordNumber_2 : decode cX8_wordNumber 2 = .ok (.aload_n 0, 1) := dn_aload_n_0 hB_cX8_wordNumber (by decide +kernel)
theorem dX8_wordNumber_3 : decode cX8_wordNumber 3 = .ok (.getfield 54, 3) := dn_getfield hB_cX8_wordNumber (by decide +kernel)
theorem dX8_wordNumber_6 : decode cX8_wordNumber 6 = .ok (.istore_n 2, 1) := dn_istore_n_2 hB_cX8_wordNumber (by decide +kernel)
theorem dX8_wordNumber_7 : decode cX8_wordNumber 7 = .ok (.iconst 1, 1) := dn_iconst_1 hB_cX8_wordNumber (by decide +kernel)
theorem dX8_wordNumber_8 : decode cX8_wordNumber 8 = .ok (.istore_n 3, 1) := dn_istore_n_3 hB_cX8_wordNumber (by decide +kernel)
theorem dX8_wordNumber_9 : decode cX8_wordNumber 9 = .ok (.iconst 0, 1) := dn_iconst_0 hB_cX8_wordNumber (by decide +kernel)
theorem dX8_wordNumber_10 : decode cX8_wordNumber 10 = .ok (.istore 4, 2) := dn_istore hB_cX8_wordNumber (by decide +kernel)
theorem dX8_wordNumber_12 : decode cX8_wordNumber 12 = .ok (.iload 4, 2) := dn_iload hB_cX8_wordNumber (by decide +kernel)
theorem dX8_wordNumber_14 : decode cX8_wordNumber 14 = .ok (.aload_n 0, 1) := dn_aload_n_0 hB_cX8_wordNumber (by decide +kernel)
theorem dX8_wordNumber_15 : decode cX8_wordNumber 15 = .ok (.getfield 17, 3) := dn_getfield hB_cX8_wordNumber (by decide +kernel)
theorem dX8_wordNumber_18 : decode cX8_wordNumber 18 = .ok (.invokevirtual 82, 3) := dn_invokevirtual hB_cX8_wordNumber (by decide +kernel)
theorem dX8_wordNumber_21 : decode cX8_wordNumber 21 = .ok (.if_icmp .ge 86, 3) := dn_if_icmp_ge hB_cX8_wordNumber (by decide +kernel)
theorem dX8_wordNumber_24 : decode cX8_wordNumber 24 = .ok (.aload_n 0, 1) := dn_aload_n_0 hB_cX8_wordNumber (by decide +kernel)
theorem dX8_wordNumber_25 : decode cX8_wordNumber 25 = .ok (.getfield 17, 3) := dn_getfield hB_cX8_wordNumber (by decide +kernel)
theorem dX8_wordNumber_28 : decode cX8_wordNumber 28 = .ok (.iload 4, 2) := dn_iload hB_cX8_wordNumber (by decide +kernel)
theorem dX8_wordNumber_30 : decode cX8_wordNumber 30 = .ok (.invokevirtual 85, 3) := dn_invokevirtual hB_cX8_wordNumber (by decide +kernel)
theorem dX8_wordNumber_33 : decode cX8_wordNumber 33 = .ok (.istore 5, 2) := dn_istore hB_cX8_wordNumber (by decide +kernel)
theorem dX8_wordNumber_35 : decode cX8_wordNumber 35 = .ok (.iload 5, 2) := dn_iload hB_cX8_wordNumber (by decide +kernel)
theorem dX8_wordNumber_37 : decode cX8_wordNumber 37 = .ok (.bipush 32, 2) := dn_bipush hB_cX8_wordNumber (by decide +kernel)
theorem dX8_wordNumber_39 : decode cX8_wordNumber 39 = .ok (.if_icmp .eq 38, 3) := dn_if_icmp_eq hB_cX8_wordNumber (by decide +kernel)
theorem dX8_wordNumber_42 : decode cX8_wordNumber 42 = .ok (.iload_n 3, 1) := dn_iload_n_3 hB_cX8_wordNumber (by decide +kernel)
theorem dX8_wordNumber_43 : decode cX8_wordNumber 43 = .ok (.ifCond .eq 26, 3) := dn_ifCond_eq hB_cX8_wordNumber (by decide +kernel)
theorem dX8_wordNumber_46 : decode cX8_wordNumber 46 = .ok (.iload_n 2, 1) := dn_iload_n_2 hB_cX8_wordNumber (by decide +kernel)
theorem dX8_wordNumber_47 : decode cX8_wordNumber 47 = .ok (.aload_n 0, 1) := dn_aload_n_0 hB_cX8_wordNumber (by decide +kernel)
theorem dX8_wordNumber_48 : decode cX8_wordNumber 48 = .ok (.getfield 35, 3) := dn_getfield hB_cX8_wordNumber (by decide +kernel)
theorem dX8_wordNumber_51 : decode cX8_wordNumber 51 = .ok (.if_icmp .ge 18, 3) := dn_if_icmp_ge hB_cX8_wordNumber (by decide +kernel)
theorem dX8_wordNumber_54 : decode cX8_wordNumber 54 = .ok (.aload_n 0, 1) := dn_aload_n_0 hB_cX8_wordNumber (by decide +kernel)
theorem dX8_wordNumber_55 : decode cX8_wordNumber 55 = .ok (.getfield 9, 3) := dn_getfield hB_cX8_wordNumber (by decide +kernel)
theorem dX8_wordNumber_58 : decode cX8_wordNumber 58 = .ok (.iload_n 2, 1) := dn_iload_n_2 hB_cX8_wordNumber (by decide +kernel)
theorem dX8_wordNumber_59 : decode cX8_wordNumber 59 = .ok (.iaload, 1) := dn_iaload hB_cX8_wordNumber (by decide +kernel)
theorem dX8_wordNumber_60 : decode cX8_wordNumber 60 = .ok (.iload 5, 2) := dn_iload hB_cX8_wordNumber (by decide +kernel)
theorem dX8_wordNumber_62 : decode cX8_wordNumber 62 = .ok (.if_icmp .ne 7, 3) := dn_if_icmp_ne hB_cX8_wordNumber (by decide +kernel)
theorem dX8_wordNumber_65 : decode cX8_wordNumber 65 = .ok (.iconst 1, 1) := dn_iconst_1 hB_cX8_wordNumber (by decide +kernel)
theorem dX8_wordNumber_66 : decode cX8_wordNumber 66 = .ok (.goto 4, 3) := dn_goto hB_cX8_wordNumber (by decide +kernel)
theorem dX8_wordNumber_69 : decode cX8_wordNumber 69 = .ok (.iconst 0, 1) := dn_iconst_0 hB_cX8_wordNumber (by decide +kernel)
theorem dX8_wordNumber_70 : decode cX8_wordNumber 70 = .ok (.istore_n 3, 1) := dn_istore_n_3 hB_cX8_wordNumber (by decide +kernel)
theorem dX8_wordNumber_71 : decode cX8_wordNumber 71 = .ok (.iinc 2 1, 3) := dn_iinc hB_cX8_wordNumber (by decide +kernel)
theorem dX8_wordNumber_74 : decode cX8_wordNumber 74 = .ok (.goto 27, 3) := dn_goto hB_cX8_wordNumber (by decide +kernel)
theorem dX8_wordNumber_77 : decode cX8_wordNumber 77 = .ok (.iload_n 3, 1) := dn_iload_n_3 hB_cX8_wordNumber (by decide +kernel)
theorem dX8_wordNumber_78 : decode cX8_wordNumber 78 = .ok (.ifCond .eq 13, 3) := dn_ifCond_eq hB_cX8_wordNumber (by decide +kernel)
theorem dX8_wordNumber_81 : decode cX8_wordNumber 81 = .ok (.iload_n 2, 1) := dn_iload_n_2 hB_cX8_wordNumber (by decide +kernel)
theorem dX8_wordNumber_82 : decode cX8_wordNumber 82 = .ok (.aload_n 0, 1) := dn_aload_n_0 hB_cX8_wordNumber (by decide +kernel)
theorem dX8_wordNumber_83 : decode cX8_wordNumber 83 = .ok (.getfield 35, 3) := dn_getfield hB_cX8_wordNumber (by decide +kernel)
theorem dX8_wordNumber_86 : decode cX8_wordNumber 86 = .ok (.if_icmp .ne 5, 3) := dn_if_icmp_ne hB_cX8_wordNumber (by decide +kernel)
theorem dX8_wordNumber_89 : decode cX8_wordNumber 89 = .ok (.iload_n 1, 1) := dn_iload_n_1 hB_cX8_wordNumber (by decide +kernel)
theorem dX8_wordNumber_90 : decode cX8_wordNumber 90 = .ok (.ireturn, 1) := dn_ireturn hB_cX8_wordNumber (by decide +kernel)
theorem dX8_wordNumber_91 : decode cX8_wordNumber 91 = .ok (.iinc 1 1, 3) := dn_iinc hB_cX8_wordNumber (by decide +kernel)
theorem dX8_wordNumber_94 : decode cX8_wordNumber 94 = .ok (.aload_n 0, 1) := dn_aload_n_0 hB_cX8_wordNumber (by decide +kernel)
theorem dX8_wordNumber_95 : decode cX8_wordNumber 95 = .ok (.getfield 54, 3) := dn_getfield hB_cX8_wordNumber (by decide +kernel)
theorem dX8_wordNumber_98 : decode cX8_wordNumber 98 = .ok (.istore_n 2, 1) := dn_istore_n_2 hB_cX8_wordNumber (by decide +kernel)
theorem dX8_wordNumber_99 : decode cX8_wordNumber 99 = .ok (.iconst 1, 1) := dn_iconst_1 hB_cX8_wordNumber (by decide +kernel)
theorem dX8_wordNumber_100 : decode cX8_wordNumber 100 = .ok (.istore_n 3, 1) := dn_istore_n_3 hB_cX8_wordNumber (by decide +kernel)
theorem dX8_wordNumber_101 : decode cX8_wordNumber 101 = .ok (.iinc 4 1, 3) := dn_iinc hB_cX8_wordNumber (by decide +kernel)
theorem dX8_wordNumber_104 : decode cX8_wordNumber 104 = .ok (.goto (-92), 3) := dn_goto hB_cX8_wordNumber (by decide +kernel)
theorem dX8_wordNumber_107 : decode cX8_wordNumber 107 = .ok (.iload_n 3, 1) := dn_iload_n_3 hB_cX8_wordNumber (by decide +kernel)
theorem dX8_wordNumber_108 : decode cX8_wordNumber 108 = .ok (.ifCond .eq 15, 3) := dn_ifCond_eq hB_cX8_wordNumber (by decide +kernel)
theorem dX8_wordNumber_111 : decode cX8_wordNumber 111 = .ok (.iload_n 2, 1) := dn_iload_n_2 hB_cX8_wordNumber (by decide +kernel)
theorem dX8_wordNumber_112 : decode cX8_wordNumber 112 = .ok (.aload_n 0, 1) := dn_aload_n_0 hB_cX8_wordNumber (by decide +kernel)
theorem dX8_wordNumber_113 : decode cX8_wordNumber 113 = .ok (.getfield 35, 3) := dn_getfield hB_cX8_wordNumber (by decide +kernel)
theorem dX8_wordNumber_116 : decode cX8_wordNumber 116 = .ok (.if_icmp .ne 7, 3) := dn_if_icmp_ne hB_cX8_wordNumber (by decide +kernel)
theorem dX8_wordNumber_119 : decode cX8_wordNumber 119 = .ok (.iload_n 1, 1) := dn_iload_n_1 hB_cX8_wordNumber (by decide +kernel)
theorem dX8_wordNumber_120 : decode cX8_wordNumber 120 = .ok (.goto 4, 3) := dn_goto hB_cX8_wordNumber (by decide +kernel)
theorem dX8_wordNumber_123 : decode cX8_wordNumber 123 = .ok (.iconst (-1), 1) := dn_iconst_m1 hB_cX8_wordNumber (by decide +kernel)
theorem dX8_wordNumber_124 : decode cX8_wordNumber 124 = .ok (.ireturn, 1) := dn_ireturn hB_cX8_wordNumber (by decide +kernel)
def nB_cX8_wordsOf : Nat := 0xb00f12b03112b02f12b02d12b02b12b029122f0000002c0000002900000026000000230000000400000000000000320000000000aa1a
theorem hB_cX8_wordsOf : dnB cX8_wordsOf 54 nB_cX8_wordsOf := (by decide +kernel : cX8_wordsOf.data.toList = (List.range 54).map (fun i => UInt8.ofNat (nB_cX8_wordsOf / 256 ^ i % 256)))
theorem dX8_wordsOf_0 : decode cX8_wordsOf 0 = .ok (.iload_n 0, 1) := dn_iload_n_0 hB_cX8_wordsOf (by decide +kernel)
theorem dX8_wordsOf_1 : decode cX8_wordsOf 1 = .ok (.tableswitch 50 0 4 #[35, 38, 41, 44, 47], 35) := by decide +kernel
theorem dX8_wordsOf_36 : decode cX8_wordsOf 36 = .ok (.ldc 41, 2) := dn_ldc hB_cX8_wordsOf (by decide +kernel)
theorem dX8_wordsOf_38 : decode cX8_wordsOf 38 = .ok (.areturn, 1) := dn_areturn hB_cX8_wordsOf (by decide +kernel)
theorem dX8_wordsOf_39 : decode cX8_wordsOf 39 = .ok (.ldc 43, 2) := dn_ldc hB_cX8_wordsOf (by decide +kernel)
theorem dX8_wordsOf_41 : decode cX8_wordsOf 41 = .ok (.areturn, 1) := dn_areturn hB_cX8_wordsOf (by decide +kernel)
theorem dX8_wordsOf_42 : decode cX8_wordsOf 42 = .ok (.ldc 45, 2) := dn_ldc hB_cX8_wordsOf (by decide +kernel)
theorem dX8_wordsOf_44 : decode cX8_wordsOf 44 = .ok (.areturn, 1) := dn_areturn hB_cX8_wordsOf (by decide +kernel)
theorem dX8_wordsOf_45 : decode cX8_wordsOf 45 = .ok (.ldc 47, 2) := dn_ldc hB_cX8_wordsOf (by decide +kernel)
theorem dX8_wordsOf_47 : decode cX8_wordsOf 47 = .ok (.areturn, 1) := dn_areturn hB_cX8_wordsOf (by decide +kernel)
theorem dX8_wordsOf_48 : decode cX8_wordsOf 48 = .ok (.ldc 49, 2) := dn_ldc hB_cX8_wordsOf (by decide +kernel)
theorem dX8_wordsOf_50 : decode cX8_wordsOf 50 = .ok (.areturn, 1) := dn_areturn hB_cX8_wordsOf (by decide +kernel)
theorem dX8_wordsOf_51 : decode cX8_wordsOf 51 = .ok (.ldc 15, 2) := dn_ldc hB_cX8_wordsOf (by decide +kernel)
theorem dX8_wordsOf_53 : decode cX8_wordsOf 53 = .ok (.areturn, 1) := dn_areturn hB_cX8_wordsOf (by decide +kernel)
theorem q_163 : Cond.initialized "java/lang/String" ∈ GW := inT_1 (List.mem_of_getElem? (i := 13) rfl) rfl
theorem q_164 : Cond.initialized "java/lang/StringLatin1" ∈ GW := inT_1 (List.mem_of_getElem? (i := 14) rfl) rfl
theorem q_165 : Cond.initialized "jdk/internal/util/Preconditions" ∈ GW := inT_1 (List.mem_of_getElem? (i := 15) rfl) rfl
set_option maxRecDepth 100000 in
theorem q_2 : Cond.selects RX8 yX8_wordNumber yX8_wordNumber ∈ GW := inG 2 rfl rfl
theorem q_2145 : Cond.fieldLink "java/lang/String" 9 "java/lang/String" "value" "[B" ∈ GW := inT_9 (List.mem_of_getElem? (i := 75) rfl) rfl
theorem q_2146 : Cond.fieldLink "java/lang/String" 15 "java/lang/String" "coder" "B" ∈ GW := inT_9 (List.mem_of_getElem? (i := 76) rfl) rfl
set_option maxRecDepth 100000 in
theorem q_3 : Cond.selects RX8 yX8_readNumber yX8_readNumber ∈ GW := inG 3 rfl rfl
theorem q_540 : Cond.fieldLink RX8 17 "LampRound$Tape" "words" "Ljava/lang/String;" ∈ GW := inT_2 (List.mem_of_getElem? (i := 150) rfl) rfl
theorem q_714 : Cond.methodLink RX8 28 yX8_wordsOf ∈ GW := inT_3 (List.mem_of_getElem? (i := 84) rfl) rfl
theorem q_715 : Cond.static yX8_wordsOf ∈ GW := inT_3 (List.mem_of_getElem? (i := 85) rfl) rfl
theorem q_716 : Cond.code yX8_wordsOf cX8_wordsOf 1 (some (.object "java/lang/String")) ∈ GW := inT_3 (List.mem_of_getElem? (i := 86) rfl) rfl
theorem q_722 : Cond.methodLink RX8 38 yX8_step ∈ GW := inT_3 (List.mem_of_getElem? (i := 92) rfl) rfl
theorem q_723 : Cond.instanceMethod yX8_step ∈ GW := inT_3 (List.mem_of_getElem? (i := 93) rfl) rfl
theorem q_724 : Cond.selects RX8 yX8_step yX8_step ∈ GW := inT_3 (List.mem_of_getElem? (i := 94) rfl) rfl
theorem q_725 : Cond.code yX8_step cX8_step 2 none ∈ GW := inT_3 (List.mem_of_getElem? (i := 95) rfl) rfl
theorem q_726 : Cond.methodLink RX8 57 yX8_isLetter ∈ GW := inT_3 (List.mem_of_getElem? (i := 96) rfl) rfl
theorem q_727 : Cond.static yX8_isLetter ∈ GW := inT_3 (List.mem_of_getElem? (i := 97) rfl) rfl
theorem q_728 : Cond.code yX8_isLetter cX8_isLetter 1 (some .boolean) ∈ GW := inT_3 (List.mem_of_getElem? (i := 98) rfl) rfl
theorem q_729 : Cond.methodLink RX8 61 yX8_wordNumber ∈ GW := inT_3 (List.mem_of_getElem? (i := 99) rfl) rfl
theorem q_731 : Cond.instanceMethod yX8_wordNumber ∈ GW := inT_3 (List.mem_of_getElem? (i := 101) rfl) rfl
theorem q_732 : Cond.code yX8_wordNumber cX8_wordNumber 6 (some .int) ∈ GW := inT_3 (List.mem_of_getElem? (i := 102) rfl) rfl
theorem q_733 : Cond.methodLink RX8 82 yJ0_length_8abf5 ∈ GW := inT_3 (List.mem_of_getElem? (i := 103) rfl) rfl
theorem q_734 : Cond.instanceMethod yJ0_length_8abf5 ∈ GW := inT_3 (List.mem_of_getElem? (i := 104) rfl) rfl
theorem q_735 : Cond.selects "java/lang/String" yJ0_length_8abf5 yJ0_length_8abf5 ∈ GW := inT_3 (List.mem_of_getElem? (i := 105) rfl) rfl
theorem q_736 : Cond.code yJ0_length_8abf5 cJ0_length_8abf5 1 (some .int) ∈ GW := inT_3 (List.mem_of_getElem? (i := 106) rfl) rfl
theorem q_737 : Cond.methodLink "java/lang/String" 335 yJ0_coder_7d493 ∈ GW := inT_3 (List.mem_of_getElem? (i := 107) rfl) rfl
theorem q_738 : Cond.instanceMethod yJ0_coder_7d493 ∈ GW := inT_3 (List.mem_of_getElem? (i := 108) rfl) rfl
theorem q_739 : Cond.selects "java/lang/String" yJ0_coder_7d493 yJ0_coder_7d493 ∈ GW := inT_3 (List.mem_of_getElem? (i := 109) rfl) rfl
theorem q_740 : Cond.code yJ0_coder_7d493 cJ0_coder_7d493 1 (some .byte) ∈ GW := inT_3 (List.mem_of_getElem? (i := 110) rfl) rfl
theorem q_741 : Cond.fieldLink "java/lang/String" 38 "java/lang/String" "COMPACT_STRINGS" "Z" ∈ GW := inT_3 (List.mem_of_getElem? (i := 111) rfl) rfl
theorem q_743 : Cond.methodLink RX8 85 yJ0_charAt_5068e ∈ GW := inT_3 (List.mem_of_getElem? (i := 113) rfl) rfl
theorem q_744 : Cond.instanceMethod yJ0_charAt_5068e ∈ GW := inT_3 (List.mem_of_getElem? (i := 114) rfl) rfl
theorem q_745 : Cond.selects "java/lang/String" yJ0_charAt_5068e yJ0_charAt_5068e ∈ GW := inT_3 (List.mem_of_getElem? (i := 115) rfl) rfl
theorem q_746 : Cond.code yJ0_charAt_5068e cJ0_charAt_5068e 2 (some .char) ∈ GW := inT_3 (List.mem_of_getElem? (i := 116) rfl) rfl
theorem q_747 : Cond.methodLink "java/lang/String" 492 yJ0_isLatin1_aae02 ∈ GW := inT_3 (List.mem_of_getElem? (i := 117) rfl) rfl
theorem q_748 : Cond.instanceMethod yJ0_isLatin1_aae02 ∈ GW := inT_3 (List.mem_of_getElem? (i := 118) rfl) rfl
theorem q_749 : Cond.selects "java/lang/String" yJ0_isLatin1_aae02 yJ0_isLatin1_aae02 ∈ GW := inT_3 (List.mem_of_getElem? (i := 119) rfl) rfl
theorem q_750 : Cond.code yJ0_isLatin1_aae02 cJ0_isLatin1_aae02 1 (some .boolean) ∈ GW := inT_3 (List.mem_of_getElem? (i := 120) rfl) rfl
theorem q_751 : Cond.methodLink "java/lang/String" 495 yJ1_charAt_3b067 ∈ GW := inT_3 (List.mem_of_getElem? (i := 121) rfl) rfl
theorem q_752 : Cond.static yJ1_charAt_3b067 ∈ GW := inT_3 (List.mem_of_getElem? (i := 122) rfl) rfl
theorem q_753 : Cond.code yJ1_charAt_3b067 cJ1_charAt_3b067 2 (some .char) ∈ GW := inT_3 (List.mem_of_getElem? (i := 123) rfl) rfl
theorem q_754 : Cond.methodLink "java/lang/StringLatin1" 9 yJ0_checkIndex_df160 ∈ GW := inT_3 (List.mem_of_getElem? (i := 124) rfl) rfl
theorem q_755 : Cond.static yJ0_checkIndex_df160 ∈ GW := inT_3 (List.mem_of_getElem? (i := 125) rfl) rfl
theorem q_756 : Cond.code yJ0_checkIndex_df160 cJ0_checkIndex_df160 2 none ∈ GW := inT_3 (List.mem_of_getElem? (i := 126) rfl) rfl
theorem q_757 : Cond.fieldLink "java/lang/String" 1053 "jdk/internal/util/Preconditions" "SIOOBE_FORMATTER" "Ljava/util/function/BiFunction;" ∈ GW := inT_3 (List.mem_of_getElem? (i := 127) rfl) rfl
theorem q_759 : Cond.methodLink "java/lang/String" 1059 yJ3_checkIndex_8e157 ∈ GW := inT_3 (List.mem_of_getElem? (i := 129) rfl) rfl
theorem q_760 : Cond.static yJ3_checkIndex_8e157 ∈ GW := inT_3 (List.mem_of_getElem? (i := 130) rfl) rfl
theorem q_761 : Cond.code yJ3_checkIndex_8e157 cJ3_checkIndex_8e157 3 (some .int) ∈ GW := inT_3 (List.mem_of_getElem? (i := 131) rfl) rfl
theorem q_784 : Cond.methodLink RX8 68 yX8_readNumber ∈ GW := inT_3 (List.mem_of_getElem? (i := 154) rfl) rfl
theorem q_786 : Cond.instanceMethod yX8_readNumber ∈ GW := inT_3 (List.mem_of_getElem? (i := 156) rfl) rfl
theorem q_787 : Cond.code yX8_readNumber cX8_readNumber 1 none ∈ GW := inT_3 (List.mem_of_getElem? (i := 157) rfl) rfl
theorem q_789 : Cond.methodLink RX8 73 yJ0_indexOf_0f7a4 ∈ GW := inT_3 (List.mem_of_getElem? (i := 159) rfl) rfl
theorem q_790 : Cond.instanceMethod yJ0_indexOf_0f7a4 ∈ GW := inT_3 (List.mem_of_getElem? (i := 160) rfl) rfl
theorem q_791 : Cond.selects "java/lang/String" yJ0_indexOf_0f7a4 yJ0_indexOf_0f7a4 ∈ GW := inT_3 (List.mem_of_getElem? (i := 161) rfl) rfl
theorem q_792 : Cond.code yJ0_indexOf_0f7a4 cJ0_indexOf_0f7a4 2 (some .int) ∈ GW := inT_3 (List.mem_of_getElem? (i := 162) rfl) rfl
theorem q_793 : Cond.methodLink "java/lang/String" 633 yJ0_indexOf_7cf53 ∈ GW := inT_3 (List.mem_of_getElem? (i := 163) rfl) rfl
theorem q_794 : Cond.instanceMethod yJ0_indexOf_7cf53 ∈ GW := inT_3 (List.mem_of_getElem? (i := 164) rfl) rfl
theorem q_795 : Cond.selects "java/lang/String" yJ0_indexOf_7cf53 yJ0_indexOf_7cf53 ∈ GW := inT_3 (List.mem_of_getElem? (i := 165) rfl) rfl
theorem q_796 : Cond.code yJ0_indexOf_7cf53 cJ0_indexOf_7cf53 3 (some .int) ∈ GW := inT_3 (List.mem_of_getElem? (i := 166) rfl) rfl
theorem q_797 : Cond.methodLink "java/lang/String" 505 yJ0_length_8abf5 ∈ GW := inT_3 (List.mem_of_getElem? (i := 167) rfl) rfl
theorem q_798 : Cond.methodLink "java/lang/String" 637 yJ1_indexOf_4cfef ∈ GW := inT_3 (List.mem_of_getElem? (i := 168) rfl) rfl
theorem q_799 : Cond.static yJ1_indexOf_4cfef ∈ GW := inT_3 (List.mem_of_getElem? (i := 169) rfl) rfl
theorem q_800 : Cond.code yJ1_indexOf_4cfef cJ1_indexOf_4cfef 4 (some .int) ∈ GW := inT_3 (List.mem_of_getElem? (i := 170) rfl) rfl
theorem q_801 : Cond.methodLink "java/lang/StringLatin1" 88 yJ1_canEncode_9a6ad ∈ GW := inT_3 (List.mem_of_getElem? (i := 171) rfl) rfl
theorem q_802 : Cond.static yJ1_canEncode_9a6ad ∈ GW := inT_3 (List.mem_of_getElem? (i := 172) rfl) rfl
theorem q_803 : Cond.code yJ1_canEncode_9a6ad cJ1_canEncode_9a6ad 1 (some .boolean) ∈ GW := inT_3 (List.mem_of_getElem? (i := 173) rfl) rfl
theorem q_804 : Cond.methodLink "java/lang/StringLatin1" 92 yJ9_max_7cf53 ∈ GW := inT_3 (List.mem_of_getElem? (i := 174) rfl) rfl
theorem q_807 : Cond.methodLink "java/lang/StringLatin1" 38 yJ9_min_7cf53 ∈ GW := inT_3 (List.mem_of_getElem? (i := 177) rfl) rfl
theorem q_810 : Cond.methodLink "java/lang/StringLatin1" 95 yJ1_indexOfChar_4cfef ∈ GW := inT_3 (List.mem_of_getElem? (i := 180) rfl) rfl
theorem q_811 : Cond.static yJ1_indexOfChar_4cfef ∈ GW := inT_3 (List.mem_of_getElem? (i := 181) rfl) rfl
theorem q_812 : Cond.code yJ1_indexOfChar_4cfef cJ1_indexOfChar_4cfef 6 (some .int) ∈ GW := inT_3 (List.mem_of_getElem? (i := 182) rfl) rfl
theorem q_857 : Cond.instanceMethod yX8_refuse ∈ GW := inT_3 (List.mem_of_getElem? (i := 227) rfl) rfl
theorem q_858 : Cond.selects RX8 yX8_refuse yX8_refuse ∈ GW := inT_3 (List.mem_of_getElem? (i := 228) rfl) rfl
theorem q_859 : Cond.code yX8_refuse cX8_refuse 2 none ∈ GW := inT_3 (List.mem_of_getElem? (i := 229) rfl) rfl
theorem q_864 : Cond.methodLink RX8 89 yX8_refuse ∈ GW := inT_3 (List.mem_of_getElem? (i := 234) rfl) rfl
theorem hdV_J0_charAt_5068e : yJ0_charAt_5068e.cls = RJ0 ∧ yJ0_charAt_5068e.cls ≠ "java/lang/invoke/MethodHandle" ∧ yJ0_charAt_5068e.cls ≠ "java/lang/invoke/VarHandle" ∧ (parseMethodDescriptor yJ0_charAt_5068e.desc).map (fun d => d.parameters.length) = some 1 := by decide +kernel
theorem hdV_J0_coder_7d493 : yJ0_coder_7d493.cls = RJ0 ∧ yJ0_coder_7d493.cls ≠ "java/lang/invoke/MethodHandle" ∧ yJ0_coder_7d493.cls ≠ "java/lang/invoke/VarHandle" ∧ (parseMethodDescriptor yJ0_coder_7d493.desc).map (fun d => d.parameters.length) = some 0 := by decide +kernel
theorem hdV_J0_indexOf_0f7a4 : yJ0_indexOf_0f7a4.cls = RJ0 ∧ yJ0_indexOf_0f7a4.cls ≠ "java/lang/invoke/MethodHandle" ∧ yJ0_indexOf_0f7a4.cls ≠ "java/lang/invoke/VarHandle" ∧ (parseMethodDescriptor yJ0_indexOf_0f7a4.desc).map (fun d => d.parameters.length) = some 1 := by decide +kernel
theorem hdV_J0_indexOf_7cf53 : yJ0_indexOf_7cf53.cls = RJ0 ∧ yJ0_indexOf_7cf53.cls ≠ "java/lang/invoke/MethodHandle" ∧ yJ0_indexOf_7cf53.cls ≠ "java/lang/invoke/VarHandle" ∧ (parseMethodDescriptor yJ0_indexOf_7cf53.desc).map (fun d => d.parameters.length) = some 2 := by decide +kernel
theorem hdV_J0_isLatin1_aae02 : yJ0_isLatin1_aae02.cls = RJ0 ∧ yJ0_isLatin1_aae02.cls ≠ "java/lang/invoke/MethodHandle" ∧ yJ0_isLatin1_aae02.cls ≠ "java/lang/invoke/VarHandle" ∧ (parseMethodDescriptor yJ0_isLatin1_aae02.desc).map (fun d => d.parameters.length) = some 0 := by decide +kernel
theorem hdV_J0_length_8abf5 : yJ0_length_8abf5.cls = RJ0 ∧ yJ0_length_8abf5.cls ≠ "java/lang/invoke/MethodHandle" ∧ yJ0_length_8abf5.cls ≠ "java/lang/invoke/VarHandle" ∧ (parseMethodDescriptor yJ0_length_8abf5.desc).map (fun d => d.parameters.length) = some 0 := by decide +kernel
theorem hdV_J1_canEncode_9a6ad : yJ1_canEncode_9a6ad.cls = RJ1 ∧ yJ1_canEncode_9a6ad.cls ≠ "java/lang/invoke/MethodHandle" ∧ yJ1_canEncode_9a6ad.cls ≠ "java/lang/invoke/VarHandle" ∧ (parseMethodDescriptor yJ1_canEncode_9a6ad.desc).map (fun d => d.parameters.length) = some 1 := by decide +kernel
theorem hdV_J1_indexOfChar_4cfef : yJ1_indexOfChar_4cfef.cls = RJ1 ∧ yJ1_indexOfChar_4cfef.cls ≠ "java/lang/invoke/MethodHandle" ∧ yJ1_indexOfChar_4cfef.cls ≠ "java/lang/invoke/VarHandle" ∧ (parseMethodDescriptor yJ1_indexOfChar_4cfef.desc).map (fun d => d.parameters.length) = some 4 := by decide +kernel
theorem hdV_X8_isLetter : yX8_isLetter.cls = RX8 ∧ yX8_isLetter.cls ≠ "java/lang/invoke/MethodHandle" ∧ yX8_isLetter.cls ≠ "java/lang/invoke/VarHandle" ∧ (parseMethodDescriptor yX8_isLetter.desc).map (fun d => d.parameters.length) = some 1 := by decide +kernel
theorem hdV_X8_readNumber : yX8_readNumber.cls = RX8 ∧ yX8_readNumber.cls ≠ "java/lang/invoke/MethodHandle" ∧ yX8_readNumber.cls ≠ "java/lang/invoke/VarHandle" ∧ (parseMethodDescriptor yX8_readNumber.desc).map (fun d => d.parameters.length) = some 0 := by decide +kernel
theorem hdV_X8_refuse : yX8_refuse.cls = RX8 ∧ yX8_refuse.cls ≠ "java/lang/invoke/MethodHandle" ∧ yX8_refuse.cls ≠ "java/lang/invoke/VarHandle" ∧ (parseMethodDescriptor yX8_refuse.desc).map (fun d => d.parameters.length) = some 1 := by decide +kernel
theorem hdV_X8_step : yX8_step.cls = RX8 ∧ yX8_step.cls ≠ "java/lang/invoke/MethodHandle" ∧ yX8_step.cls ≠ "java/lang/invoke/VarHandle" ∧ (parseMethodDescriptor yX8_step.desc).map (fun d => d.parameters.length) = some 0 := by decide +kernel
theorem hdV_X8_wordNumber : yX8_wordNumber.cls = RX8 ∧ yX8_wordNumber.cls ≠ "java/lang/invoke/MethodHandle" ∧ yX8_wordNumber.cls ≠ "java/lang/invoke/VarHandle" ∧ (parseMethodDescriptor yX8_wordNumber.desc).map (fun d => d.parameters.length) = some 0 := by decide +kernel
theorem hdV_X8_wordsOf : yX8_wordsOf.cls = RX8 ∧ yX8_wordsOf.cls ≠ "java/lang/invoke/MethodHandle" ∧ yX8_wordsOf.cls ≠ "java/lang/invoke/VarHandle" ∧ (parseMethodDescriptor yX8_wordsOf.desc).map (fun d => d.parameters.length) = some 1 := by decide +kernel
theorem hdS_J0_checkIndex_df160 : yJ0_checkIndex_df160.cls ≠ "java/lang/invoke/MethodHandle" ∧ yJ0_checkIndex_df160.cls ≠ "java/lang/invoke/VarHandle" ∧ (parseMethodDescriptor yJ0_checkIndex_df160.desc).map (fun d => d.parameters.length) = some 2 := by decide +kernel
theorem hdS_J1_charAt_3b067 : yJ1_charAt_3b067.cls ≠ "java/lang/invoke/MethodHandle" ∧ yJ1_charAt_3b067.cls ≠ "java/lang/invoke/VarHandle" ∧ (parseMethodDescriptor yJ1_charAt_3b067.desc).map (fun d => d.parameters.length) = some 2 := by decide +kernel
theorem hdS_J1_indexOf_4cfef : yJ1_indexOf_4cfef.cls ≠ "java/lang/invoke/MethodHandle" ∧ yJ1_indexOf_4cfef.cls ≠ "java/lang/invoke/VarHandle" ∧ (parseMethodDescriptor yJ1_indexOf_4cfef.desc).map (fun d => d.parameters.length) = some 4 := by decide +kernel
theorem hdS_J3_checkIndex_8e157 : yJ3_checkIndex_8e157.cls ≠ "java/lang/invoke/MethodHandle" ∧ yJ3_checkIndex_8e157.cls ≠ "java/lang/invoke/VarHandle" ∧ (parseMethodDescriptor yJ3_checkIndex_8e157.desc).map (fun d => d.parameters.length) = some 3 := by decide +kernel
