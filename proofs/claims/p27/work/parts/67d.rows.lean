set_option maxHeartbeats 4000000 in
set_option maxRecDepth 100000 in
theorem t_readPath (l : Launch) (D : va_G) (cI cJ : ClassId) (sz : Nat) (mr : Nat → Nat) (mi : Nat → Int32) (mf : Nat → Nat → Int32) (mg : Nat → Nat → Int64) (z_houses : Int32) (ad av : Nat → Nat) (tf : Value) (h0 : 0 ≤ (mi 10).toInt ∧ (mi 10).toInt ≤ 400) (h1 : 0 ≤ (mi 12).toInt) (h2 : (mi 12).toInt ≤ (mi 10).toInt) (h3 : 0 ≤ (mi 11).toInt ∧ (mi 11).toInt ≤ 6) (h4 : 0 ≤ (mi 16).toInt ∧ (mi 16).toInt ≤ 4) (h5 : 0 ≤ z_houses.toInt ∧ z_houses.toInt ≤ 10) (h6 : 0 ≤ (mi 5).toInt ∧ (mi 5).toInt ≤ 40) (a_from : p9 (mf 1)) (a_to : p9 (mf 2)) (a_length : l99 (mf 3)) : Met l yX5_readPath (Cond.code yX5_readPath cX5_readPath 7 none :: GW) ({ frames := 8, cells := 0, slots := 0, locals := 194 } : Room) (va_Pc [.ref (mr 0), .ref (mr 8), .int z_houses] (PW D cI cJ sz (WZ_PathsT cI cJ ad mr mi mf mg) (xT8 ad av tf (va_A (WZ_PathsT cI cJ ad mr mi mf mg) sz)))) (va_Qv (fun (u : Int32 × Int32 × Int32 × Int32 × Int32 × Int32 × (Nat → Int32) × (Nat → Int32) × (Nat → Int32) × (Nat → Int32) × Int32) => (0 ≤ u.1.toInt) ∧ (u.1.toInt ≤ (mi 10).toInt) ∧ (0 ≤ u.2.2.2.2.1.toInt) ∧ (u.2.2.2.2.1.toInt ≤ 4) ∧ (0 ≤ u.2.2.2.2.2.2.2.2.2.2.toInt) ∧ (u.2.2.2.2.2.2.2.2.2.2.toInt ≤ 40) ∧ (p9 u.2.2.2.2.2.2.1) ∧ (p9 u.2.2.2.2.2.2.2.1) ∧ (l99 u.2.2.2.2.2.2.2.2.1)) (fun u => QW D cI cJ (va_A (WZ_PathsT cI cJ ad mr mi mf mg) sz) ((fun (u : Int32 × Int32 × Int32 × Int32 × Int32 × Int32 × (Nat → Int32) × (Nat → Int32) × (Nat → Int32) × (Nat → Int32) × Int32) => (WZ_PathsT cI cJ ad mr (upd (upd (upd (upd (upd (upd (upd mi 12 u.1) 15 u.2.1) 13 u.2.2.1) 14 u.2.2.2.1) 16 u.2.2.2.2.1) 17 u.2.2.2.2.2.1) 5 u.2.2.2.2.2.2.2.2.2.2) (va_up (va_up (va_up (va_up mf 1 u.2.2.2.2.2.2.1) 2 u.2.2.2.2.2.2.2.1) 3 u.2.2.2.2.2.2.2.2.1) 4 u.2.2.2.2.2.2.2.2.2.1) mg)) u)) (va_A (WZ_PathsT cI cJ ad mr mi mf mg) sz)) 0 0 (va_A (WZ_PathsT cI cJ ad mr mi mf mg) sz) := by
  refine mk_metA (X := fun A => xT8 ad av tf A) (y := yX5_readPath) (bytes := cX5_readPath) (maxL := 7) (avs := [.ref (mr 0), .ref (mr 8), .int z_houses]) (WS := (WZ_PathsT cI cJ ad mr mi mf mg)) (Qf := fun A => va_Qv (fun (u : Int32 × Int32 × Int32 × Int32 × Int32 × Int32 × (Nat → Int32) × (Nat → Int32) × (Nat → Int32) × (Nat → Int32) × Int32) => (0 ≤ u.1.toInt) ∧ (u.1.toInt ≤ (mi 10).toInt) ∧ (0 ≤ u.2.2.2.2.1.toInt) ∧ (u.2.2.2.2.1.toInt ≤ 4) ∧ (0 ≤ u.2.2.2.2.2.2.2.2.2.2.toInt) ∧ (u.2.2.2.2.2.2.2.2.2.2.toInt ≤ 40) ∧ (p9 u.2.2.2.2.2.2.1) ∧ (p9 u.2.2.2.2.2.2.2.1) ∧ (l99 u.2.2.2.2.2.2.2.2.1)) (fun u => QW D cI cJ A ((fun (u : Int32 × Int32 × Int32 × Int32 × Int32 × Int32 × (Nat → Int32) × (Nat → Int32) × (Nat → Int32) × (Nat → Int32) × Int32) => (WZ_PathsT cI cJ ad mr (upd (upd (upd (upd (upd (upd (upd mi 12 u.1) 15 u.2.1) 13 u.2.2.1) 14 u.2.2.2.1) 16 u.2.2.2.2.1) 17 u.2.2.2.2.2.1) 5 u.2.2.2.2.2.2.2.2.2.2) (va_up (va_up (va_up (va_up mf 1 u.2.2.2.2.2.2.1) 2 u.2.2.2.2.2.2.2.1) 3 u.2.2.2.2.2.2.2.2.1) 4 u.2.2.2.2.2.2.2.2.2.1) mg)) u)) A) (by decide) (Nat.le_of_ble_eq_true rfl) ?_
  intro p e s m below meth c A ls E hr hlk hnm hX hw1 hl2
  have hl3 : lv_has ls 7 [(0, .ref (mr 0)), (1, .ref (mr 8)), (2, .int z_houses)] := hl2
  refine lv_aload_n (pc := 0) E.1 E.2.1 dX5_readPath_0 rfl (lv_at hl3 1 rfl) ?_
  refine lv_sipush (pc := 1) (v := 256) E.1 E.2.1 dX5_readPath_1 (by decide +kernel) ?_
  refine cq_v (pc := 4) (ws' := (fun (u : Int32 × Int32 × Int32 × Int32 × Int32 × Int32) => (WZ_PathsT cI cJ ad mr (upd (upd (upd (upd (upd (upd mi 12 u.1) 13 u.2.2.1) 14 u.2.2.2.1) 15 u.2.1) 16 u.2.2.2.2.1) 17 u.2.2.2.2.2) mf mg))) hw1 [7, 8] [0, 1, 2, 3, 4, 5, 6] [0, 1, 2, 3, 4, 5, 6, 7, 8] rfl rfl (by decide) (by decide) (fun _ => rfl) (by decide) (rn_V (As := [.int 256]) (rest := []) E hw1 (t_pass l D cI cJ _ (ixf [8, 9, 10, 11, 12, 13, 14, 15, 16, 17] mr) (ixf [8, 9, 10, 11, 12, 13, 14, 15, 16, 17] mi) (ixf [8, 9, 10, 11, 12, 13, 14, 15, 16, 17] mf) (ixf [8, 9, 10, 11, 12, 13, 14, 15, 16, 17] mg) 256 ad av tf (by show 0 ≤ (mi 10).toInt ∧ (mi 10).toInt ≤ 400; omega) (by show 0 ≤ (mi 12).toInt; omega) (by show (mi 12).toInt ≤ (mi 10).toInt; omega) (by show 0 ≤ (mi 11).toInt ∧ (mi 11).toInt ≤ 6; omega) (by show 0 ≤ (mi 16).toInt ∧ (mi 16).toInt ≤ 4; omega)) (gdV q_920 q_861 q_862 q_160 q_863) hdV_X8_pass ⟨rfl, rfl⟩ ⟨(Nat.le_of_ble_eq_true rfl), (Nat.le_of_ble_eq_true rfl)⟩ ⟨(Nat.le_of_ble_eq_true rfl), (Nat.le_of_ble_eq_true rfl)⟩ xT8_b (xT8_at hX hw1.2.2.1 (va_free hw1.2.1 hw1.2.2.1 hw1.2.2.2 [7, 8] rfl)) 7 8 rfl rfl rfl [7, 8] rfl (by decide) rfl hl3.1 rfl (Nat.le_of_ble_eq_true rfl) dX5_readPath_4) (fun u_4 H1 locs hp hw6 => ?_)
  obtain ⟨nat_7, nplace_8, nkind_9, nvalue_10, nfault_11, nfaultPlace_12⟩ := u_4
  generalize H1 = H at hw6 ⊢
  have hw13 : WD D A s.heap (WZ_PathsT cI cJ ad mr (upd (upd (upd (upd (upd (upd mi 12 nat_7) 13 nkind_9) 14 nvalue_10) 15 nplace_8) 16 nfault_11) 17 nfaultPlace_12) mf mg) H locs := hw6
  obtain ⟨hp_14, hp_15, hp_16, hp_17⟩ := hp
  have hp_14 : 0 ≤ nat_7.toInt := hp_14
  have hp_15 : nat_7.toInt ≤ (mi 10).toInt := hp_15
  have hp_16 : 0 ≤ nfault_11.toInt := hp_16
  have hp_17 : nfault_11.toInt ≤ 4 := hp_17
  refine lv_aload_n (pc := 7) E.1 E.2.1 dX5_readPath_7 rfl (lv_at hl3 1 rfl) ?_
  refine lv_iconst (pc := 8) (v := 0) E.1 E.2.1 dX5_readPath_8 (by decide +kernel) ?_
  refine lv_iload_n (pc := 9) E.1 E.2.1 dX5_readPath_9 rfl (lv_at hl3 2 rfl) ?_
  refine lv_iconst (pc := 10) (v := 1) E.1 E.2.1 dX5_readPath_10 (by decide +kernel) ?_
  refine lv_isub (pc := 11) E.1 E.2.1 dX5_readPath_11 ?_
  refine lv_topi (fun v_18 ev_18 => ?_)
  have hv_18 : v_18.toInt = z_houses.toInt - 1 := by rw [ev_18]; exact subE rfl (by decide +kernel) (by omega)
  refine cq_i (pc := 12) (ws' := (fun (u : Int32 × Int32 × Int32 × Int32 × Int32 × Int32) => (WZ_PathsT cI cJ ad mr (upd (upd (upd (upd (upd (upd mi 12 u.1) 13 u.2.2.1) 14 u.2.2.2.1) 15 u.2.1) 16 u.2.2.2.2.1) 17 u.2.2.2.2.2) mf mg))) hw13 [7, 8] [0, 1, 2, 3, 4, 5, 6] [0, 1, 2, 3, 4, 5, 6, 7, 8] rfl rfl (by decide) (by decide) (fun _ => rfl) (by decide) (rn_V (As := [.int 0, .int v_18]) (rest := []) E hw13 (t_numberB l D cI cJ _ (ixf [8, 9, 10, 11, 12, 13, 14, 15, 16, 17] mr) (ixf [8, 9, 10, 11, 12, 13, 14, 15, 16, 17] (upd (upd (upd (upd (upd (upd mi 12 nat_7) 13 nkind_9) 14 nvalue_10) 15 nplace_8) 16 nfault_11) 17 nfaultPlace_12)) (ixf [8, 9, 10, 11, 12, 13, 14, 15, 16, 17] mf) (ixf [8, 9, 10, 11, 12, 13, 14, 15, 16, 17] mg) 0 v_18 ad av tf (by show 0 ≤ (mi 10).toInt ∧ (mi 10).toInt ≤ 400; omega) (by show 0 ≤ nat_7.toInt; omega) (by show nat_7.toInt ≤ (mi 10).toInt; omega) (by show 0 ≤ (mi 11).toInt ∧ (mi 11).toInt ≤ 6; omega) (by show 0 ≤ nfault_11.toInt ∧ nfault_11.toInt ≤ 4; omega) (by show 0 ≤ (0 : Int32).toInt; have k_0 : (0 : Int32).toInt = 0 := (by decide +kernel); omega) (by show (0 : Int32).toInt ≤ 9; have k_0 : (0 : Int32).toInt = 0 := (by decide +kernel); omega) (by show v_18.toInt ≤ 9; omega)) (gdV q_921 q_879 q_880 q_160 q_881) hdV_X8_number ⟨rfl, rfl⟩ ⟨(Nat.le_of_ble_eq_true rfl), (Nat.le_of_ble_eq_true rfl)⟩ ⟨(Nat.le_of_ble_eq_true rfl), (Nat.le_of_ble_eq_true rfl)⟩ xT8_b (xT8_at hX hw13.2.2.1 (va_free hw13.2.1 hw13.2.2.1 hw13.2.2.2 [7, 8] rfl)) 7 8 rfl rfl rfl [7, 8] rfl (by decide) rfl hl3.1 rfl (Nat.le_of_ble_eq_true rfl) dX5_readPath_12) (fun r_20 u_19 H1 locs hp hw21 => ?_)
  obtain ⟨nat_22, nplace_23, nkind_24, nvalue_25, nfault_26, nfaultPlace_27⟩ := u_19
  generalize H1 = H at hw21 ⊢
  have hw28 : WD D A s.heap (WZ_PathsT cI cJ ad mr (upd (upd (upd (upd (upd (upd mi 12 nat_22) 13 nkind_24) 14 nvalue_25) 15 nplace_23) 16 nfault_26) 17 nfaultPlace_27) mf mg) H locs := hw21
  obtain ⟨hp_29, hp_30, hp_31, hp_32, hp_33, hp_34⟩ := hp
  have hp_29 : 0 ≤ nat_22.toInt := hp_29
  have hp_30 : nat_22.toInt ≤ (mi 10).toInt := hp_30
  have hp_31 : 0 ≤ nfault_26.toInt := hp_31
  have hp_32 : nfault_26.toInt ≤ 4 := hp_32
  have hp_33 : 0 ≤ r_20.toInt := hp_33
  have hp_34 : r_20.toInt ≤ 9 := hp_34
  refine lv_istore_n (pc := 15) (lv' := [(3, .int r_20), (0, .ref (mr 0)), (1, .ref (mr 8)), (2, .int z_houses)]) E.1 E.2.1 dX5_readPath_15 rfl hl3 (by decide) rfl (fun ls hl35 => ?_)
  refine lv_aload_n (pc := 16) E.1 E.2.1 dX5_readPath_16 rfl (lv_at hl35 2 rfl) ?_
  refine lv_sipush (pc := 17) (v := 257) E.1 E.2.1 dX5_readPath_17 (by decide +kernel) ?_
  refine cq_v (pc := 20) (ws' := (fun (u : Int32 × Int32 × Int32 × Int32 × Int32 × Int32) => (WZ_PathsT cI cJ ad mr (upd (upd (upd (upd (upd (upd mi 12 u.1) 13 u.2.2.1) 14 u.2.2.2.1) 15 u.2.1) 16 u.2.2.2.2.1) 17 u.2.2.2.2.2) mf mg))) hw28 [7, 8] [0, 1, 2, 3, 4, 5, 6] [0, 1, 2, 3, 4, 5, 6, 7, 8] rfl rfl (by decide) (by decide) (fun _ => rfl) (by decide) (rn_V (As := [.int 257]) (rest := []) E hw28 (t_pass l D cI cJ _ (ixf [8, 9, 10, 11, 12, 13, 14, 15, 16, 17] mr) (ixf [8, 9, 10, 11, 12, 13, 14, 15, 16, 17] (upd (upd (upd (upd (upd (upd mi 12 nat_22) 13 nkind_24) 14 nvalue_25) 15 nplace_23) 16 nfault_26) 17 nfaultPlace_27)) (ixf [8, 9, 10, 11, 12, 13, 14, 15, 16, 17] mf) (ixf [8, 9, 10, 11, 12, 13, 14, 15, 16, 17] mg) 257 ad av tf (by show 0 ≤ (mi 10).toInt ∧ (mi 10).toInt ≤ 400; omega) (by show 0 ≤ nat_22.toInt; omega) (by show nat_22.toInt ≤ (mi 10).toInt; omega) (by show 0 ≤ (mi 11).toInt ∧ (mi 11).toInt ≤ 6; omega) (by show 0 ≤ nfault_26.toInt ∧ nfault_26.toInt ≤ 4; omega)) (gdV q_920 q_861 q_862 q_160 q_863) hdV_X8_pass ⟨rfl, rfl⟩ ⟨(Nat.le_of_ble_eq_true rfl), (Nat.le_of_ble_eq_true rfl)⟩ ⟨(Nat.le_of_ble_eq_true rfl), (Nat.le_of_ble_eq_true rfl)⟩ xT8_b (xT8_at hX hw28.2.2.1 (va_free hw28.2.1 hw28.2.2.1 hw28.2.2.2 [7, 8] rfl)) 7 8 rfl rfl rfl [7, 8] rfl (by decide) rfl hl35.1 rfl (Nat.le_of_ble_eq_true rfl) dX5_readPath_20) (fun u_36 H1 locs hp hw38 => ?_)
  obtain ⟨nat_39, nplace_40, nkind_41, nvalue_42, nfault_43, nfaultPlace_44⟩ := u_36
  generalize H1 = H at hw38 ⊢
  have hw45 : WD D A s.heap (WZ_PathsT cI cJ ad mr (upd (upd (upd (upd (upd (upd mi 12 nat_39) 13 nkind_41) 14 nvalue_42) 15 nplace_40) 16 nfault_43) 17 nfaultPlace_44) mf mg) H locs := hw38
  obtain ⟨hp_46, hp_47, hp_48, hp_49⟩ := hp
  have hp_46 : 0 ≤ nat_39.toInt := hp_46
  have hp_47 : nat_39.toInt ≤ (mi 10).toInt := hp_47
  have hp_48 : 0 ≤ nfault_43.toInt := hp_48
  have hp_49 : nfault_43.toInt ≤ 4 := hp_49
  refine lv_aload_n (pc := 23) E.1 E.2.1 dX5_readPath_23 rfl (lv_at hl35 2 rfl) ?_
  refine lv_iconst (pc := 24) (v := 0) E.1 E.2.1 dX5_readPath_24 (by decide +kernel) ?_
  refine lv_iload_n (pc := 25) E.1 E.2.1 dX5_readPath_25 rfl (lv_at hl35 3 rfl) ?_
  refine lv_iconst (pc := 26) (v := 1) E.1 E.2.1 dX5_readPath_26 (by decide +kernel) ?_
  refine lv_isub (pc := 27) E.1 E.2.1 dX5_readPath_27 ?_
  refine lv_topi (fun v_50 ev_50 => ?_)
  have hv_50 : v_50.toInt = z_houses.toInt - 1 := by rw [ev_50]; exact subE rfl (by decide +kernel) (by omega)
  refine cq_i (pc := 28) (ws' := (fun (u : Int32 × Int32 × Int32 × Int32 × Int32 × Int32) => (WZ_PathsT cI cJ ad mr (upd (upd (upd (upd (upd (upd mi 12 u.1) 13 u.2.2.1) 14 u.2.2.2.1) 15 u.2.1) 16 u.2.2.2.2.1) 17 u.2.2.2.2.2) mf mg))) hw45 [7, 8] [0, 1, 2, 3, 4, 5, 6] [0, 1, 2, 3, 4, 5, 6, 7, 8] rfl rfl (by decide) (by decide) (fun _ => rfl) (by decide) (rn_V (As := [.int 0, .int v_50]) (rest := []) E hw45 (t_numberB l D cI cJ _ (ixf [8, 9, 10, 11, 12, 13, 14, 15, 16, 17] mr) (ixf [8, 9, 10, 11, 12, 13, 14, 15, 16, 17] (upd (upd (upd (upd (upd (upd mi 12 nat_39) 13 nkind_41) 14 nvalue_42) 15 nplace_40) 16 nfault_43) 17 nfaultPlace_44)) (ixf [8, 9, 10, 11, 12, 13, 14, 15, 16, 17] mf) (ixf [8, 9, 10, 11, 12, 13, 14, 15, 16, 17] mg) 0 v_50 ad av tf (by show 0 ≤ (mi 10).toInt ∧ (mi 10).toInt ≤ 400; omega) (by show 0 ≤ nat_39.toInt; omega) (by show nat_39.toInt ≤ (mi 10).toInt; omega) (by show 0 ≤ (mi 11).toInt ∧ (mi 11).toInt ≤ 6; omega) (by show 0 ≤ nfault_43.toInt ∧ nfault_43.toInt ≤ 4; omega) (by show 0 ≤ (0 : Int32).toInt; have k_0 : (0 : Int32).toInt = 0 := (by decide +kernel); omega) (by show (0 : Int32).toInt ≤ 9; have k_0 : (0 : Int32).toInt = 0 := (by decide +kernel); omega) (by show v_50.toInt ≤ 9; omega)) (gdV q_921 q_879 q_880 q_160 q_881) hdV_X8_number ⟨rfl, rfl⟩ ⟨(Nat.le_of_ble_eq_true rfl), (Nat.le_of_ble_eq_true rfl)⟩ ⟨(Nat.le_of_ble_eq_true rfl), (Nat.le_of_ble_eq_true rfl)⟩ xT8_b (xT8_at hX hw45.2.2.1 (va_free hw45.2.1 hw45.2.2.1 hw45.2.2.2 [7, 8] rfl)) 7 8 rfl rfl rfl [7, 8] rfl (by decide) rfl hl35.1 rfl (Nat.le_of_ble_eq_true rfl) dX5_readPath_28) (fun r_52 u_51 H1 locs hp hw53 => ?_)
  obtain ⟨nat_54, nplace_55, nkind_56, nvalue_57, nfault_58, nfaultPlace_59⟩ := u_51
  generalize H1 = H at hw53 ⊢
  have hw60 : WD D A s.heap (WZ_PathsT cI cJ ad mr (upd (upd (upd (upd (upd (upd mi 12 nat_54) 13 nkind_56) 14 nvalue_57) 15 nplace_55) 16 nfault_58) 17 nfaultPlace_59) mf mg) H locs := hw53
  obtain ⟨hp_61, hp_62, hp_63, hp_64, hp_65, hp_66⟩ := hp
  have hp_61 : 0 ≤ nat_54.toInt := hp_61
  have hp_62 : nat_54.toInt ≤ (mi 10).toInt := hp_62
  have hp_63 : 0 ≤ nfault_58.toInt := hp_63
  have hp_64 : nfault_58.toInt ≤ 4 := hp_64
  have hp_65 : 0 ≤ r_52.toInt := hp_65
  have hp_66 : r_52.toInt ≤ 9 := hp_66
  refine lv_istore (pc := 31) (lv' := [(4, .int r_52), (3, .int r_20), (0, .ref (mr 0)), (1, .ref (mr 8)), (2, .int z_houses)]) E.1 E.2.1 dX5_readPath_31 hl35 (by decide) rfl (fun ls hl67 => ?_)
  refine lv_aload_n (pc := 33) E.1 E.2.1 dX5_readPath_33 rfl (lv_at hl67 3 rfl) ?_
  refine lv_sipush (pc := 34) (v := 258) E.1 E.2.1 dX5_readPath_34 (by decide +kernel) ?_
  refine cq_v (pc := 37) (ws' := (fun (u : Int32 × Int32 × Int32 × Int32 × Int32 × Int32) => (WZ_PathsT cI cJ ad mr (upd (upd (upd (upd (upd (upd mi 12 u.1) 13 u.2.2.1) 14 u.2.2.2.1) 15 u.2.1) 16 u.2.2.2.2.1) 17 u.2.2.2.2.2) mf mg))) hw60 [7, 8] [0, 1, 2, 3, 4, 5, 6] [0, 1, 2, 3, 4, 5, 6, 7, 8] rfl rfl (by decide) (by decide) (fun _ => rfl) (by decide) (rn_V (As := [.int 258]) (rest := []) E hw60 (t_pass l D cI cJ _ (ixf [8, 9, 10, 11, 12, 13, 14, 15, 16, 17] mr) (ixf [8, 9, 10, 11, 12, 13, 14, 15, 16, 17] (upd (upd (upd (upd (upd (upd mi 12 nat_54) 13 nkind_56) 14 nvalue_57) 15 nplace_55) 16 nfault_58) 17 nfaultPlace_59)) (ixf [8, 9, 10, 11, 12, 13, 14, 15, 16, 17] mf) (ixf [8, 9, 10, 11, 12, 13, 14, 15, 16, 17] mg) 258 ad av tf (by show 0 ≤ (mi 10).toInt ∧ (mi 10).toInt ≤ 400; omega) (by show 0 ≤ nat_54.toInt; omega) (by show nat_54.toInt ≤ (mi 10).toInt; omega) (by show 0 ≤ (mi 11).toInt ∧ (mi 11).toInt ≤ 6; omega) (by show 0 ≤ nfault_58.toInt ∧ nfault_58.toInt ≤ 4; omega)) (gdV q_920 q_861 q_862 q_160 q_863) hdV_X8_pass ⟨rfl, rfl⟩ ⟨(Nat.le_of_ble_eq_true rfl), (Nat.le_of_ble_eq_true rfl)⟩ ⟨(Nat.le_of_ble_eq_true rfl), (Nat.le_of_ble_eq_true rfl)⟩ xT8_b (xT8_at hX hw60.2.2.1 (va_free hw60.2.1 hw60.2.2.1 hw60.2.2.2 [7, 8] rfl)) 7 8 rfl rfl rfl [7, 8] rfl (by decide) rfl hl67.1 rfl (Nat.le_of_ble_eq_true rfl) dX5_readPath_37) (fun u_68 H1 locs hp hw70 => ?_)
  obtain ⟨nat_71, nplace_72, nkind_73, nvalue_74, nfault_75, nfaultPlace_76⟩ := u_68
  generalize H1 = H at hw70 ⊢
  have hw77 : WD D A s.heap (WZ_PathsT cI cJ ad mr (upd (upd (upd (upd (upd (upd mi 12 nat_71) 13 nkind_73) 14 nvalue_74) 15 nplace_72) 16 nfault_75) 17 nfaultPlace_76) mf mg) H locs := hw70
  obtain ⟨hp_78, hp_79, hp_80, hp_81⟩ := hp
  have hp_78 : 0 ≤ nat_71.toInt := hp_78
  have hp_79 : nat_71.toInt ≤ (mi 10).toInt := hp_79
  have hp_80 : 0 ≤ nfault_75.toInt := hp_80
  have hp_81 : nfault_75.toInt ≤ 4 := hp_81
  refine lv_aload_n (pc := 40) E.1 E.2.1 dX5_readPath_40 rfl (lv_at hl67 3 rfl) ?_
  refine lv_iconst (pc := 41) (v := 1) E.1 E.2.1 dX5_readPath_41 (by decide +kernel) ?_
  refine lv_bipush (pc := 42) (v := 99) E.1 E.2.1 dX5_readPath_42 (by decide +kernel) ?_
  refine cq_i (pc := 44) (ws' := (fun (u : Int32 × Int32 × Int32 × Int32 × Int32 × Int32) => (WZ_PathsT cI cJ ad mr (upd (upd (upd (upd (upd (upd mi 12 u.1) 13 u.2.2.1) 14 u.2.2.2.1) 15 u.2.1) 16 u.2.2.2.2.1) 17 u.2.2.2.2.2) mf mg))) hw77 [7, 8] [0, 1, 2, 3, 4, 5, 6] [0, 1, 2, 3, 4, 5, 6, 7, 8] rfl rfl (by decide) (by decide) (fun _ => rfl) (by decide) (rn_V (As := [.int 1, .int 99]) (rest := []) E hw77 (t_numberA l D cI cJ _ (ixf [8, 9, 10, 11, 12, 13, 14, 15, 16, 17] mr) (ixf [8, 9, 10, 11, 12, 13, 14, 15, 16, 17] (upd (upd (upd (upd (upd (upd mi 12 nat_71) 13 nkind_73) 14 nvalue_74) 15 nplace_72) 16 nfault_75) 17 nfaultPlace_76)) (ixf [8, 9, 10, 11, 12, 13, 14, 15, 16, 17] mf) (ixf [8, 9, 10, 11, 12, 13, 14, 15, 16, 17] mg) 1 99 ad av tf (by show 0 ≤ (mi 10).toInt ∧ (mi 10).toInt ≤ 400; omega) (by show 0 ≤ nat_71.toInt; omega) (by show nat_71.toInt ≤ (mi 10).toInt; omega) (by show 0 ≤ (mi 11).toInt ∧ (mi 11).toInt ≤ 6; omega) (by show 0 ≤ nfault_75.toInt ∧ nfault_75.toInt ≤ 4; omega) (by show (1 : Int32).toInt ≤ (99 : Int32).toInt; have k_0 : (1 : Int32).toInt = 1 := (by decide +kernel); have k_1 : (99 : Int32).toInt = 99 := (by decide +kernel); omega)) (gdV q_921 q_879 q_880 q_160 q_881) hdV_X8_number ⟨rfl, rfl⟩ ⟨(Nat.le_of_ble_eq_true rfl), (Nat.le_of_ble_eq_true rfl)⟩ ⟨(Nat.le_of_ble_eq_true rfl), (Nat.le_of_ble_eq_true rfl)⟩ xT8_b (xT8_at hX hw77.2.2.1 (va_free hw77.2.1 hw77.2.2.1 hw77.2.2.2 [7, 8] rfl)) 7 8 rfl rfl rfl [7, 8] rfl (by decide) rfl hl67.1 rfl (Nat.le_of_ble_eq_true rfl) dX5_readPath_44) (fun r_83 u_82 H1 locs hp hw84 => ?_)
  obtain ⟨nat_85, nplace_86, nkind_87, nvalue_88, nfault_89, nfaultPlace_90⟩ := u_82
  generalize H1 = H at hw84 ⊢
  have hw91 : WD D A s.heap (WZ_PathsT cI cJ ad mr (upd (upd (upd (upd (upd (upd mi 12 nat_85) 13 nkind_87) 14 nvalue_88) 15 nplace_86) 16 nfault_89) 17 nfaultPlace_90) mf mg) H locs := hw84
  obtain ⟨hp_92, hp_93, hp_94, hp_95, hp_96, hp_97⟩ := hp
  have hp_92 : 0 ≤ nat_85.toInt := hp_92
  have hp_93 : nat_85.toInt ≤ (mi 10).toInt := hp_93
  have hp_94 : 0 ≤ nfault_89.toInt := hp_94
  have hp_95 : nfault_89.toInt ≤ 4 := hp_95
  have hp_96 : (1 : Int32).toInt ≤ r_83.toInt := hp_96
  rw [show (1 : Int32).toInt = 1 from by decide +kernel] at hp_96
  have hp_97 : r_83.toInt ≤ (99 : Int32).toInt := hp_97
  rw [show (99 : Int32).toInt = 99 from by decide +kernel] at hp_97
  refine lv_istore (pc := 47) (lv' := [(5, .int r_83), (4, .int r_52), (3, .int r_20), (0, .ref (mr 0)), (1, .ref (mr 8)), (2, .int z_houses)]) E.1 E.2.1 dX5_readPath_47 hl67 (by decide) rfl (fun ls hl98 => ?_)
  refine lv_bipush (pc := 49) (v := 9) E.1 E.2.1 dX5_readPath_49 (by decide +kernel) ?_
  refine lv_istore (pc := 51) (lv' := [(6, .int 9), (5, .int r_83), (4, .int r_52), (3, .int r_20), (0, .ref (mr 0)), (1, .ref (mr 8)), (2, .int z_houses)]) E.1 E.2.1 dX5_readPath_51 hl98 (by decide) rfl (fun ls hl99 => ?_)
  refine lv_aload_n (pc := 53) E.1 E.2.1 dX5_readPath_53 rfl (lv_at hl99 5 rfl) ?_
  refine x_get (pc := 54) (T := TX8) (N := 9) (ci := 8) (v := .int nkind_87) E hw91 inX8 7 4 q_543 rfl rfl (by decide) rfl rfl dX5_readPath_54 ?_
  refine lv_sipush (pc := 57) (v := 259) E.1 E.2.1 dX5_readPath_57 (by decide +kernel) ?_
  refine lv_icmp_ne (pc := 60) (tgt := 76) E.1 E.2.1 dX5_readPath_60 (by decide) (fun c_100 => ?_) (fun c_100 => ?_)
  · skip
    have hc_100 := neE (a := nkind_87.toInt) (b := 259) rfl (by decide +kernel) c_100
    refine lv_aload_n (pc := 76) E.1 E.2.1 dX5_readPath_76 rfl (lv_at hl99 5 rfl) ?_
    refine lv_bipush (pc := 77) (v := 59) E.1 E.2.1 dX5_readPath_77 (by decide +kernel) ?_
    refine cq_v (pc := 79) (ws' := (fun (u : Int32 × Int32 × Int32 × Int32 × Int32 × Int32) => (WZ_PathsT cI cJ ad mr (upd (upd (upd (upd (upd (upd mi 12 u.1) 13 u.2.2.1) 14 u.2.2.2.1) 15 u.2.1) 16 u.2.2.2.2.1) 17 u.2.2.2.2.2) mf mg))) hw91 [7, 8] [0, 1, 2, 3, 4, 5, 6] [0, 1, 2, 3, 4, 5, 6, 7, 8] rfl rfl (by decide) (by decide) (fun _ => rfl) (by decide) (rn_V (As := [.int 59]) (rest := []) E hw91 (t_pass l D cI cJ _ (ixf [8, 9, 10, 11, 12, 13, 14, 15, 16, 17] mr) (ixf [8, 9, 10, 11, 12, 13, 14, 15, 16, 17] (upd (upd (upd (upd (upd (upd mi 12 nat_85) 13 nkind_87) 14 nvalue_88) 15 nplace_86) 16 nfault_89) 17 nfaultPlace_90)) (ixf [8, 9, 10, 11, 12, 13, 14, 15, 16, 17] mf) (ixf [8, 9, 10, 11, 12, 13, 14, 15, 16, 17] mg) 59 ad av tf (by show 0 ≤ (mi 10).toInt ∧ (mi 10).toInt ≤ 400; omega) (by show 0 ≤ nat_85.toInt; omega) (by show nat_85.toInt ≤ (mi 10).toInt; omega) (by show 0 ≤ (mi 11).toInt ∧ (mi 11).toInt ≤ 6; omega) (by show 0 ≤ nfault_89.toInt ∧ nfault_89.toInt ≤ 4; omega)) (gdV q_920 q_861 q_862 q_160 q_863) hdV_X8_pass ⟨rfl, rfl⟩ ⟨(Nat.le_of_ble_eq_true rfl), (Nat.le_of_ble_eq_true rfl)⟩ ⟨(Nat.le_of_ble_eq_true rfl), (Nat.le_of_ble_eq_true rfl)⟩ xT8_b (xT8_at hX hw91.2.2.1 (va_free hw91.2.1 hw91.2.2.1 hw91.2.2.2 [7, 8] rfl)) 7 8 rfl rfl rfl [7, 8] rfl (by decide) rfl hl99.1 rfl (Nat.le_of_ble_eq_true rfl) dX5_readPath_79) (fun u_101 H1 locs hp hw103 => ?_)
    obtain ⟨nat_104, nplace_105, nkind_106, nvalue_107, nfault_108, nfaultPlace_109⟩ := u_101
    generalize H1 = H at hw103 ⊢
    have hw110 : WD D A s.heap (WZ_PathsT cI cJ ad mr (upd (upd (upd (upd (upd (upd mi 12 nat_104) 13 nkind_106) 14 nvalue_107) 15 nplace_105) 16 nfault_108) 17 nfaultPlace_109) mf mg) H locs := hw103
    obtain ⟨hp_111, hp_112, hp_113, hp_114⟩ := hp
    have hp_111 : 0 ≤ nat_104.toInt := hp_111
    have hp_112 : nat_104.toInt ≤ (mi 10).toInt := hp_112
    have hp_113 : 0 ≤ nfault_108.toInt := hp_113
    have hp_114 : nfault_108.toInt ≤ 4 := hp_114
    refine lv_aload_n (pc := 82) E.1 E.2.1 dX5_readPath_82 rfl (lv_at hl99 5 rfl) ?_
    refine x_get (pc := 83) (T := TX8) (N := 9) (ci := 8) (v := .int nfault_108) E hw110 inX8 7 7 q_553 rfl rfl (by decide) rfl rfl dX5_readPath_83 ?_
    refine lv_if_ne (pc := 86) (tgt := 151) E.1 E.2.1 dX5_readPath_86 (by decide) (fun c_115 => ?_) (fun c_115 => ?_)
    · skip
      have hc_115 := neE (a := nfault_108.toInt) (b := 0) rfl (by decide +kernel) c_115
      exact em_v (w1 := (fun (u : Int32 × Int32 × Int32 × Int32 × Int32 × Int32 × (Nat → Int32) × (Nat → Int32) × (Nat → Int32) × (Nat → Int32) × Int32) => (WZ_PathsT cI cJ ad mr (upd (upd (upd (upd (upd (upd (upd mi 12 u.1) 15 u.2.1) 13 u.2.2.1) 14 u.2.2.2.1) 16 u.2.2.2.2.1) 17 u.2.2.2.2.2.1) 5 u.2.2.2.2.2.2.2.2.2.2) (va_up (va_up (va_up (va_up mf 1 u.2.2.2.2.2.2.1) 2 u.2.2.2.2.2.2.2.1) 3 u.2.2.2.2.2.2.2.2.1) 4 u.2.2.2.2.2.2.2.2.2.1) mg))) E hr hlk (nat_104, nplace_105, nkind_106, nvalue_107, nfault_108, nfaultPlace_109, (mf 1), (mf 2), (mf 3), (mf 4), (mi 5)) hw110 ⟨(by show 0 ≤ nat_104.toInt; omega), (by show nat_104.toInt ≤ (mi 10).toInt; omega), (by show 0 ≤ nfault_108.toInt; omega), (by show nfault_108.toInt ≤ 4; omega), (by show 0 ≤ (mi 5).toInt; omega), (by show (mi 5).toInt ≤ 40; omega), a_from, a_to, a_length⟩ (Nat.le_of_ble_eq_true rfl) (Nat.le_of_ble_eq_true rfl) dX5_readPath_151
    · skip
      have hc_115 := eqE (a := nfault_108.toInt) (b := 0) rfl (by decide +kernel) c_115
      refine lv_aload_n (pc := 89) E.1 E.2.1 dX5_readPath_89 rfl (lv_at hl99 4 rfl) ?_
      refine x_get (pc := 90) (T := TX5) (N := 7) (ci := 5) (v := .int (mi 5)) E hw110 inX5 0 4 q_318 rfl rfl (by decide) rfl rfl dX5_readPath_90 ?_
      refine lv_bipush (pc := 93) (v := 40) E.1 E.2.1 dX5_readPath_93 (by decide +kernel) ?_
      refine lv_icmp_ge (pc := 95) (tgt := 151) E.1 E.2.1 dX5_readPath_95 (by decide) (fun c_116 => ?_) (fun c_116 => ?_)
      · skip
        have hc_116 := leE (a := 40) (b := (mi 5).toInt) (by decide +kernel) rfl c_116
        exact em_v (w1 := (fun (u : Int32 × Int32 × Int32 × Int32 × Int32 × Int32 × (Nat → Int32) × (Nat → Int32) × (Nat → Int32) × (Nat → Int32) × Int32) => (WZ_PathsT cI cJ ad mr (upd (upd (upd (upd (upd (upd (upd mi 12 u.1) 15 u.2.1) 13 u.2.2.1) 14 u.2.2.2.1) 16 u.2.2.2.2.1) 17 u.2.2.2.2.2.1) 5 u.2.2.2.2.2.2.2.2.2.2) (va_up (va_up (va_up (va_up mf 1 u.2.2.2.2.2.2.1) 2 u.2.2.2.2.2.2.2.1) 3 u.2.2.2.2.2.2.2.2.1) 4 u.2.2.2.2.2.2.2.2.2.1) mg))) E hr hlk (nat_104, nplace_105, nkind_106, nvalue_107, nfault_108, nfaultPlace_109, (mf 1), (mf 2), (mf 3), (mf 4), (mi 5)) hw110 ⟨(by show 0 ≤ nat_104.toInt; omega), (by show nat_104.toInt ≤ (mi 10).toInt; omega), (by show 0 ≤ nfault_108.toInt; omega), (by show nfault_108.toInt ≤ 4; omega), (by show 0 ≤ (mi 5).toInt; omega), (by show (mi 5).toInt ≤ 40; omega), a_from, a_to, a_length⟩ (Nat.le_of_ble_eq_true rfl) (Nat.le_of_ble_eq_true rfl) dX5_readPath_151
      · skip
        have hc_116 := nleE (a := 40) (b := (mi 5).toInt) (by decide +kernel) rfl c_116
        refine lv_aload_n (pc := 98) E.1 E.2.1 dX5_readPath_98 rfl (lv_at hl99 4 rfl) ?_
        refine x_get (pc := 99) (T := TX5) (N := 7) (ci := 5) (v := .ref (mr 1)) E hw110 inX5 0 0 q_314 rfl rfl (by decide) rfl rfl dX5_readPath_99 ?_
        refine lv_aload_n (pc := 102) E.1 E.2.1 dX5_readPath_102 rfl (lv_at hl99 4 rfl) ?_
        refine x_get (pc := 103) (T := TX5) (N := 7) (ci := 5) (v := .int (mi 5)) E hw110 inX5 0 4 q_318 rfl rfl (by decide) rfl rfl dX5_readPath_103 ?_
        refine lv_iload_n (pc := 106) E.1 E.2.1 dX5_readPath_106 rfl (lv_at hl99 3 rfl) ?_
        refine x_iastG (pc := 107) (f := (mf 1)) (wf := fun g => (WZ_PathsT cI cJ ad mr (upd (upd (upd (upd (upd (upd mi 12 nat_104) 13 nkind_106) 14 nvalue_107) 15 nplace_105) 16 nfault_108) 17 nfaultPlace_109) (va_up mf 1 g) mg)) E hw110 1 rfl (inbE (a := (mi 5).toInt) rfl (by omega)) (fun _ => rfl) dX5_readPath_107 (fun g_117 H locs eg_117 hw118 => ?_)
        have ha_119 : allR 40 (0) 9 g_117 := allR_upd a_from eg_117 (by omega)
        refine lv_aload_n (pc := 108) E.1 E.2.1 dX5_readPath_108 rfl (lv_at hl99 4 rfl) ?_
        refine x_get (pc := 109) (T := TX5) (N := 7) (ci := 5) (v := .ref (mr 2)) E hw118 inX5 0 1 q_315 rfl rfl (by decide) rfl rfl dX5_readPath_109 ?_
        refine lv_aload_n (pc := 112) E.1 E.2.1 dX5_readPath_112 rfl (lv_at hl99 4 rfl) ?_
        refine x_get (pc := 113) (T := TX5) (N := 7) (ci := 5) (v := .int (mi 5)) E hw118 inX5 0 4 q_318 rfl rfl (by decide) rfl rfl dX5_readPath_113 ?_
        refine lv_iload (pc := 116) E.1 E.2.1 dX5_readPath_116 (lv_at hl99 2 rfl) ?_
        refine x_iastG (pc := 118) (f := (mf 2)) (wf := fun g => (WZ_PathsT cI cJ ad mr (upd (upd (upd (upd (upd (upd mi 12 nat_104) 13 nkind_106) 14 nvalue_107) 15 nplace_105) 16 nfault_108) 17 nfaultPlace_109) (va_up (va_up mf 1 g_117) 2 g) mg)) E hw118 2 rfl (inbE (a := (mi 5).toInt) rfl (by omega)) (fun _ => rfl) dX5_readPath_118 (fun g_120 H locs eg_120 hw121 => ?_)
        have ha_122 : allR 40 (0) 9 g_120 := allR_upd a_to eg_120 (by omega)
        refine lv_aload_n (pc := 119) E.1 E.2.1 dX5_readPath_119 rfl (lv_at hl99 4 rfl) ?_
        refine x_get (pc := 120) (T := TX5) (N := 7) (ci := 5) (v := .ref (mr 3)) E hw121 inX5 0 2 q_316 rfl rfl (by decide) rfl rfl dX5_readPath_120 ?_
        refine lv_aload_n (pc := 123) E.1 E.2.1 dX5_readPath_123 rfl (lv_at hl99 4 rfl) ?_
        refine x_get (pc := 124) (T := TX5) (N := 7) (ci := 5) (v := .int (mi 5)) E hw121 inX5 0 4 q_318 rfl rfl (by decide) rfl rfl dX5_readPath_124 ?_
        refine lv_iload (pc := 127) E.1 E.2.1 dX5_readPath_127 (lv_at hl99 1 rfl) ?_
        refine x_iastG (pc := 129) (f := (mf 3)) (wf := fun g => (WZ_PathsT cI cJ ad mr (upd (upd (upd (upd (upd (upd mi 12 nat_104) 13 nkind_106) 14 nvalue_107) 15 nplace_105) 16 nfault_108) 17 nfaultPlace_109) (va_up (va_up (va_up mf 1 g_117) 2 g_120) 3 g) mg)) E hw121 3 rfl (inbE (a := (mi 5).toInt) rfl (by omega)) (fun _ => rfl) dX5_readPath_129 (fun g_123 H locs eg_123 hw124 => ?_)
        have ha_125 : allR 40 (0) 99 g_123 := allR_upd a_length eg_123 (by omega)
        refine lv_aload_n (pc := 130) E.1 E.2.1 dX5_readPath_130 rfl (lv_at hl99 4 rfl) ?_
        refine x_get (pc := 131) (T := TX5) (N := 7) (ci := 5) (v := .ref (mr 4)) E hw124 inX5 0 3 q_317 rfl rfl (by decide) rfl rfl dX5_readPath_131 ?_
        refine lv_aload_n (pc := 134) E.1 E.2.1 dX5_readPath_134 rfl (lv_at hl99 4 rfl) ?_
        refine x_get (pc := 135) (T := TX5) (N := 7) (ci := 5) (v := .int (mi 5)) E hw124 inX5 0 4 q_318 rfl rfl (by decide) rfl rfl dX5_readPath_135 ?_
        refine lv_iload (pc := 138) E.1 E.2.1 dX5_readPath_138 (lv_at hl99 0 rfl) ?_
        refine x_iastG (pc := 140) (f := (mf 4)) (wf := fun g => (WZ_PathsT cI cJ ad mr (upd (upd (upd (upd (upd (upd mi 12 nat_104) 13 nkind_106) 14 nvalue_107) 15 nplace_105) 16 nfault_108) 17 nfaultPlace_109) (va_up (va_up (va_up (va_up mf 1 g_117) 2 g_120) 3 g_123) 4 g) mg)) E hw124 4 rfl (inbE (a := (mi 5).toInt) rfl (by omega)) (fun _ => rfl) dX5_readPath_140 (fun g_126 H locs eg_126 hw127 => ?_)
        refine lv_aload_n (pc := 141) E.1 E.2.1 dX5_readPath_141 rfl (lv_at hl99 4 rfl) ?_
        refine lv_dup (pc := 142) E.1 E.2.1 dX5_readPath_142 rfl ?_
        refine x_get (pc := 143) (T := TX5) (N := 7) (ci := 5) (v := .int (mi 5)) E hw127 inX5 0 4 q_318 rfl rfl (by decide) rfl rfl dX5_readPath_143 ?_
        refine lv_iconst (pc := 146) (v := 1) E.1 E.2.1 dX5_readPath_146 (by decide +kernel) ?_
        refine lv_iadd (pc := 147) E.1 E.2.1 dX5_readPath_147 ?_
        refine lv_topi (fun v_128 ev_128 => ?_)
        have hv_128 : v_128.toInt = (mi 5).toInt + 1 := by rw [ev_128]; exact addE rfl (by decide +kernel) (by omega)
        refine x_put (pc := 148) (T := TX5) (N := 7) (ci := 5) (ws' := (WZ_PathsT cI cJ ad mr (upd (upd (upd (upd (upd (upd (upd mi 5 v_128) 12 nat_104) 13 nkind_106) 14 nvalue_107) 15 nplace_105) 16 nfault_108) 17 nfaultPlace_109) (va_up (va_up (va_up (va_up mf 1 g_117) 2 g_120) 3 g_123) 4 g_126) mg)) E hw127 inX5 tyX5_ok nmX5 0 4 q_318 rfl rfl (by decide) rfl rfl rfl rfl (Nat.le_of_ble_eq_true rfl) rfl dX5_readPath_148 (fun H locs hw129 => ?_)
        exact em_v (w1 := (fun (u : Int32 × Int32 × Int32 × Int32 × Int32 × Int32 × (Nat → Int32) × (Nat → Int32) × (Nat → Int32) × (Nat → Int32) × Int32) => (WZ_PathsT cI cJ ad mr (upd (upd (upd (upd (upd (upd (upd mi 12 u.1) 15 u.2.1) 13 u.2.2.1) 14 u.2.2.2.1) 16 u.2.2.2.2.1) 17 u.2.2.2.2.2.1) 5 u.2.2.2.2.2.2.2.2.2.2) (va_up (va_up (va_up (va_up mf 1 u.2.2.2.2.2.2.1) 2 u.2.2.2.2.2.2.2.1) 3 u.2.2.2.2.2.2.2.2.1) 4 u.2.2.2.2.2.2.2.2.2.1) mg))) E hr hlk (nat_104, nplace_105, nkind_106, nvalue_107, nfault_108, nfaultPlace_109, g_117, g_120, g_123, g_126, v_128) hw129 ⟨(by show 0 ≤ nat_104.toInt; omega), (by show nat_104.toInt ≤ (mi 10).toInt; omega), (by show 0 ≤ nfault_108.toInt; omega), (by show nfault_108.toInt ≤ 4; omega), (by show 0 ≤ v_128.toInt; omega), (by show v_128.toInt ≤ 40; omega), ha_119, ha_122, ha_125⟩ (Nat.le_of_ble_eq_true rfl) (Nat.le_of_ble_eq_true rfl) dX5_readPath_151
  · skip
    have hc_100 := eqE (a := nkind_87.toInt) (b := 259) rfl (by decide +kernel) c_100
    refine lv_aload_n (pc := 63) E.1 E.2.1 dX5_readPath_63 rfl (lv_at hl99 5 rfl) ?_
    refine cq_v (pc := 64) (ws' := (fun (u : Int32 × Int32 × Int32 × Int32) => (WZ_PathsT cI cJ ad mr (upd (upd (upd (upd (upd (upd mi 12 u.1) 13 u.2.2.1) 14 u.2.2.2) 15 u.2.1) 16 nfault_89) 17 nfaultPlace_90) mf mg))) hw91 [7, 8] [0, 1, 2, 3, 4, 5, 6] [0, 1, 2, 3, 4, 5, 6, 7, 8] rfl rfl (by decide) (by decide) (fun _ => rfl) (by decide) (rn_V (As := []) (rest := []) E hw91 (t_step l D cI cJ _ (ixf [8, 9, 10, 11, 12, 13, 14, 15, 16, 17] mr) (ixf [8, 9, 10, 11, 12, 13, 14, 15, 16, 17] (upd (upd (upd (upd (upd (upd mi 12 nat_85) 13 nkind_87) 14 nvalue_88) 15 nplace_86) 16 nfault_89) 17 nfaultPlace_90)) (ixf [8, 9, 10, 11, 12, 13, 14, 15, 16, 17] mf) (ixf [8, 9, 10, 11, 12, 13, 14, 15, 16, 17] mg) ad av tf (by show 0 ≤ (mi 10).toInt ∧ (mi 10).toInt ≤ 400; omega) (by show 0 ≤ nat_85.toInt; omega) (by show nat_85.toInt ≤ (mi 10).toInt; omega) (by show 0 ≤ (mi 11).toInt ∧ (mi 11).toInt ≤ 6; omega)) (gdV q_922 q_723 q_724 q_160 q_725) hdV_X8_step ⟨rfl, rfl⟩ ⟨(Nat.le_of_ble_eq_true rfl), (Nat.le_of_ble_eq_true rfl)⟩ ⟨(Nat.le_of_ble_eq_true rfl), (Nat.le_of_ble_eq_true rfl)⟩ xT8_b (xT8_at hX hw91.2.2.1 (va_free hw91.2.1 hw91.2.2.1 hw91.2.2.2 [7, 8] rfl)) 7 8 rfl rfl rfl [7, 8] rfl (by decide) rfl hl99.1 rfl (Nat.le_of_ble_eq_true rfl) dX5_readPath_64) (fun u_130 H1 locs hp hw132 => ?_)
    obtain ⟨nat_133, nplace_134, nkind_135, nvalue_136⟩ := u_130
    generalize H1 = H at hw132 ⊢
    have hw137 : WD D A s.heap (WZ_PathsT cI cJ ad mr (upd (upd (upd (upd (upd (upd mi 12 nat_133) 13 nkind_135) 14 nvalue_136) 15 nplace_134) 16 nfault_89) 17 nfaultPlace_90) mf mg) H locs := hw132
    obtain ⟨hp_138, hp_139⟩ := hp
    have hp_138 : 0 ≤ nat_133.toInt := hp_138
    have hp_139 : nat_133.toInt ≤ (mi 10).toInt := hp_139
    refine lv_aload_n (pc := 67) E.1 E.2.1 dX5_readPath_67 rfl (lv_at hl99 5 rfl) ?_
    refine lv_iconst (pc := 68) (v := 0) E.1 E.2.1 dX5_readPath_68 (by decide +kernel) ?_
    refine lv_bipush (pc := 69) (v := 9) E.1 E.2.1 dX5_readPath_69 (by decide +kernel) ?_
    refine cq_i (pc := 71) (ws' := (fun (u : Int32 × Int32 × Int32 × Int32 × Int32 × Int32) => (WZ_PathsT cI cJ ad mr (upd (upd (upd (upd (upd (upd mi 12 u.1) 13 u.2.2.1) 14 u.2.2.2.1) 15 u.2.1) 16 u.2.2.2.2.1) 17 u.2.2.2.2.2) mf mg))) hw137 [7, 8] [0, 1, 2, 3, 4, 5, 6] [0, 1, 2, 3, 4, 5, 6, 7, 8] rfl rfl (by decide) (by decide) (fun _ => rfl) (by decide) (rn_V (As := [.int 0, .int 9]) (rest := []) E hw137 (t_numberA l D cI cJ _ (ixf [8, 9, 10, 11, 12, 13, 14, 15, 16, 17] mr) (ixf [8, 9, 10, 11, 12, 13, 14, 15, 16, 17] (upd (upd (upd (upd (upd (upd mi 12 nat_133) 13 nkind_135) 14 nvalue_136) 15 nplace_134) 16 nfault_89) 17 nfaultPlace_90)) (ixf [8, 9, 10, 11, 12, 13, 14, 15, 16, 17] mf) (ixf [8, 9, 10, 11, 12, 13, 14, 15, 16, 17] mg) 0 9 ad av tf (by show 0 ≤ (mi 10).toInt ∧ (mi 10).toInt ≤ 400; omega) (by show 0 ≤ nat_133.toInt; omega) (by show nat_133.toInt ≤ (mi 10).toInt; omega) (by show 0 ≤ (mi 11).toInt ∧ (mi 11).toInt ≤ 6; omega) (by show 0 ≤ nfault_89.toInt ∧ nfault_89.toInt ≤ 4; omega) (by show (0 : Int32).toInt ≤ (9 : Int32).toInt; have k_0 : (0 : Int32).toInt = 0 := (by decide +kernel); have k_1 : (9 : Int32).toInt = 9 := (by decide +kernel); omega)) (gdV q_921 q_879 q_880 q_160 q_881) hdV_X8_number ⟨rfl, rfl⟩ ⟨(Nat.le_of_ble_eq_true rfl), (Nat.le_of_ble_eq_true rfl)⟩ ⟨(Nat.le_of_ble_eq_true rfl), (Nat.le_of_ble_eq_true rfl)⟩ xT8_b (xT8_at hX hw137.2.2.1 (va_free hw137.2.1 hw137.2.2.1 hw137.2.2.2 [7, 8] rfl)) 7 8 rfl rfl rfl [7, 8] rfl (by decide) rfl hl99.1 rfl (Nat.le_of_ble_eq_true rfl) dX5_readPath_71) (fun r_141 u_140 H1 locs hp hw142 => ?_)
    obtain ⟨nat_143, nplace_144, nkind_145, nvalue_146, nfault_147, nfaultPlace_148⟩ := u_140
    generalize H1 = H at hw142 ⊢
    have hw149 : WD D A s.heap (WZ_PathsT cI cJ ad mr (upd (upd (upd (upd (upd (upd mi 12 nat_143) 13 nkind_145) 14 nvalue_146) 15 nplace_144) 16 nfault_147) 17 nfaultPlace_148) mf mg) H locs := hw142
    obtain ⟨hp_150, hp_151, hp_152, hp_153, hp_154, hp_155⟩ := hp
    have hp_150 : 0 ≤ nat_143.toInt := hp_150
    have hp_151 : nat_143.toInt ≤ (mi 10).toInt := hp_151
    have hp_152 : 0 ≤ nfault_147.toInt := hp_152
    have hp_153 : nfault_147.toInt ≤ 4 := hp_153
    have hp_154 : (0 : Int32).toInt ≤ r_141.toInt := hp_154
    rw [show (0 : Int32).toInt = 0 from by decide +kernel] at hp_154
    have hp_155 : r_141.toInt ≤ (9 : Int32).toInt := hp_155
    rw [show (9 : Int32).toInt = 9 from by decide +kernel] at hp_155
    refine lv_istore (pc := 74) (lv' := [(6, .int r_141), (5, .int r_83), (4, .int r_52), (3, .int r_20), (0, .ref (mr 0)), (1, .ref (mr 8)), (2, .int z_houses)]) E.1 E.2.1 dX5_readPath_74 hl99 (by decide) rfl (fun ls hl156 => ?_)
    refine lv_aload_n (pc := 76) E.1 E.2.1 dX5_readPath_76 rfl (lv_at hl156 5 rfl) ?_
    refine lv_bipush (pc := 77) (v := 59) E.1 E.2.1 dX5_readPath_77 (by decide +kernel) ?_
    refine cq_v (pc := 79) (ws' := (fun (u : Int32 × Int32 × Int32 × Int32 × Int32 × Int32) => (WZ_PathsT cI cJ ad mr (upd (upd (upd (upd (upd (upd mi 12 u.1) 13 u.2.2.1) 14 u.2.2.2.1) 15 u.2.1) 16 u.2.2.2.2.1) 17 u.2.2.2.2.2) mf mg))) hw149 [7, 8] [0, 1, 2, 3, 4, 5, 6] [0, 1, 2, 3, 4, 5, 6, 7, 8] rfl rfl (by decide) (by decide) (fun _ => rfl) (by decide) (rn_V (As := [.int 59]) (rest := []) E hw149 (t_pass l D cI cJ _ (ixf [8, 9, 10, 11, 12, 13, 14, 15, 16, 17] mr) (ixf [8, 9, 10, 11, 12, 13, 14, 15, 16, 17] (upd (upd (upd (upd (upd (upd mi 12 nat_143) 13 nkind_145) 14 nvalue_146) 15 nplace_144) 16 nfault_147) 17 nfaultPlace_148)) (ixf [8, 9, 10, 11, 12, 13, 14, 15, 16, 17] mf) (ixf [8, 9, 10, 11, 12, 13, 14, 15, 16, 17] mg) 59 ad av tf (by show 0 ≤ (mi 10).toInt ∧ (mi 10).toInt ≤ 400; omega) (by show 0 ≤ nat_143.toInt; omega) (by show nat_143.toInt ≤ (mi 10).toInt; omega) (by show 0 ≤ (mi 11).toInt ∧ (mi 11).toInt ≤ 6; omega) (by show 0 ≤ nfault_147.toInt ∧ nfault_147.toInt ≤ 4; omega)) (gdV q_920 q_861 q_862 q_160 q_863) hdV_X8_pass ⟨rfl, rfl⟩ ⟨(Nat.le_of_ble_eq_true rfl), (Nat.le_of_ble_eq_true rfl)⟩ ⟨(Nat.le_of_ble_eq_true rfl), (Nat.le_of_ble_eq_true rfl)⟩ xT8_b (xT8_at hX hw149.2.2.1 (va_free hw149.2.1 hw149.2.2.1 hw149.2.2.2 [7, 8] rfl)) 7 8 rfl rfl rfl [7, 8] rfl (by decide) rfl hl156.1 rfl (Nat.le_of_ble_eq_true rfl) dX5_readPath_79) (fun u_157 H1 locs hp hw159 => ?_)
    obtain ⟨nat_160, nplace_161, nkind_162, nvalue_163, nfault_164, nfaultPlace_165⟩ := u_157
    generalize H1 = H at hw159 ⊢
    have hw166 : WD D A s.heap (WZ_PathsT cI cJ ad mr (upd (upd (upd (upd (upd (upd mi 12 nat_160) 13 nkind_162) 14 nvalue_163) 15 nplace_161) 16 nfault_164) 17 nfaultPlace_165) mf mg) H locs := hw159
    obtain ⟨hp_167, hp_168, hp_169, hp_170⟩ := hp
    have hp_167 : 0 ≤ nat_160.toInt := hp_167
    have hp_168 : nat_160.toInt ≤ (mi 10).toInt := hp_168
    have hp_169 : 0 ≤ nfault_164.toInt := hp_169
    have hp_170 : nfault_164.toInt ≤ 4 := hp_170
    refine lv_aload_n (pc := 82) E.1 E.2.1 dX5_readPath_82 rfl (lv_at hl156 5 rfl) ?_
    refine x_get (pc := 83) (T := TX8) (N := 9) (ci := 8) (v := .int nfault_164) E hw166 inX8 7 7 q_553 rfl rfl (by decide) rfl rfl dX5_readPath_83 ?_
    refine lv_if_ne (pc := 86) (tgt := 151) E.1 E.2.1 dX5_readPath_86 (by decide) (fun c_171 => ?_) (fun c_171 => ?_)
    · skip
      have hc_171 := neE (a := nfault_164.toInt) (b := 0) rfl (by decide +kernel) c_171
      exact em_v (w1 := (fun (u : Int32 × Int32 × Int32 × Int32 × Int32 × Int32 × (Nat → Int32) × (Nat → Int32) × (Nat → Int32) × (Nat → Int32) × Int32) => (WZ_PathsT cI cJ ad mr (upd (upd (upd (upd (upd (upd (upd mi 12 u.1) 15 u.2.1) 13 u.2.2.1) 14 u.2.2.2.1) 16 u.2.2.2.2.1) 17 u.2.2.2.2.2.1) 5 u.2.2.2.2.2.2.2.2.2.2) (va_up (va_up (va_up (va_up mf 1 u.2.2.2.2.2.2.1) 2 u.2.2.2.2.2.2.2.1) 3 u.2.2.2.2.2.2.2.2.1) 4 u.2.2.2.2.2.2.2.2.2.1) mg))) E hr hlk (nat_160, nplace_161, nkind_162, nvalue_163, nfault_164, nfaultPlace_165, (mf 1), (mf 2), (mf 3), (mf 4), (mi 5)) hw166 ⟨(by show 0 ≤ nat_160.toInt; omega), (by show nat_160.toInt ≤ (mi 10).toInt; omega), (by show 0 ≤ nfault_164.toInt; omega), (by show nfault_164.toInt ≤ 4; omega), (by show 0 ≤ (mi 5).toInt; omega), (by show (mi 5).toInt ≤ 40; omega), a_from, a_to, a_length⟩ (Nat.le_of_ble_eq_true rfl) (Nat.le_of_ble_eq_true rfl) dX5_readPath_151
    · skip
      have hc_171 := eqE (a := nfault_164.toInt) (b := 0) rfl (by decide +kernel) c_171
      refine lv_aload_n (pc := 89) E.1 E.2.1 dX5_readPath_89 rfl (lv_at hl156 4 rfl) ?_
      refine x_get (pc := 90) (T := TX5) (N := 7) (ci := 5) (v := .int (mi 5)) E hw166 inX5 0 4 q_318 rfl rfl (by decide) rfl rfl dX5_readPath_90 ?_
      refine lv_bipush (pc := 93) (v := 40) E.1 E.2.1 dX5_readPath_93 (by decide +kernel) ?_
      refine lv_icmp_ge (pc := 95) (tgt := 151) E.1 E.2.1 dX5_readPath_95 (by decide) (fun c_172 => ?_) (fun c_172 => ?_)
      · skip
        have hc_172 := leE (a := 40) (b := (mi 5).toInt) (by decide +kernel) rfl c_172
        exact em_v (w1 := (fun (u : Int32 × Int32 × Int32 × Int32 × Int32 × Int32 × (Nat → Int32) × (Nat → Int32) × (Nat → Int32) × (Nat → Int32) × Int32) => (WZ_PathsT cI cJ ad mr (upd (upd (upd (upd (upd (upd (upd mi 12 u.1) 15 u.2.1) 13 u.2.2.1) 14 u.2.2.2.1) 16 u.2.2.2.2.1) 17 u.2.2.2.2.2.1) 5 u.2.2.2.2.2.2.2.2.2.2) (va_up (va_up (va_up (va_up mf 1 u.2.2.2.2.2.2.1) 2 u.2.2.2.2.2.2.2.1) 3 u.2.2.2.2.2.2.2.2.1) 4 u.2.2.2.2.2.2.2.2.2.1) mg))) E hr hlk (nat_160, nplace_161, nkind_162, nvalue_163, nfault_164, nfaultPlace_165, (mf 1), (mf 2), (mf 3), (mf 4), (mi 5)) hw166 ⟨(by show 0 ≤ nat_160.toInt; omega), (by show nat_160.toInt ≤ (mi 10).toInt; omega), (by show 0 ≤ nfault_164.toInt; omega), (by show nfault_164.toInt ≤ 4; omega), (by show 0 ≤ (mi 5).toInt; omega), (by show (mi 5).toInt ≤ 40; omega), a_from, a_to, a_length⟩ (Nat.le_of_ble_eq_true rfl) (Nat.le_of_ble_eq_true rfl) dX5_readPath_151
      · skip
        have hc_172 := nleE (a := 40) (b := (mi 5).toInt) (by decide +kernel) rfl c_172
        refine lv_aload_n (pc := 98) E.1 E.2.1 dX5_readPath_98 rfl (lv_at hl156 4 rfl) ?_
        refine x_get (pc := 99) (T := TX5) (N := 7) (ci := 5) (v := .ref (mr 1)) E hw166 inX5 0 0 q_314 rfl rfl (by decide) rfl rfl dX5_readPath_99 ?_
        refine lv_aload_n (pc := 102) E.1 E.2.1 dX5_readPath_102 rfl (lv_at hl156 4 rfl) ?_
        refine x_get (pc := 103) (T := TX5) (N := 7) (ci := 5) (v := .int (mi 5)) E hw166 inX5 0 4 q_318 rfl rfl (by decide) rfl rfl dX5_readPath_103 ?_
        refine lv_iload_n (pc := 106) E.1 E.2.1 dX5_readPath_106 rfl (lv_at hl156 3 rfl) ?_
        refine x_iastG (pc := 107) (f := (mf 1)) (wf := fun g => (WZ_PathsT cI cJ ad mr (upd (upd (upd (upd (upd (upd mi 12 nat_160) 13 nkind_162) 14 nvalue_163) 15 nplace_161) 16 nfault_164) 17 nfaultPlace_165) (va_up mf 1 g) mg)) E hw166 1 rfl (inbE (a := (mi 5).toInt) rfl (by omega)) (fun _ => rfl) dX5_readPath_107 (fun g_173 H locs eg_173 hw174 => ?_)
        have ha_175 : allR 40 (0) 9 g_173 := allR_upd a_from eg_173 (by omega)
        refine lv_aload_n (pc := 108) E.1 E.2.1 dX5_readPath_108 rfl (lv_at hl156 4 rfl) ?_
        refine x_get (pc := 109) (T := TX5) (N := 7) (ci := 5) (v := .ref (mr 2)) E hw174 inX5 0 1 q_315 rfl rfl (by decide) rfl rfl dX5_readPath_109 ?_
        refine lv_aload_n (pc := 112) E.1 E.2.1 dX5_readPath_112 rfl (lv_at hl156 4 rfl) ?_
        refine x_get (pc := 113) (T := TX5) (N := 7) (ci := 5) (v := .int (mi 5)) E hw174 inX5 0 4 q_318 rfl rfl (by decide) rfl rfl dX5_readPath_113 ?_
        refine lv_iload (pc := 116) E.1 E.2.1 dX5_readPath_116 (lv_at hl156 2 rfl) ?_
        refine x_iastG (pc := 118) (f := (mf 2)) (wf := fun g => (WZ_PathsT cI cJ ad mr (upd (upd (upd (upd (upd (upd mi 12 nat_160) 13 nkind_162) 14 nvalue_163) 15 nplace_161) 16 nfault_164) 17 nfaultPlace_165) (va_up (va_up mf 1 g_173) 2 g) mg)) E hw174 2 rfl (inbE (a := (mi 5).toInt) rfl (by omega)) (fun _ => rfl) dX5_readPath_118 (fun g_176 H locs eg_176 hw177 => ?_)
        have ha_178 : allR 40 (0) 9 g_176 := allR_upd a_to eg_176 (by omega)
        refine lv_aload_n (pc := 119) E.1 E.2.1 dX5_readPath_119 rfl (lv_at hl156 4 rfl) ?_
        refine x_get (pc := 120) (T := TX5) (N := 7) (ci := 5) (v := .ref (mr 3)) E hw177 inX5 0 2 q_316 rfl rfl (by decide) rfl rfl dX5_readPath_120 ?_
        refine lv_aload_n (pc := 123) E.1 E.2.1 dX5_readPath_123 rfl (lv_at hl156 4 rfl) ?_
        refine x_get (pc := 124) (T := TX5) (N := 7) (ci := 5) (v := .int (mi 5)) E hw177 inX5 0 4 q_318 rfl rfl (by decide) rfl rfl dX5_readPath_124 ?_
        refine lv_iload (pc := 127) E.1 E.2.1 dX5_readPath_127 (lv_at hl156 1 rfl) ?_
        refine x_iastG (pc := 129) (f := (mf 3)) (wf := fun g => (WZ_PathsT cI cJ ad mr (upd (upd (upd (upd (upd (upd mi 12 nat_160) 13 nkind_162) 14 nvalue_163) 15 nplace_161) 16 nfault_164) 17 nfaultPlace_165) (va_up (va_up (va_up mf 1 g_173) 2 g_176) 3 g) mg)) E hw177 3 rfl (inbE (a := (mi 5).toInt) rfl (by omega)) (fun _ => rfl) dX5_readPath_129 (fun g_179 H locs eg_179 hw180 => ?_)
        have ha_181 : allR 40 (0) 99 g_179 := allR_upd a_length eg_179 (by omega)
        refine lv_aload_n (pc := 130) E.1 E.2.1 dX5_readPath_130 rfl (lv_at hl156 4 rfl) ?_
        refine x_get (pc := 131) (T := TX5) (N := 7) (ci := 5) (v := .ref (mr 4)) E hw180 inX5 0 3 q_317 rfl rfl (by decide) rfl rfl dX5_readPath_131 ?_
        refine lv_aload_n (pc := 134) E.1 E.2.1 dX5_readPath_134 rfl (lv_at hl156 4 rfl) ?_
        refine x_get (pc := 135) (T := TX5) (N := 7) (ci := 5) (v := .int (mi 5)) E hw180 inX5 0 4 q_318 rfl rfl (by decide) rfl rfl dX5_readPath_135 ?_
        refine lv_iload (pc := 138) E.1 E.2.1 dX5_readPath_138 (lv_at hl156 0 rfl) ?_
        refine x_iastG (pc := 140) (f := (mf 4)) (wf := fun g => (WZ_PathsT cI cJ ad mr (upd (upd (upd (upd (upd (upd mi 12 nat_160) 13 nkind_162) 14 nvalue_163) 15 nplace_161) 16 nfault_164) 17 nfaultPlace_165) (va_up (va_up (va_up (va_up mf 1 g_173) 2 g_176) 3 g_179) 4 g) mg)) E hw180 4 rfl (inbE (a := (mi 5).toInt) rfl (by omega)) (fun _ => rfl) dX5_readPath_140 (fun g_182 H locs eg_182 hw183 => ?_)
        refine lv_aload_n (pc := 141) E.1 E.2.1 dX5_readPath_141 rfl (lv_at hl156 4 rfl) ?_
        refine lv_dup (pc := 142) E.1 E.2.1 dX5_readPath_142 rfl ?_
        refine x_get (pc := 143) (T := TX5) (N := 7) (ci := 5) (v := .int (mi 5)) E hw183 inX5 0 4 q_318 rfl rfl (by decide) rfl rfl dX5_readPath_143 ?_
        refine lv_iconst (pc := 146) (v := 1) E.1 E.2.1 dX5_readPath_146 (by decide +kernel) ?_
        refine lv_iadd (pc := 147) E.1 E.2.1 dX5_readPath_147 ?_
        refine lv_topi (fun v_184 ev_184 => ?_)
        have hv_184 : v_184.toInt = (mi 5).toInt + 1 := by rw [ev_184]; exact addE rfl (by decide +kernel) (by omega)
        refine x_put (pc := 148) (T := TX5) (N := 7) (ci := 5) (ws' := (WZ_PathsT cI cJ ad mr (upd (upd (upd (upd (upd (upd (upd mi 5 v_184) 12 nat_160) 13 nkind_162) 14 nvalue_163) 15 nplace_161) 16 nfault_164) 17 nfaultPlace_165) (va_up (va_up (va_up (va_up mf 1 g_173) 2 g_176) 3 g_179) 4 g_182) mg)) E hw183 inX5 tyX5_ok nmX5 0 4 q_318 rfl rfl (by decide) rfl rfl rfl rfl (Nat.le_of_ble_eq_true rfl) rfl dX5_readPath_148 (fun H locs hw185 => ?_)
        exact em_v (w1 := (fun (u : Int32 × Int32 × Int32 × Int32 × Int32 × Int32 × (Nat → Int32) × (Nat → Int32) × (Nat → Int32) × (Nat → Int32) × Int32) => (WZ_PathsT cI cJ ad mr (upd (upd (upd (upd (upd (upd (upd mi 12 u.1) 15 u.2.1) 13 u.2.2.1) 14 u.2.2.2.1) 16 u.2.2.2.2.1) 17 u.2.2.2.2.2.1) 5 u.2.2.2.2.2.2.2.2.2.2) (va_up (va_up (va_up (va_up mf 1 u.2.2.2.2.2.2.1) 2 u.2.2.2.2.2.2.2.1) 3 u.2.2.2.2.2.2.2.2.1) 4 u.2.2.2.2.2.2.2.2.2.1) mg))) E hr hlk (nat_160, nplace_161, nkind_162, nvalue_163, nfault_164, nfaultPlace_165, g_173, g_176, g_179, g_182, v_184) hw185 ⟨(by show 0 ≤ nat_160.toInt; omega), (by show nat_160.toInt ≤ (mi 10).toInt; omega), (by show 0 ≤ nfault_164.toInt; omega), (by show nfault_164.toInt ≤ 4; omega), (by show 0 ≤ v_184.toInt; omega), (by show v_184.toInt ≤ 40; omega), ha_175, ha_178, ha_181⟩ (Nat.le_of_ble_eq_true rfl) (Nat.le_of_ble_eq_true rfl) dX5_readPath_151
set_option maxHeartbeats 4000000 in
set_option maxRecDepth 100000 in
theorem t_pathsRead (l : Launch) (D : va_G) (cI cJ : ClassId) (sz : Nat) (mr : Nat → Nat) (mi : Nat → Int32) (mf : Nat → Nat → Int32) (mg : Nat → Nat → Int64) (z_houses : Int32) (ad av : Nat → Nat) (tf : Value) (h0 : 0 ≤ (mi 10).toInt ∧ (mi 10).toInt ≤ 400) (h1 : 0 ≤ (mi 12).toInt) (h2 : (mi 12).toInt ≤ (mi 10).toInt) (h3 : 0 ≤ (mi 11).toInt ∧ (mi 11).toInt ≤ 6) (h4 : 0 ≤ (mi 16).toInt ∧ (mi 16).toInt ≤ 4) (h5 : 0 ≤ z_houses.toInt ∧ z_houses.toInt ≤ 10) (a_from : p9 (mf 1)) (a_to : p9 (mf 2)) (a_length : l99 (mf 3)) : Met l yX5_read (Cond.code yX5_read cX5_read 4 none :: GW) ({ frames := 9, cells := 0, slots := 0, locals := 220 } : Room) (va_Pc [.ref (mr 0), .ref (mr 8), .int z_houses] (PW D cI cJ sz (WZ_PathsT cI cJ ad mr mi mf mg) (xT8 ad av tf (va_A (WZ_PathsT cI cJ ad mr mi mf mg) sz)))) (va_Qv (fun (u : Int32 × Int32 × Int32 × Int32 × Int32 × Int32 × (Nat → Int32) × (Nat → Int32) × (Nat → Int32) × (Nat → Int32) × Int32) => (0 ≤ u.1.toInt) ∧ (u.1.toInt ≤ (mi 10).toInt) ∧ (0 ≤ u.2.2.2.2.1.toInt) ∧ (u.2.2.2.2.1.toInt ≤ 4) ∧ (0 ≤ u.2.2.2.2.2.2.2.2.2.2.toInt) ∧ (u.2.2.2.2.2.2.2.2.2.2.toInt ≤ 40) ∧ (p9 u.2.2.2.2.2.2.1) ∧ (p9 u.2.2.2.2.2.2.2.1) ∧ (l99 u.2.2.2.2.2.2.2.2.1)) (fun u => QW D cI cJ (va_A (WZ_PathsT cI cJ ad mr mi mf mg) sz) ((fun (u : Int32 × Int32 × Int32 × Int32 × Int32 × Int32 × (Nat → Int32) × (Nat → Int32) × (Nat → Int32) × (Nat → Int32) × Int32) => (WZ_PathsT cI cJ ad mr (upd (upd (upd (upd (upd (upd (upd mi 12 u.1) 15 u.2.1) 13 u.2.2.1) 14 u.2.2.2.1) 16 u.2.2.2.2.1) 17 u.2.2.2.2.2.1) 5 u.2.2.2.2.2.2.2.2.2.2) (va_up (va_up (va_up (va_up mf 1 u.2.2.2.2.2.2.1) 2 u.2.2.2.2.2.2.2.1) 3 u.2.2.2.2.2.2.2.2.1) 4 u.2.2.2.2.2.2.2.2.2.1) mg)) u)) (va_A (WZ_PathsT cI cJ ad mr mi mf mg) sz)) 0 0 (va_A (WZ_PathsT cI cJ ad mr mi mf mg) sz) := by
  refine mk_metA (X := fun A => xT8 ad av tf A) (y := yX5_read) (bytes := cX5_read) (maxL := 4) (avs := [.ref (mr 0), .ref (mr 8), .int z_houses]) (WS := (WZ_PathsT cI cJ ad mr mi mf mg)) (Qf := fun A => va_Qv (fun (u : Int32 × Int32 × Int32 × Int32 × Int32 × Int32 × (Nat → Int32) × (Nat → Int32) × (Nat → Int32) × (Nat → Int32) × Int32) => (0 ≤ u.1.toInt) ∧ (u.1.toInt ≤ (mi 10).toInt) ∧ (0 ≤ u.2.2.2.2.1.toInt) ∧ (u.2.2.2.2.1.toInt ≤ 4) ∧ (0 ≤ u.2.2.2.2.2.2.2.2.2.2.toInt) ∧ (u.2.2.2.2.2.2.2.2.2.2.toInt ≤ 40) ∧ (p9 u.2.2.2.2.2.2.1) ∧ (p9 u.2.2.2.2.2.2.2.1) ∧ (l99 u.2.2.2.2.2.2.2.2.1)) (fun u => QW D cI cJ A ((fun (u : Int32 × Int32 × Int32 × Int32 × Int32 × Int32 × (Nat → Int32) × (Nat → Int32) × (Nat → Int32) × (Nat → Int32) × Int32) => (WZ_PathsT cI cJ ad mr (upd (upd (upd (upd (upd (upd (upd mi 12 u.1) 15 u.2.1) 13 u.2.2.1) 14 u.2.2.2.1) 16 u.2.2.2.2.1) 17 u.2.2.2.2.2.1) 5 u.2.2.2.2.2.2.2.2.2.2) (va_up (va_up (va_up (va_up mf 1 u.2.2.2.2.2.2.1) 2 u.2.2.2.2.2.2.2.1) 3 u.2.2.2.2.2.2.2.2.1) 4 u.2.2.2.2.2.2.2.2.2.1) mg)) u)) A) (by decide) (Nat.le_of_ble_eq_true rfl) ?_
  intro p e s m below meth c A ls E hr hlk hnm hX hw1 hl2
  have hl3 : lv_has ls 4 [(0, .ref (mr 0)), (1, .ref (mr 8)), (2, .int z_houses)] := hl2
  refine lv_aload_n (pc := 0) E.1 E.2.1 dX5_read_0 rfl (lv_at hl3 0 rfl) ?_
  refine lv_iconst (pc := 1) (v := 0) E.1 E.2.1 dX5_read_1 (by decide +kernel) ?_
  refine x_put (pc := 2) (T := TX5) (N := 7) (ci := 5) (ws' := (WZ_PathsT cI cJ ad mr (upd mi 5 0) mf mg)) E hw1 inX5 tyX5_ok nmX5 0 4 q_318 rfl rfl (by decide) rfl rfl rfl rfl (Nat.le_of_ble_eq_true rfl) rfl dX5_read_2 (fun H locs hw4 => ?_)
  refine lv_iconst (pc := 5) (v := 0) E.1 E.2.1 dX5_read_5 (by decide +kernel) ?_
  refine lv_istore_n (pc := 6) (lv' := [(3, .int 0), (0, .ref (mr 0)), (1, .ref (mr 8)), (2, .int z_houses)]) E.1 E.2.1 dX5_read_6 rfl hl3 (by decide) rfl (fun ls hl5 => ?_)
  have loop_6 : ∀ (k : Nat) (x_7 : Int32) (x_8 : Int32) (x_9 : Int32) (x_10 : Int32) (x_11 : Int32) (x_12 : Int32) (x_13 : Int32) (x_14 : Int32) (g_15 : Nat → Int32) (g_16 : Nat → Int32) (g_17 : Nat → Int32) (g_18 : Nat → Int32) (H : Heap) (locs : List Loc) (ls : Array Slot), (0 ≤ x_8.toInt) ∧ (x_8.toInt ≤ (mi 10).toInt) ∧ (0 ≤ x_12.toInt) ∧ (x_12.toInt ≤ 4) ∧ (0 ≤ x_14.toInt) ∧ (x_14.toInt ≤ 40) ∧ (0 ≤ x_7.toInt) ∧ (x_7.toInt ≤ 401) ∧ p9 g_15 ∧ p9 g_16 ∧ l99 g_17 → 401 - x_7.toInt < (k : Int) → WD D A s.heap (WZ_PathsT cI cJ ad mr (upd (upd (upd (upd (upd (upd (upd mi 5 x_14) 12 x_8) 13 x_10) 14 x_11) 15 x_9) 16 x_12) 17 x_13) (va_up (va_up (va_up (va_up mf 1 g_15) 2 g_16) 3 g_17) 4 g_18) mg) H locs → lv_has ls 4 [(3, .int x_7), (0, .ref (mr 0)), (1, .ref (mr 8)), (2, .int z_houses)] → W p l e ({ frames := 9, cells := 0, slots := 0, locals := 220 } : Room) s m ([.ref (mr 0), .ref (mr 8), .int z_houses] : List Value).toArray below meth c H locs 0 0 (MQ below (va_Qv (fun (u : Int32 × Int32 × Int32 × Int32 × Int32 × Int32 × (Nat → Int32) × (Nat → Int32) × (Nat → Int32) × (Nat → Int32) × Int32) => (0 ≤ u.1.toInt) ∧ (u.1.toInt ≤ (mi 10).toInt) ∧ (0 ≤ u.2.2.2.2.1.toInt) ∧ (u.2.2.2.2.1.toInt ≤ 4) ∧ (0 ≤ u.2.2.2.2.2.2.2.2.2.2.toInt) ∧ (u.2.2.2.2.2.2.2.2.2.2.toInt ≤ 40) ∧ (p9 u.2.2.2.2.2.2.1) ∧ (p9 u.2.2.2.2.2.2.2.1) ∧ (l99 u.2.2.2.2.2.2.2.2.1)) (fun u => QW D cI cJ A ((fun (u : Int32 × Int32 × Int32 × Int32 × Int32 × Int32 × (Nat → Int32) × (Nat → Int32) × (Nat → Int32) × (Nat → Int32) × Int32) => (WZ_PathsT cI cJ ad mr (upd (upd (upd (upd (upd (upd (upd mi 12 u.1) 15 u.2.1) 13 u.2.2.1) 14 u.2.2.2.1) 16 u.2.2.2.2.1) 17 u.2.2.2.2.2.1) 5 u.2.2.2.2.2.2.2.2.2.2) (va_up (va_up (va_up (va_up mf 1 u.2.2.2.2.2.2.1) 2 u.2.2.2.2.2.2.2.1) 3 u.2.2.2.2.2.2.2.2.1) 4 u.2.2.2.2.2.2.2.2.2.1) mg)) u)) A) ([.ref (mr 0), .ref (mr 8), .int z_houses] : List Value).toArray s 0 0 A) (F0 m 7 ls []) := by
    intro k
    induction k with
    | zero =>
      intro x_7 x_8 x_9 x_10 x_11 x_12 x_13 x_14 g_15 g_16 g_17 g_18 _ _ _ hinv hm
      obtain ⟨hi_18_0, hi_18_1, hi_18_2, hi_18_3, hi_18_4, hi_18_5, hi_18_6, hi_18_7, hi_18_8, hi_18_9, hi_18_10⟩ := hinv
      exact absurd hm (by omega)
    | succ k ih_19 =>
      intro x_7 x_8 x_9 x_10 x_11 x_12 x_13 x_14 g_15 g_16 g_17 g_18 H locs ls hinv hm hw20 hl21
      obtain ⟨hi_18_0, hi_18_1, hi_18_2, hi_18_3, hi_18_4, hi_18_5, hi_18_6, hi_18_7, hi_18_8, hi_18_9, hi_18_10⟩ := hinv
      refine lv_iload_n (pc := 7) E.1 E.2.1 dX5_read_7 rfl (lv_at hl21 0 rfl) ?_
      refine lv_sipush (pc := 8) (v := 400) E.1 E.2.1 dX5_read_8 (by decide +kernel) ?_
      refine lv_icmp_gt (pc := 11) (tgt := 57) E.1 E.2.1 dX5_read_11 (by decide) (fun c_22 => ?_) (fun c_22 => ?_)
      · skip
        have hc_22 := ltE (a := 400) (b := x_7.toInt) (by decide +kernel) rfl c_22
        exact em_v (w1 := (fun (u : Int32 × Int32 × Int32 × Int32 × Int32 × Int32 × (Nat → Int32) × (Nat → Int32) × (Nat → Int32) × (Nat → Int32) × Int32) => (WZ_PathsT cI cJ ad mr (upd (upd (upd (upd (upd (upd (upd mi 12 u.1) 15 u.2.1) 13 u.2.2.1) 14 u.2.2.2.1) 16 u.2.2.2.2.1) 17 u.2.2.2.2.2.1) 5 u.2.2.2.2.2.2.2.2.2.2) (va_up (va_up (va_up (va_up mf 1 u.2.2.2.2.2.2.1) 2 u.2.2.2.2.2.2.2.1) 3 u.2.2.2.2.2.2.2.2.1) 4 u.2.2.2.2.2.2.2.2.2.1) mg))) E hr hlk (x_8, x_9, x_10, x_11, x_12, x_13, g_15, g_16, g_17, g_18, x_14) hw20 ⟨(by show 0 ≤ x_8.toInt; omega), (by show x_8.toInt ≤ (mi 10).toInt; omega), (by show 0 ≤ x_12.toInt; omega), (by show x_12.toInt ≤ 4; omega), (by show 0 ≤ x_14.toInt; omega), (by show x_14.toInt ≤ 40; omega), hi_18_8, hi_18_9, hi_18_10⟩ (Nat.le_of_ble_eq_true rfl) (Nat.le_of_ble_eq_true rfl) dX5_read_57
      · skip
        have hc_22 := nltE (a := 400) (b := x_7.toInt) (by decide +kernel) rfl c_22
        refine lv_aload_n (pc := 14) E.1 E.2.1 dX5_read_14 rfl (lv_at hl21 2 rfl) ?_
        refine cq_i (pc := 15) (ws' := (fun (u : Unit) => (WZ_PathsT cI cJ ad mr (upd (upd (upd (upd (upd (upd (upd mi 5 x_14) 12 x_8) 13 x_10) 14 x_11) 15 x_9) 16 x_12) 17 x_13) (va_up (va_up (va_up (va_up mf 1 g_15) 2 g_16) 3 g_17) 4 g_18) mg))) hw20 [7, 8] [0, 1, 2, 3, 4, 5, 6] [0, 1, 2, 3, 4, 5, 6, 7, 8] rfl rfl (by decide) (by decide) (fun _ => rfl) (by decide) (rn_V (As := []) (rest := []) E hw20 (t_goesOn l D cI cJ _ (ixf [8, 9, 10, 11, 12, 13, 14, 15, 16, 17] mr) (ixf [8, 9, 10, 11, 12, 13, 14, 15, 16, 17] (upd (upd (upd (upd (upd (upd (upd mi 5 x_14) 12 x_8) 13 x_10) 14 x_11) 15 x_9) 16 x_12) 17 x_13)) (ixf [8, 9, 10, 11, 12, 13, 14, 15, 16, 17] (va_up (va_up (va_up (va_up mf 1 g_15) 2 g_16) 3 g_17) 4 g_18)) (ixf [8, 9, 10, 11, 12, 13, 14, 15, 16, 17] mg) ad) (gdV q_914 q_853 q_854 q_160 q_855) hdV_X8_goesOn ⟨rfl, rfl⟩ ⟨(Nat.le_of_ble_eq_true rfl), (Nat.le_of_ble_eq_true rfl)⟩ ⟨(Nat.le_of_ble_eq_true rfl), (Nat.le_of_ble_eq_true rfl)⟩ xT_b xT_at 7 8 rfl rfl rfl [7, 8] rfl (by decide) rfl hl21.1 rfl (Nat.le_of_ble_eq_true rfl) dX5_read_15) (fun r_24 u_23 H1 locs hp hw25 => ?_)
        generalize H1 = H at hw25 ⊢
        have hw26 : WD D A s.heap (WZ_PathsT cI cJ ad mr (upd (upd (upd (upd (upd (upd (upd mi 5 x_14) 12 x_8) 13 x_10) 14 x_11) 15 x_9) 16 x_12) 17 x_13) (va_up (va_up (va_up (va_up mf 1 g_15) 2 g_16) 3 g_17) 4 g_18) mg) H locs := hw25
        have hp_27 := hp
        rcases hp_27 with ⟨rfl, ha_28, ha_29⟩ | ⟨rfl, ha_30⟩ | ⟨rfl, ha_31⟩
        · skip
          have ha_28 : x_12.toInt = 0 := ha_28
          have ha_29 : ¬ x_10.toInt = 0 := ha_29
          refine lv_if_eq (pc := 18) (tgt := 57) E.1 E.2.1 dX5_read_18 (by decide) (fun c_32 => absurd c_32 (mneE (a := 1) (b := 0) (by decide +kernel) (by decide +kernel) (by omega))) (fun _ => ?_)
          refine lv_aload_n (pc := 21) E.1 E.2.1 dX5_read_21 rfl (lv_at hl21 1 rfl) ?_
          refine x_get (pc := 22) (T := TX5) (N := 7) (ci := 5) (v := .int x_14) E hw26 inX5 0 4 q_318 rfl rfl (by decide) rfl rfl dX5_read_22 ?_
          refine lv_bipush (pc := 25) (v := 40) E.1 E.2.1 dX5_read_25 (by decide +kernel) ?_
          refine lv_icmp_lt (pc := 27) (tgt := 45) E.1 E.2.1 dX5_read_27 (by decide) (fun c_33 => ?_) (fun c_33 => ?_)
          · skip
            have hc_33 := ltE (a := x_14.toInt) (b := 40) rfl (by decide +kernel) c_33
            refine lv_aload_n (pc := 45) E.1 E.2.1 dX5_read_45 rfl (lv_at hl21 1 rfl) ?_
            refine lv_aload_n (pc := 46) E.1 E.2.1 dX5_read_46 rfl (lv_at hl21 2 rfl) ?_
            refine lv_iload_n (pc := 47) E.1 E.2.1 dX5_read_47 rfl (lv_at hl21 3 rfl) ?_
            refine cq_v (pc := 48) (ws' := (fun (u : Int32 × Int32 × Int32 × Int32 × Int32 × Int32 × (Nat → Int32) × (Nat → Int32) × (Nat → Int32) × (Nat → Int32) × Int32) => (WZ_PathsT cI cJ ad mr (upd (upd (upd (upd (upd (upd (upd mi 5 u.2.2.2.2.2.2.2.2.2.2) 12 u.1) 13 u.2.2.1) 14 u.2.2.2.1) 15 u.2.1) 16 u.2.2.2.2.1) 17 u.2.2.2.2.2.1) (va_up (va_up (va_up (va_up mf 1 u.2.2.2.2.2.2.1) 2 u.2.2.2.2.2.2.2.1) 3 u.2.2.2.2.2.2.2.2.1) 4 u.2.2.2.2.2.2.2.2.2.1) mg))) hw26 [0, 1, 2, 3, 4, 5, 6, 7, 8] [] [0, 1, 2, 3, 4, 5, 6, 7, 8] rfl rfl (by decide) (by decide) (fun _ => rfl) (by decide) (rn_V (As := [.ref (mr 8), .int z_houses]) (rest := []) E hw26 (t_readPath l D cI cJ _ (ixf [0, 1, 2, 3, 4, 5, 6, 7, 8, 9, 10, 11, 12, 13, 14, 15, 16, 17] mr) (ixf [0, 1, 2, 3, 4, 5, 6, 7, 8, 9, 10, 11, 12, 13, 14, 15, 16, 17] (upd (upd (upd (upd (upd (upd (upd mi 5 x_14) 12 x_8) 13 x_10) 14 x_11) 15 x_9) 16 x_12) 17 x_13)) (ixf [0, 1, 2, 3, 4, 5, 6, 7, 8, 9, 10, 11, 12, 13, 14, 15, 16, 17] (va_up (va_up (va_up (va_up mf 1 g_15) 2 g_16) 3 g_17) 4 g_18)) (ixf [0, 1, 2, 3, 4, 5, 6, 7, 8, 9, 10, 11, 12, 13, 14, 15, 16, 17] mg) z_houses ad av tf (by show 0 ≤ (mi 10).toInt ∧ (mi 10).toInt ≤ 400; omega) (by show 0 ≤ x_8.toInt; omega) (by show x_8.toInt ≤ (mi 10).toInt; omega) (by show 0 ≤ (mi 11).toInt ∧ (mi 11).toInt ≤ 6; omega) (by show 0 ≤ x_12.toInt ∧ x_12.toInt ≤ 4; omega) (by show 0 ≤ z_houses.toInt ∧ z_houses.toInt ≤ 10; omega) (by show 0 ≤ x_14.toInt ∧ x_14.toInt ≤ 40; omega) hi_18_8 hi_18_9 hi_18_10) (gdV q_916 q_918 q_13 q_155 q_919) hdV_X5_readPath ⟨rfl, rfl⟩ ⟨(Nat.le_of_ble_eq_true rfl), (Nat.le_of_ble_eq_true rfl)⟩ ⟨(Nat.le_of_ble_eq_true rfl), (Nat.le_of_ble_eq_true rfl)⟩ xT8_b (xT8_at hX hw26.2.2.1 (va_free hw26.2.1 hw26.2.2.1 hw26.2.2.2 [0, 1, 2, 3, 4, 5, 6, 7, 8] rfl)) 0 5 rfl rfl rfl [0, 1, 2, 3, 4, 5, 6, 7, 8] rfl (by decide) rfl hl21.1 rfl (Nat.le_of_ble_eq_true rfl) dX5_read_48) (fun u_34 H1 locs hp hw36 => ?_)
            obtain ⟨ntat_37, ntplace_38, ntkind_39, ntvalue_40, ntfault_41, ntfaultPlace_42, gfrom_43, gto_44, glength_45, guntil_46, ncount_47⟩ := u_34
            generalize H1 = H at hw36 ⊢
            have hw48 : WD D A s.heap (WZ_PathsT cI cJ ad mr (upd (upd (upd (upd (upd (upd (upd mi 5 ncount_47) 12 ntat_37) 13 ntkind_39) 14 ntvalue_40) 15 ntplace_38) 16 ntfault_41) 17 ntfaultPlace_42) (va_up (va_up (va_up (va_up mf 1 gfrom_43) 2 gto_44) 3 glength_45) 4 guntil_46) mg) H locs := hw36
            obtain ⟨hp_49, hp_50, hp_51, hp_52, hp_53, hp_54, hp_55, hp_56, hp_57⟩ := hp
            have hp_49 : 0 ≤ ntat_37.toInt := hp_49
            have hp_50 : ntat_37.toInt ≤ (mi 10).toInt := hp_50
            have hp_51 : 0 ≤ ntfault_41.toInt := hp_51
            have hp_52 : ntfault_41.toInt ≤ 4 := hp_52
            have hp_53 : 0 ≤ ncount_47.toInt := hp_53
            have hp_54 : ncount_47.toInt ≤ 40 := hp_54
            obtain ⟨v_58, ev_58⟩ : ∃ z : Int32, x_7 + Int32.ofInt (1) = z := ⟨_, rfl⟩
            have hv_58 : v_58.toInt = x_7.toInt + (1) := by rw [← ev_58]; exact incE rfl (by decide) (by omega)
            refine lv_iinc (pc := 51) (v := v_58) (lv' := [(3, .int v_58), (0, .ref (mr 0)), (1, .ref (mr 8)), (2, .int z_houses)]) E.1 E.2.1 dX5_read_51 hl21 (k := 0) rfl ev_58 (by decide) rfl (fun ls hl59 => ?_)
            refine lv_goto (pc := 54) (tgt := 7) E.1 E.2.1 dX5_read_54 (by decide) ?_
            exact ih_19 v_58 ntat_37 ntplace_38 ntkind_39 ntvalue_40 ntfault_41 ntfaultPlace_42 ncount_47 gfrom_43 gto_44 glength_45 guntil_46 _ _ _ ⟨(by show 0 ≤ ntat_37.toInt; omega), (by show ntat_37.toInt ≤ (mi 10).toInt; omega), (by show 0 ≤ ntfault_41.toInt; omega), (by show ntfault_41.toInt ≤ 4; omega), (by show 0 ≤ ncount_47.toInt; omega), (by show ncount_47.toInt ≤ 40; omega), (by show 0 ≤ v_58.toInt; omega), (by show v_58.toInt ≤ 401; omega), hp_55, hp_56, hp_57⟩ (by omega) hw48 (lv_sub hl59 [0, 1, 2, 3] rfl)
          · skip
            have hc_33 := nltE (a := x_14.toInt) (b := 40) rfl (by decide +kernel) c_33
            refine lv_aload_n (pc := 30) E.1 E.2.1 dX5_read_30 rfl (lv_at hl21 2 rfl) ?_
            refine x_get (pc := 31) (T := TX8) (N := 9) (ci := 8) (v := .int x_10) E hw26 inX8 7 4 q_543 rfl rfl (by decide) rfl rfl dX5_read_31 ?_
            refine lv_sipush (pc := 34) (v := 256) E.1 E.2.1 dX5_read_34 (by decide +kernel) ?_
            refine lv_icmp_ne (pc := 37) (tgt := 45) E.1 E.2.1 dX5_read_37 (by decide) (fun c_60 => ?_) (fun c_60 => ?_)
            · skip
              have hc_60 := neE (a := x_10.toInt) (b := 256) rfl (by decide +kernel) c_60
              refine lv_aload_n (pc := 45) E.1 E.2.1 dX5_read_45 rfl (lv_at hl21 1 rfl) ?_
              refine lv_aload_n (pc := 46) E.1 E.2.1 dX5_read_46 rfl (lv_at hl21 2 rfl) ?_
              refine lv_iload_n (pc := 47) E.1 E.2.1 dX5_read_47 rfl (lv_at hl21 3 rfl) ?_
              refine cq_v (pc := 48) (ws' := (fun (u : Int32 × Int32 × Int32 × Int32 × Int32 × Int32 × (Nat → Int32) × (Nat → Int32) × (Nat → Int32) × (Nat → Int32) × Int32) => (WZ_PathsT cI cJ ad mr (upd (upd (upd (upd (upd (upd (upd mi 5 u.2.2.2.2.2.2.2.2.2.2) 12 u.1) 13 u.2.2.1) 14 u.2.2.2.1) 15 u.2.1) 16 u.2.2.2.2.1) 17 u.2.2.2.2.2.1) (va_up (va_up (va_up (va_up mf 1 u.2.2.2.2.2.2.1) 2 u.2.2.2.2.2.2.2.1) 3 u.2.2.2.2.2.2.2.2.1) 4 u.2.2.2.2.2.2.2.2.2.1) mg))) hw26 [0, 1, 2, 3, 4, 5, 6, 7, 8] [] [0, 1, 2, 3, 4, 5, 6, 7, 8] rfl rfl (by decide) (by decide) (fun _ => rfl) (by decide) (rn_V (As := [.ref (mr 8), .int z_houses]) (rest := []) E hw26 (t_readPath l D cI cJ _ (ixf [0, 1, 2, 3, 4, 5, 6, 7, 8, 9, 10, 11, 12, 13, 14, 15, 16, 17] mr) (ixf [0, 1, 2, 3, 4, 5, 6, 7, 8, 9, 10, 11, 12, 13, 14, 15, 16, 17] (upd (upd (upd (upd (upd (upd (upd mi 5 x_14) 12 x_8) 13 x_10) 14 x_11) 15 x_9) 16 x_12) 17 x_13)) (ixf [0, 1, 2, 3, 4, 5, 6, 7, 8, 9, 10, 11, 12, 13, 14, 15, 16, 17] (va_up (va_up (va_up (va_up mf 1 g_15) 2 g_16) 3 g_17) 4 g_18)) (ixf [0, 1, 2, 3, 4, 5, 6, 7, 8, 9, 10, 11, 12, 13, 14, 15, 16, 17] mg) z_houses ad av tf (by show 0 ≤ (mi 10).toInt ∧ (mi 10).toInt ≤ 400; omega) (by show 0 ≤ x_8.toInt; omega) (by show x_8.toInt ≤ (mi 10).toInt; omega) (by show 0 ≤ (mi 11).toInt ∧ (mi 11).toInt ≤ 6; omega) (by show 0 ≤ x_12.toInt ∧ x_12.toInt ≤ 4; omega) (by show 0 ≤ z_houses.toInt ∧ z_houses.toInt ≤ 10; omega) (by show 0 ≤ x_14.toInt ∧ x_14.toInt ≤ 40; omega) hi_18_8 hi_18_9 hi_18_10) (gdV q_916 q_918 q_13 q_155 q_919) hdV_X5_readPath ⟨rfl, rfl⟩ ⟨(Nat.le_of_ble_eq_true rfl), (Nat.le_of_ble_eq_true rfl)⟩ ⟨(Nat.le_of_ble_eq_true rfl), (Nat.le_of_ble_eq_true rfl)⟩ xT8_b (xT8_at hX hw26.2.2.1 (va_free hw26.2.1 hw26.2.2.1 hw26.2.2.2 [0, 1, 2, 3, 4, 5, 6, 7, 8] rfl)) 0 5 rfl rfl rfl [0, 1, 2, 3, 4, 5, 6, 7, 8] rfl (by decide) rfl hl21.1 rfl (Nat.le_of_ble_eq_true rfl) dX5_read_48) (fun u_61 H1 locs hp hw63 => ?_)
              obtain ⟨ntat_64, ntplace_65, ntkind_66, ntvalue_67, ntfault_68, ntfaultPlace_69, gfrom_70, gto_71, glength_72, guntil_73, ncount_74⟩ := u_61
              generalize H1 = H at hw63 ⊢
              have hw75 : WD D A s.heap (WZ_PathsT cI cJ ad mr (upd (upd (upd (upd (upd (upd (upd mi 5 ncount_74) 12 ntat_64) 13 ntkind_66) 14 ntvalue_67) 15 ntplace_65) 16 ntfault_68) 17 ntfaultPlace_69) (va_up (va_up (va_up (va_up mf 1 gfrom_70) 2 gto_71) 3 glength_72) 4 guntil_73) mg) H locs := hw63
              obtain ⟨hp_76, hp_77, hp_78, hp_79, hp_80, hp_81, hp_82, hp_83, hp_84⟩ := hp
              have hp_76 : 0 ≤ ntat_64.toInt := hp_76
              have hp_77 : ntat_64.toInt ≤ (mi 10).toInt := hp_77
              have hp_78 : 0 ≤ ntfault_68.toInt := hp_78
              have hp_79 : ntfault_68.toInt ≤ 4 := hp_79
              have hp_80 : 0 ≤ ncount_74.toInt := hp_80
              have hp_81 : ncount_74.toInt ≤ 40 := hp_81
              obtain ⟨v_85, ev_85⟩ : ∃ z : Int32, x_7 + Int32.ofInt (1) = z := ⟨_, rfl⟩
              have hv_85 : v_85.toInt = x_7.toInt + (1) := by rw [← ev_85]; exact incE rfl (by decide) (by omega)
              refine lv_iinc (pc := 51) (v := v_85) (lv' := [(3, .int v_85), (0, .ref (mr 0)), (1, .ref (mr 8)), (2, .int z_houses)]) E.1 E.2.1 dX5_read_51 hl21 (k := 0) rfl ev_85 (by decide) rfl (fun ls hl86 => ?_)
              refine lv_goto (pc := 54) (tgt := 7) E.1 E.2.1 dX5_read_54 (by decide) ?_
              exact ih_19 v_85 ntat_64 ntplace_65 ntkind_66 ntvalue_67 ntfault_68 ntfaultPlace_69 ncount_74 gfrom_70 gto_71 glength_72 guntil_73 _ _ _ ⟨(by show 0 ≤ ntat_64.toInt; omega), (by show ntat_64.toInt ≤ (mi 10).toInt; omega), (by show 0 ≤ ntfault_68.toInt; omega), (by show ntfault_68.toInt ≤ 4; omega), (by show 0 ≤ ncount_74.toInt; omega), (by show ncount_74.toInt ≤ 40; omega), (by show 0 ≤ v_85.toInt; omega), (by show v_85.toInt ≤ 401; omega), hp_82, hp_83, hp_84⟩ (by omega) hw75 (lv_sub hl86 [0, 1, 2, 3] rfl)
            · skip
              have hc_60 := eqE (a := x_10.toInt) (b := 256) rfl (by decide +kernel) c_60
              refine lv_aload_n (pc := 40) E.1 E.2.1 dX5_read_40 rfl (lv_at hl21 2 rfl) ?_
              refine lv_iconst (pc := 41) (v := 3) E.1 E.2.1 dX5_read_41 (by decide +kernel) ?_
              refine cq_v (pc := 42) (ws' := (fun (u : Int32 × Int32) => (WZ_PathsT cI cJ ad mr (upd (upd (upd (upd (upd (upd (upd mi 5 x_14) 12 x_8) 13 x_10) 14 x_11) 15 x_9) 16 u.1) 17 u.2) (va_up (va_up (va_up (va_up mf 1 g_15) 2 g_16) 3 g_17) 4 g_18) mg))) hw26 [7, 8] [0, 1, 2, 3, 4, 5, 6] [0, 1, 2, 3, 4, 5, 6, 7, 8] rfl rfl (by decide) (by decide) (fun _ => rfl) (by decide) (rn_V (As := [.int 3]) (rest := []) E hw26 (t_refuse l D cI cJ _ (ixf [8, 9, 10, 11, 12, 13, 14, 15, 16, 17] mr) (ixf [8, 9, 10, 11, 12, 13, 14, 15, 16, 17] (upd (upd (upd (upd (upd (upd (upd mi 5 x_14) 12 x_8) 13 x_10) 14 x_11) 15 x_9) 16 x_12) 17 x_13)) (ixf [8, 9, 10, 11, 12, 13, 14, 15, 16, 17] (va_up (va_up (va_up (va_up mf 1 g_15) 2 g_16) 3 g_17) 4 g_18)) (ixf [8, 9, 10, 11, 12, 13, 14, 15, 16, 17] mg) 3 ad (by show 1 ≤ (3 : Int32).toInt ∧ (3 : Int32).toInt ≤ 4; have k_0 : (3 : Int32).toInt = 3 := (by decide +kernel); omega) (by show 0 ≤ x_12.toInt ∧ x_12.toInt ≤ 4; omega)) (gdV q_915 q_857 q_858 q_160 q_859) hdV_X8_refuse ⟨rfl, rfl⟩ ⟨(Nat.le_of_ble_eq_true rfl), (Nat.le_of_ble_eq_true rfl)⟩ ⟨(Nat.le_of_ble_eq_true rfl), (Nat.le_of_ble_eq_true rfl)⟩ xT_b xT_at 7 8 rfl rfl rfl [7, 8] rfl (by decide) rfl hl21.1 rfl (Nat.le_of_ble_eq_true rfl) dX5_read_42) (fun u_87 H1 locs hp hw89 => ?_)
              obtain ⟨nfault_90, nfaultPlace_91⟩ := u_87
              generalize H1 = H at hw89 ⊢
              have hw92 : WD D A s.heap (WZ_PathsT cI cJ ad mr (upd (upd (upd (upd (upd (upd (upd mi 5 x_14) 12 x_8) 13 x_10) 14 x_11) 15 x_9) 16 nfault_90) 17 nfaultPlace_91) (va_up (va_up (va_up (va_up mf 1 g_15) 2 g_16) 3 g_17) 4 g_18) mg) H locs := hw89
              obtain ⟨hp_93, hp_94⟩ := hp
              have hp_93 : 1 ≤ nfault_90.toInt := hp_93
              have hp_94 : nfault_90.toInt ≤ 4 := hp_94
              refine lv_aload_n (pc := 45) E.1 E.2.1 dX5_read_45 rfl (lv_at hl21 1 rfl) ?_
              refine lv_aload_n (pc := 46) E.1 E.2.1 dX5_read_46 rfl (lv_at hl21 2 rfl) ?_
              refine lv_iload_n (pc := 47) E.1 E.2.1 dX5_read_47 rfl (lv_at hl21 3 rfl) ?_
              refine cq_v (pc := 48) (ws' := (fun (u : Int32 × Int32 × Int32 × Int32 × Int32 × Int32 × (Nat → Int32) × (Nat → Int32) × (Nat → Int32) × (Nat → Int32) × Int32) => (WZ_PathsT cI cJ ad mr (upd (upd (upd (upd (upd (upd (upd mi 5 u.2.2.2.2.2.2.2.2.2.2) 12 u.1) 13 u.2.2.1) 14 u.2.2.2.1) 15 u.2.1) 16 u.2.2.2.2.1) 17 u.2.2.2.2.2.1) (va_up (va_up (va_up (va_up mf 1 u.2.2.2.2.2.2.1) 2 u.2.2.2.2.2.2.2.1) 3 u.2.2.2.2.2.2.2.2.1) 4 u.2.2.2.2.2.2.2.2.2.1) mg))) hw92 [0, 1, 2, 3, 4, 5, 6, 7, 8] [] [0, 1, 2, 3, 4, 5, 6, 7, 8] rfl rfl (by decide) (by decide) (fun _ => rfl) (by decide) (rn_V (As := [.ref (mr 8), .int z_houses]) (rest := []) E hw92 (t_readPath l D cI cJ _ (ixf [0, 1, 2, 3, 4, 5, 6, 7, 8, 9, 10, 11, 12, 13, 14, 15, 16, 17] mr) (ixf [0, 1, 2, 3, 4, 5, 6, 7, 8, 9, 10, 11, 12, 13, 14, 15, 16, 17] (upd (upd (upd (upd (upd (upd (upd mi 5 x_14) 12 x_8) 13 x_10) 14 x_11) 15 x_9) 16 nfault_90) 17 nfaultPlace_91)) (ixf [0, 1, 2, 3, 4, 5, 6, 7, 8, 9, 10, 11, 12, 13, 14, 15, 16, 17] (va_up (va_up (va_up (va_up mf 1 g_15) 2 g_16) 3 g_17) 4 g_18)) (ixf [0, 1, 2, 3, 4, 5, 6, 7, 8, 9, 10, 11, 12, 13, 14, 15, 16, 17] mg) z_houses ad av tf (by show 0 ≤ (mi 10).toInt ∧ (mi 10).toInt ≤ 400; omega) (by show 0 ≤ x_8.toInt; omega) (by show x_8.toInt ≤ (mi 10).toInt; omega) (by show 0 ≤ (mi 11).toInt ∧ (mi 11).toInt ≤ 6; omega) (by show 0 ≤ nfault_90.toInt ∧ nfault_90.toInt ≤ 4; omega) (by show 0 ≤ z_houses.toInt ∧ z_houses.toInt ≤ 10; omega) (by show 0 ≤ x_14.toInt ∧ x_14.toInt ≤ 40; omega) hi_18_8 hi_18_9 hi_18_10) (gdV q_916 q_918 q_13 q_155 q_919) hdV_X5_readPath ⟨rfl, rfl⟩ ⟨(Nat.le_of_ble_eq_true rfl), (Nat.le_of_ble_eq_true rfl)⟩ ⟨(Nat.le_of_ble_eq_true rfl), (Nat.le_of_ble_eq_true rfl)⟩ xT8_b (xT8_at hX hw92.2.2.1 (va_free hw92.2.1 hw92.2.2.1 hw92.2.2.2 [0, 1, 2, 3, 4, 5, 6, 7, 8] rfl)) 0 5 rfl rfl rfl [0, 1, 2, 3, 4, 5, 6, 7, 8] rfl (by decide) rfl hl21.1 rfl (Nat.le_of_ble_eq_true rfl) dX5_read_48) (fun u_95 H1 locs hp hw97 => ?_)
              obtain ⟨ntat_98, ntplace_99, ntkind_100, ntvalue_101, ntfault_102, ntfaultPlace_103, gfrom_104, gto_105, glength_106, guntil_107, ncount_108⟩ := u_95
              generalize H1 = H at hw97 ⊢
              have hw109 : WD D A s.heap (WZ_PathsT cI cJ ad mr (upd (upd (upd (upd (upd (upd (upd mi 5 ncount_108) 12 ntat_98) 13 ntkind_100) 14 ntvalue_101) 15 ntplace_99) 16 ntfault_102) 17 ntfaultPlace_103) (va_up (va_up (va_up (va_up mf 1 gfrom_104) 2 gto_105) 3 glength_106) 4 guntil_107) mg) H locs := hw97
              obtain ⟨hp_110, hp_111, hp_112, hp_113, hp_114, hp_115, hp_116, hp_117, hp_118⟩ := hp
              have hp_110 : 0 ≤ ntat_98.toInt := hp_110
              have hp_111 : ntat_98.toInt ≤ (mi 10).toInt := hp_111
              have hp_112 : 0 ≤ ntfault_102.toInt := hp_112
              have hp_113 : ntfault_102.toInt ≤ 4 := hp_113
              have hp_114 : 0 ≤ ncount_108.toInt := hp_114
              have hp_115 : ncount_108.toInt ≤ 40 := hp_115
              obtain ⟨v_119, ev_119⟩ : ∃ z : Int32, x_7 + Int32.ofInt (1) = z := ⟨_, rfl⟩
              have hv_119 : v_119.toInt = x_7.toInt + (1) := by rw [← ev_119]; exact incE rfl (by decide) (by omega)
              refine lv_iinc (pc := 51) (v := v_119) (lv' := [(3, .int v_119), (0, .ref (mr 0)), (1, .ref (mr 8)), (2, .int z_houses)]) E.1 E.2.1 dX5_read_51 hl21 (k := 0) rfl ev_119 (by decide) rfl (fun ls hl120 => ?_)
              refine lv_goto (pc := 54) (tgt := 7) E.1 E.2.1 dX5_read_54 (by decide) ?_
              exact ih_19 v_119 ntat_98 ntplace_99 ntkind_100 ntvalue_101 ntfault_102 ntfaultPlace_103 ncount_108 gfrom_104 gto_105 glength_106 guntil_107 _ _ _ ⟨(by show 0 ≤ ntat_98.toInt; omega), (by show ntat_98.toInt ≤ (mi 10).toInt; omega), (by show 0 ≤ ntfault_102.toInt; omega), (by show ntfault_102.toInt ≤ 4; omega), (by show 0 ≤ ncount_108.toInt; omega), (by show ncount_108.toInt ≤ 40; omega), (by show 0 ≤ v_119.toInt; omega), (by show v_119.toInt ≤ 401; omega), hp_116, hp_117, hp_118⟩ (by omega) hw109 (lv_sub hl120 [0, 1, 2, 3] rfl)
        · skip
          have ha_30 : ¬ x_12.toInt = 0 := ha_30
          refine lv_if_eq (pc := 18) (tgt := 57) E.1 E.2.1 dX5_read_18 (by decide) (fun _ => ?_) (fun c_121 => absurd (meqE (a := 0) (b := 0) (by decide +kernel) (by decide +kernel) (by omega)) c_121)
          exact em_v (w1 := (fun (u : Int32 × Int32 × Int32 × Int32 × Int32 × Int32 × (Nat → Int32) × (Nat → Int32) × (Nat → Int32) × (Nat → Int32) × Int32) => (WZ_PathsT cI cJ ad mr (upd (upd (upd (upd (upd (upd (upd mi 12 u.1) 15 u.2.1) 13 u.2.2.1) 14 u.2.2.2.1) 16 u.2.2.2.2.1) 17 u.2.2.2.2.2.1) 5 u.2.2.2.2.2.2.2.2.2.2) (va_up (va_up (va_up (va_up mf 1 u.2.2.2.2.2.2.1) 2 u.2.2.2.2.2.2.2.1) 3 u.2.2.2.2.2.2.2.2.1) 4 u.2.2.2.2.2.2.2.2.2.1) mg))) E hr hlk (x_8, x_9, x_10, x_11, x_12, x_13, g_15, g_16, g_17, g_18, x_14) hw26 ⟨(by show 0 ≤ x_8.toInt; omega), (by show x_8.toInt ≤ (mi 10).toInt; omega), (by show 0 ≤ x_12.toInt; omega), (by show x_12.toInt ≤ 4; omega), (by show 0 ≤ x_14.toInt; omega), (by show x_14.toInt ≤ 40; omega), hi_18_8, hi_18_9, hi_18_10⟩ (Nat.le_of_ble_eq_true rfl) (Nat.le_of_ble_eq_true rfl) dX5_read_57
        · skip
          have ha_31 : x_10.toInt = 0 := ha_31
          refine lv_if_eq (pc := 18) (tgt := 57) E.1 E.2.1 dX5_read_18 (by decide) (fun _ => ?_) (fun c_122 => absurd (meqE (a := 0) (b := 0) (by decide +kernel) (by decide +kernel) (by omega)) c_122)
          exact em_v (w1 := (fun (u : Int32 × Int32 × Int32 × Int32 × Int32 × Int32 × (Nat → Int32) × (Nat → Int32) × (Nat → Int32) × (Nat → Int32) × Int32) => (WZ_PathsT cI cJ ad mr (upd (upd (upd (upd (upd (upd (upd mi 12 u.1) 15 u.2.1) 13 u.2.2.1) 14 u.2.2.2.1) 16 u.2.2.2.2.1) 17 u.2.2.2.2.2.1) 5 u.2.2.2.2.2.2.2.2.2.2) (va_up (va_up (va_up (va_up mf 1 u.2.2.2.2.2.2.1) 2 u.2.2.2.2.2.2.2.1) 3 u.2.2.2.2.2.2.2.2.1) 4 u.2.2.2.2.2.2.2.2.2.1) mg))) E hr hlk (x_8, x_9, x_10, x_11, x_12, x_13, g_15, g_16, g_17, g_18, x_14) hw26 ⟨(by show 0 ≤ x_8.toInt; omega), (by show x_8.toInt ≤ (mi 10).toInt; omega), (by show 0 ≤ x_12.toInt; omega), (by show x_12.toInt ≤ 4; omega), (by show 0 ≤ x_14.toInt; omega), (by show x_14.toInt ≤ 40; omega), hi_18_8, hi_18_9, hi_18_10⟩ (Nat.le_of_ble_eq_true rfl) (Nat.le_of_ble_eq_true rfl) dX5_read_57
  exact loop_6 (Int.toNat (401 - 0) + 1) 0 (mi 12) (mi 15) (mi 13) (mi 14) (mi 16) (mi 17) 0 (mf 1) (mf 2) (mf 3) (mf 4) _ _ _ ⟨(by show 0 ≤ (mi 12).toInt; omega), (by show (mi 12).toInt ≤ (mi 10).toInt; omega), (by show 0 ≤ (mi 16).toInt; omega), (by show (mi 16).toInt ≤ 4; omega), (by show 0 ≤ (0 : Int32).toInt; have k_0 : (0 : Int32).toInt = 0 := (by decide +kernel); omega), (by show (0 : Int32).toInt ≤ 40; have k_0 : (0 : Int32).toInt = 0 := (by decide +kernel); omega), (by show 0 ≤ (0 : Int32).toInt; have k_0 : (0 : Int32).toInt = 0 := (by decide +kernel); omega), (by show (0 : Int32).toInt ≤ 401; have k_0 : (0 : Int32).toInt = 0 := (by decide +kernel); omega), a_from, a_to, a_length⟩ (by have k_0 : (0 : Int32).toInt = 0 := (by decide +kernel); have k_7 : (0 : Int32).toInt = 0 := (by decide +kernel); omega) hw4 (lv_sub hl5 [0, 1, 2, 3] rfl)
