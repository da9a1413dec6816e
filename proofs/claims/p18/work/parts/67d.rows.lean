set_option maxHeartbeats 4000000 in
set_option maxRecDepth 100000 in
theorem t_readPath (l : Launch) (D : va_G) (cI cJ : ClassId) (sz : Nat) (mr : Nat → Nat) (mi : Nat → Int32) (mf : Nat → Nat → Int32) (mg : Nat → Nat → Int64) (z_houses : Int32) (ad av : Nat → Nat) (tf : Value) (h0 : 0 ≤ (mi 10).toInt ∧ (mi 10).toInt ≤ 400) (h1 : 0 ≤ (mi 12).toInt) (h2 : (mi 12).toInt ≤ (mi 10).toInt) (h3 : 0 ≤ (mi 11).toInt ∧ (mi 11).toInt ≤ 6) (h4 : 0 ≤ (mi 16).toInt ∧ (mi 16).toInt ≤ 4) (h5 : 0 ≤ z_houses.toInt ∧ z_houses.toInt ≤ 10) (h6 : 0 ≤ (mi 5).toInt ∧ (mi 5).toInt ≤ 40) (a_from : p9 (mf 1)) (a_to : p9 (mf 2)) : Met l yX5_readPath (Cond.code yX5_readPath cX5_readPath 7 none :: GW) ({ frames := 8, cells := 0, slots := 0, locals := 194 } : Room) (va_Pc [.ref (mr 0), .ref (mr 8), .int z_houses] (PW D cI cJ sz (WZ_PathsT cI cJ ad mr mi mf mg) (xT8 ad av tf (va_A (WZ_PathsT cI cJ ad mr mi mf mg) sz)))) (va_Qv (fun (u : Int32 × Int32 × Int32 × Int32 × Int32 × Int32 × (Nat → Int32) × (Nat → Int32) × (Nat → Int32) × (Nat → Int32) × Int32) => (0 ≤ u.1.toInt) ∧ (u.1.toInt ≤ (mi 10).toInt) ∧ (0 ≤ u.2.2.2.2.1.toInt) ∧ (u.2.2.2.2.1.toInt ≤ 4) ∧ (0 ≤ u.2.2.2.2.2.2.2.2.2.2.toInt) ∧ (u.2.2.2.2.2.2.2.2.2.2.toInt ≤ 40) ∧ (p9 u.2.2.2.2.2.2.1) ∧ (p9 u.2.2.2.2.2.2.2.1)) (fun u => QW D cI cJ (va_A (WZ_PathsT cI cJ ad mr mi mf mg) sz) ((fun (u : Int32 × Int32 × Int32 × Int32 × Int32 × Int32 × (Nat → Int32) × (Nat → Int32) × (Nat → Int32) × (Nat → Int32) × Int32) => (WZ_PathsT cI cJ ad mr (upd (upd (upd (upd (upd (upd (upd mi 12 u.1) 15 u.2.1) 13 u.2.2.1) 14 u.2.2.2.1) 16 u.2.2.2.2.1) 17 u.2.2.2.2.2.1) 5 u.2.2.2.2.2.2.2.2.2.2) (va_up (va_up (va_up (va_up mf 1 u.2.2.2.2.2.2.1) 2 u.2.2.2.2.2.2.2.1) 3 u.2.2.2.2.2.2.2.2.1) 4 u.2.2.2.2.2.2.2.2.2.1) mg)) u)) (va_A (WZ_PathsT cI cJ ad mr mi mf mg) sz)) 0 0 (va_A (WZ_PathsT cI cJ ad mr mi mf mg) sz) := by
  refine mk_metA (X := fun A => xT8 ad av tf A) (y := yX5_readPath) (bytes := cX5_readPath) (maxL := 7) (avs := [.ref (mr 0), .ref (mr 8), .int z_houses]) (WS := (WZ_PathsT cI cJ ad mr mi mf mg)) (Qf := fun A => va_Qv (fun (u : Int32 × Int32 × Int32 × Int32 × Int32 × Int32 × (Nat → Int32) × (Nat → Int32) × (Nat → Int32) × (Nat → Int32) × Int32) => (0 ≤ u.1.toInt) ∧ (u.1.toInt ≤ (mi 10).toInt) ∧ (0 ≤ u.2.2.2.2.1.toInt) ∧ (u.2.2.2.2.1.toInt ≤ 4) ∧ (0 ≤ u.2.2.2.2.2.2.2.2.2.2.toInt) ∧ (u.2.2.2.2.2.2.2.2.2.2.toInt ≤ 40) ∧ (p9 u.2.2.2.2.2.2.1) ∧ (p9 u.2.2.2.2.2.2.2.1)) (fun u => QW D cI cJ A ((fun (u : Int32 × Int32 × Int32 × Int32 × Int32 × Int32 × (Nat → Int32) × (Nat → Int32) × (Nat → Int32) × (Nat → Int32) × Int32) => (WZ_PathsT cI cJ ad mr (upd (upd (upd (upd (upd (upd (upd mi 12 u.1) 15 u.2.1) 13 u.2.2.1) 14 u.2.2.2.1) 16 u.2.2.2.2.1) 17 u.2.2.2.2.2.1) 5 u.2.2.2.2.2.2.2.2.2.2) (va_up (va_up (va_up (va_up mf 1 u.2.2.2.2.2.2.1) 2 u.2.2.2.2.2.2.2.1) 3 u.2.2.2.2.2.2.2.2.1) 4 u.2.2.2.2.2.2.2.2.2.1) mg)) u)) A) (by decide) (Nat.le_of_ble_eq_true rfl) ?_
  intro p e s m below meth c A ls E hr hlk hnm hX hw1 hl2
  have hl3 : lv_has ls 7 [(0, .ref (mr 0)), (1, .ref (mr 8)), (2, .int z_houses)] := hl2
  refine lv_aload_n (pc := 0) E.1 E.2.1 dX5_readPath_0 rfl (lv_at hl3 1 rfl) ?_
  refine lv_sipush (pc := 1) (v := 256) E.1 E.2.1 dX5_readPath_1 (by decide +kernel) ?_
  refine ck_v (pc := 4) (ws' := (fun (u : Int32 × Int32 × Int32 × Int32 × Int32 × Int32) => (WZ_PathsT cI cJ ad mr (upd (upd (upd (upd (upd (upd mi 12 u.1) 13 u.2.2.1) 14 u.2.2.2.1) 15 u.2.1) 16 u.2.2.2.2.1) 17 u.2.2.2.2.2) mf mg))) [false, false, false, false, false, false, false, true, true] hw1 rfl (fun hC_ => (rn_V (As := [.int 256]) (rest := []) E hw1 (t_pass l D cI cJ _ (shf 8 mr) (shf 8 mi) (shf 8 mf) (shf 8 mg) 256 ad av tf h0 h1 h2 h3 h4) (gdV q_920 q_861 q_862 q_160 q_863) hdV_X8_pass ⟨rfl, rfl⟩ ⟨(Nat.le_of_ble_eq_true rfl), (Nat.le_of_ble_eq_true rfl)⟩ ⟨(Nat.le_of_ble_eq_true rfl), (Nat.le_of_ble_eq_true rfl)⟩ xT8_b (xT8_at hX hw1.2.2.1 (va_free hw1.2.1 hw1.2.2.1 hw1.2.2.2 _ hC_)) 7 8 rfl rfl rfl _ hC_ (nd_T _ 0) rfl hl3.1 rfl (Nat.le_of_ble_eq_true rfl) dX5_readPath_4)) rfl (fun _ => rfl) (fun _ => rfl) (fun u_4 H1 locs hp hw6 => ?_)
  obtain ⟨nat_7, nplace_8, nkind_9, nvalue_10, nfault_11, nfaultPlace_12⟩ := u_4
  generalize H1 = H at hw6 ⊢
  have hw13 : WD D A s.heap (WZ_PathsT cI cJ ad mr (upd (upd (upd (upd (upd (upd mi 12 nat_7) 13 nkind_9) 14 nvalue_10) 15 nplace_8) 16 nfault_11) 17 nfaultPlace_12) mf mg) H locs := hw6
  obtain ⟨hp_14, hp_15, hp_16, hp_17⟩ := hp
  have hp_14 : 0 ≤ nat_7.toInt := hp_14
  have hp_15 : nat_7.toInt ≤ (mi 10).toInt := hp_15
  have hp_16 : 0 ≤ nfault_11.toInt := hp_16
  have hp_17 : nfault_11.toInt ≤ 4 := hp_17
  refine lv_aload_n (pc := 7) E.1 E.2.1 dX5_readPath_7 rfl (lv_at hl3 1 rfl) ?_
  refine lv_iconst (pc := 8) (v := 0) E.1 E.2.1 dX5_readPath_8 (by decide +kernel) ?_
  refine lv_iload_n (pc := 9) E.1 E.2.1 dX5_readPath_9 rfl (lv_at hl3 2 rfl) ?_
  refine lv_iconst (pc := 10) (v := 1) E.1 E.2.1 dX5_readPath_10 (by decide +kernel) ?_
  refine lv_isub (pc := 11) E.1 E.2.1 dX5_readPath_11 ?_
  refine lv_topi (fun v_18 ev_18 => ?_)
  have hv_18 : v_18.toInt = z_houses.toInt - 1 := by rw [ev_18]; exact subE rfl (by decide +kernel) (by omega)
  refine ck_i (pc := 12) (ws' := (fun (u : Int32 × Int32 × Int32 × Int32 × Int32 × Int32) => (WZ_PathsT cI cJ ad mr (upd (upd (upd (upd (upd (upd mi 12 u.1) 13 u.2.2.1) 14 u.2.2.2.1) 15 u.2.1) 16 u.2.2.2.2.1) 17 u.2.2.2.2.2) mf mg))) [false, false, false, false, false, false, false, true, true] hw13 rfl (fun hC_ => (rn_V (As := [.int 0, .int v_18]) (rest := []) E hw13 (t_numberB l D cI cJ _ (shf 8 mr) (shf 8 (upd (upd (upd (upd (upd (upd mi 12 nat_7) 13 nkind_9) 14 nvalue_10) 15 nplace_8) 16 nfault_11) 17 nfaultPlace_12)) (shf 8 mf) (shf 8 mg) 0 v_18 ad av tf h0 hp_14 hp_15 h3 ⟨hp_16, hp_17⟩ (by show 0 ≤ (0 : Int32).toInt; have k_0 : (0 : Int32).toInt = 0 := (by decide +kernel); omega) (by show (0 : Int32).toInt ≤ 9; have k_0 : (0 : Int32).toInt = 0 := (by decide +kernel); omega) (by show v_18.toInt ≤ 9; omega)) (gdV q_921 q_879 q_880 q_160 q_881) hdV_X8_number ⟨rfl, rfl⟩ ⟨(Nat.le_of_ble_eq_true rfl), (Nat.le_of_ble_eq_true rfl)⟩ ⟨(Nat.le_of_ble_eq_true rfl), (Nat.le_of_ble_eq_true rfl)⟩ xT8_b (xT8_at hX hw13.2.2.1 (va_free hw13.2.1 hw13.2.2.1 hw13.2.2.2 _ hC_)) 7 8 rfl rfl rfl _ hC_ (nd_T _ 0) rfl hl3.1 rfl (Nat.le_of_ble_eq_true rfl) dX5_readPath_12)) rfl (fun _ => rfl) (fun _ => rfl) (fun r_20 u_19 H1 locs hp hw21 => ?_)
  obtain ⟨nat_22, nplace_23, nkind_24, nvalue_25, nfault_26, nfaultPlace_27⟩ := u_19
  generalize H1 = H at hw21 ⊢
  have hw28 : WD D A s.heap (WZ_PathsT cI cJ ad mr (upd (upd (upd (upd (upd (upd mi 12 nat_22) 13 nkind_24) 14 nvalue_25) 15 nplace_23) 16 nfault_26) 17 nfaultPlace_27) mf mg) H locs := hw21
  obtain ⟨hp_29, hp_30, hp_31, hp_32, hp_33, hp_34⟩ := hp
  have hp_29 : 0 ≤ nat_22.toInt := hp_29
  have hp_30 : nat_22.toInt ≤ (mi 10).toInt := hp_30
  have hp_31 : 0 ≤ nfault_26.toInt := hp_31
  have hp_32 : nfault_26.toInt ≤ 4 := hp_32
  have hp_33 : 0 ≤ r_20.toInt := hp_33
  have hp_34 : r_20.toInt ≤ 9 := hp_34
  refine lv_istore_n (pc := 15) (lv' := [(3, .int r_20), (0, .ref (mr 0)), (1, .ref (mr 8)), (2, .int z_houses)]) E.1 E.2.1 dX5_readPath_15 rfl hl3 (by decide) rfl (fun ls hl35 => ?_)
  refine lv_aload_n (pc := 16) E.1 E.2.1 dX5_readPath_16 rfl (lv_at hl35 2 rfl) ?_
  refine lv_sipush (pc := 17) (v := 257) E.1 E.2.1 dX5_readPath_17 (by decide +kernel) ?_
  refine ck_v (pc := 20) (ws' := (fun (u : Int32 × Int32 × Int32 × Int32 × Int32 × Int32) => (WZ_PathsT cI cJ ad mr (upd (upd (upd (upd (upd (upd mi 12 u.1) 13 u.2.2.1) 14 u.2.2.2.1) 15 u.2.1) 16 u.2.2.2.2.1) 17 u.2.2.2.2.2) mf mg))) [false, false, false, false, false, false, false, true, true] hw28 rfl (fun hC_ => (rn_V (As := [.int 257]) (rest := []) E hw28 (t_pass l D cI cJ _ (shf 8 mr) (shf 8 (upd (upd (upd (upd (upd (upd mi 12 nat_22) 13 nkind_24) 14 nvalue_25) 15 nplace_23) 16 nfault_26) 17 nfaultPlace_27)) (shf 8 mf) (shf 8 mg) 257 ad av tf h0 hp_29 hp_30 h3 ⟨hp_31, hp_32⟩) (gdV q_920 q_861 q_862 q_160 q_863) hdV_X8_pass ⟨rfl, rfl⟩ ⟨(Nat.le_of_ble_eq_true rfl), (Nat.le_of_ble_eq_true rfl)⟩ ⟨(Nat.le_of_ble_eq_true rfl), (Nat.le_of_ble_eq_true rfl)⟩ xT8_b (xT8_at hX hw28.2.2.1 (va_free hw28.2.1 hw28.2.2.1 hw28.2.2.2 _ hC_)) 7 8 rfl rfl rfl _ hC_ (nd_T _ 0) rfl hl35.1 rfl (Nat.le_of_ble_eq_true rfl) dX5_readPath_20)) rfl (fun _ => rfl) (fun _ => rfl) (fun u_36 H1 locs hp hw38 => ?_)
  obtain ⟨nat_39, nplace_40, nkind_41, nvalue_42, nfault_43, nfaultPlace_44⟩ := u_36
  generalize H1 = H at hw38 ⊢
  have hw45 : WD D A s.heap (WZ_PathsT cI cJ ad mr (upd (upd (upd (upd (upd (upd mi 12 nat_39) 13 nkind_41) 14 nvalue_42) 15 nplace_40) 16 nfault_43) 17 nfaultPlace_44) mf mg) H locs := hw38
  obtain ⟨hp_46, hp_47, hp_48, hp_49⟩ := hp
  have hp_46 : 0 ≤ nat_39.toInt := hp_46
  have hp_47 : nat_39.toInt ≤ (mi 10).toInt := hp_47
  have hp_48 : 0 ≤ nfault_43.toInt := hp_48
  have hp_49 : nfault_43.toInt ≤ 4 := hp_49
  refine lv_aload_n (pc := 23) E.1 E.2.1 dX5_readPath_23 rfl (lv_at hl35 2 rfl) ?_
  refine lv_iconst (pc := 24) (v := 0) E.1 E.2.1 dX5_readPath_24 (by decide +kernel) ?_
  refine lv_iload_n (pc := 25) E.1 E.2.1 dX5_readPath_25 rfl (lv_at hl35 3 rfl) ?_
  refine lv_iconst (pc := 26) (v := 1) E.1 E.2.1 dX5_readPath_26 (by decide +kernel) ?_
  refine lv_isub (pc := 27) E.1 E.2.1 dX5_readPath_27 ?_
  refine lv_topi (fun v_50 ev_50 => ?_)
  have hv_50 : v_50.toInt = z_houses.toInt - 1 := by rw [ev_50]; exact subE rfl (by decide +kernel) (by omega)
  refine ck_i (pc := 28) (ws' := (fun (u : Int32 × Int32 × Int32 × Int32 × Int32 × Int32) => (WZ_PathsT cI cJ ad mr (upd (upd (upd (upd (upd (upd mi 12 u.1) 13 u.2.2.1) 14 u.2.2.2.1) 15 u.2.1) 16 u.2.2.2.2.1) 17 u.2.2.2.2.2) mf mg))) [false, false, false, false, false, false, false, true, true] hw45 rfl (fun hC_ => (rn_V (As := [.int 0, .int v_50]) (rest := []) E hw45 (t_numberB l D cI cJ _ (shf 8 mr) (shf 8 (upd (upd (upd (upd (upd (upd mi 12 nat_39) 13 nkind_41) 14 nvalue_42) 15 nplace_40) 16 nfault_43) 17 nfaultPlace_44)) (shf 8 mf) (shf 8 mg) 0 v_50 ad av tf h0 hp_46 hp_47 h3 ⟨hp_48, hp_49⟩ (by show 0 ≤ (0 : Int32).toInt; have k_0 : (0 : Int32).toInt = 0 := (by decide +kernel); omega) (by show (0 : Int32).toInt ≤ 9; have k_0 : (0 : Int32).toInt = 0 := (by decide +kernel); omega) (by show v_50.toInt ≤ 9; omega)) (gdV q_921 q_879 q_880 q_160 q_881) hdV_X8_number ⟨rfl, rfl⟩ ⟨(Nat.le_of_ble_eq_true rfl), (Nat.le_of_ble_eq_true rfl)⟩ ⟨(Nat.le_of_ble_eq_true rfl), (Nat.le_of_ble_eq_true rfl)⟩ xT8_b (xT8_at hX hw45.2.2.1 (va_free hw45.2.1 hw45.2.2.1 hw45.2.2.2 _ hC_)) 7 8 rfl rfl rfl _ hC_ (nd_T _ 0) rfl hl35.1 rfl (Nat.le_of_ble_eq_true rfl) dX5_readPath_28)) rfl (fun _ => rfl) (fun _ => rfl) (fun r_52 u_51 H1 locs hp hw53 => ?_)
  obtain ⟨nat_54, nplace_55, nkind_56, nvalue_57, nfault_58, nfaultPlace_59⟩ := u_51
  generalize H1 = H at hw53 ⊢
  have hw60 : WD D A s.heap (WZ_PathsT cI cJ ad mr (upd (upd (upd (upd (upd (upd mi 12 nat_54) 13 nkind_56) 14 nvalue_57) 15 nplace_55) 16 nfault_58) 17 nfaultPlace_59) mf mg) H locs := hw53
  obtain ⟨hp_61, hp_62, hp_63, hp_64, hp_65, hp_66⟩ := hp
  have hp_61 : 0 ≤ nat_54.toInt := hp_61
  have hp_62 : nat_54.toInt ≤ (mi 10).toInt := hp_62
  have hp_63 : 0 ≤ nfault_58.toInt := hp_63
  have hp_64 : nfault_58.toInt ≤ 4 := hp_64
  have hp_65 : 0 ≤ r_52.toInt := hp_65
  have hp_66 : r_52.toInt ≤ 9 := hp_66
  refine lv_istore (pc := 31) (lv' := [(4, .int r_52), (3, .int r_20), (0, .ref (mr 0)), (1, .ref (mr 8)), (2, .int z_houses)]) E.1 E.2.1 dX5_readPath_31 hl35 (by decide) rfl (fun ls hl67 => ?_)
  refine lv_aload_n (pc := 33) E.1 E.2.1 dX5_readPath_33 rfl (lv_at hl67 3 rfl) ?_
  refine lv_sipush (pc := 34) (v := 258) E.1 E.2.1 dX5_readPath_34 (by decide +kernel) ?_
  refine ck_v (pc := 37) (ws' := (fun (u : Int32 × Int32 × Int32 × Int32 × Int32 × Int32) => (WZ_PathsT cI cJ ad mr (upd (upd (upd (upd (upd (upd mi 12 u.1) 13 u.2.2.1) 14 u.2.2.2.1) 15 u.2.1) 16 u.2.2.2.2.1) 17 u.2.2.2.2.2) mf mg))) [false, false, false, false, false, false, false, true, true] hw60 rfl (fun hC_ => (rn_V (As := [.int 258]) (rest := []) E hw60 (t_pass l D cI cJ _ (shf 8 mr) (shf 8 (upd (upd (upd (upd (upd (upd mi 12 nat_54) 13 nkind_56) 14 nvalue_57) 15 nplace_55) 16 nfault_58) 17 nfaultPlace_59)) (shf 8 mf) (shf 8 mg) 258 ad av tf h0 hp_61 hp_62 h3 ⟨hp_63, hp_64⟩) (gdV q_920 q_861 q_862 q_160 q_863) hdV_X8_pass ⟨rfl, rfl⟩ ⟨(Nat.le_of_ble_eq_true rfl), (Nat.le_of_ble_eq_true rfl)⟩ ⟨(Nat.le_of_ble_eq_true rfl), (Nat.le_of_ble_eq_true rfl)⟩ xT8_b (xT8_at hX hw60.2.2.1 (va_free hw60.2.1 hw60.2.2.1 hw60.2.2.2 _ hC_)) 7 8 rfl rfl rfl _ hC_ (nd_T _ 0) rfl hl67.1 rfl (Nat.le_of_ble_eq_true rfl) dX5_readPath_37)) rfl (fun _ => rfl) (fun _ => rfl) (fun u_68 H1 locs hp hw70 => ?_)
  obtain ⟨nat_71, nplace_72, nkind_73, nvalue_74, nfault_75, nfaultPlace_76⟩ := u_68
  generalize H1 = H at hw70 ⊢
  have hw77 : WD D A s.heap (WZ_PathsT cI cJ ad mr (upd (upd (upd (upd (upd (upd mi 12 nat_71) 13 nkind_73) 14 nvalue_74) 15 nplace_72) 16 nfault_75) 17 nfaultPlace_76) mf mg) H locs := hw70
  obtain ⟨hp_78, hp_79, hp_80, hp_81⟩ := hp
  have hp_78 : 0 ≤ nat_71.toInt := hp_78
  have hp_79 : nat_71.toInt ≤ (mi 10).toInt := hp_79
  have hp_80 : 0 ≤ nfault_75.toInt := hp_80
  have hp_81 : nfault_75.toInt ≤ 4 := hp_81
  refine lv_aload_n (pc := 40) E.1 E.2.1 dX5_readPath_40 rfl (lv_at hl67 3 rfl) ?_
  refine lv_iconst (pc := 41) (v := 1) E.1 E.2.1 dX5_readPath_41 (by decide +kernel) ?_
  refine lv_bipush (pc := 42) (v := 99) E.1 E.2.1 dX5_readPath_42 (by decide +kernel) ?_
  refine ck_i (pc := 44) (ws' := (fun (u : Int32 × Int32 × Int32 × Int32 × Int32 × Int32) => (WZ_PathsT cI cJ ad mr (upd (upd (upd (upd (upd (upd mi 12 u.1) 13 u.2.2.1) 14 u.2.2.2.1) 15 u.2.1) 16 u.2.2.2.2.1) 17 u.2.2.2.2.2) mf mg))) [false, false, false, false, false, false, false, true, true] hw77 rfl (fun hC_ => (rn_V (As := [.int 1, .int 99]) (rest := []) E hw77 (t_numberA l D cI cJ _ (shf 8 mr) (shf 8 (upd (upd (upd (upd (upd (upd mi 12 nat_71) 13 nkind_73) 14 nvalue_74) 15 nplace_72) 16 nfault_75) 17 nfaultPlace_76)) (shf 8 mf) (shf 8 mg) 1 99 ad av tf h0 hp_78 hp_79 h3 ⟨hp_80, hp_81⟩ (by show (1 : Int32).toInt ≤ (99 : Int32).toInt; have k_0 : (1 : Int32).toInt = 1 := (by decide +kernel); have k_1 : (99 : Int32).toInt = 99 := (by decide +kernel); omega)) (gdV q_921 q_879 q_880 q_160 q_881) hdV_X8_number ⟨rfl, rfl⟩ ⟨(Nat.le_of_ble_eq_true rfl), (Nat.le_of_ble_eq_true rfl)⟩ ⟨(Nat.le_of_ble_eq_true rfl), (Nat.le_of_ble_eq_true rfl)⟩ xT8_b (xT8_at hX hw77.2.2.1 (va_free hw77.2.1 hw77.2.2.1 hw77.2.2.2 _ hC_)) 7 8 rfl rfl rfl _ hC_ (nd_T _ 0) rfl hl67.1 rfl (Nat.le_of_ble_eq_true rfl) dX5_readPath_44)) rfl (fun _ => rfl) (fun _ => rfl) (fun r_83 u_82 H1 locs hp hw84 => ?_)
  obtain ⟨nat_85, nplace_86, nkind_87, nvalue_88, nfault_89, nfaultPlace_90⟩ := u_82
  generalize H1 = H at hw84 ⊢
  have hw91 : WD D A s.heap (WZ_PathsT cI cJ ad mr (upd (upd (upd (upd (upd (upd mi 12 nat_85) 13 nkind_87) 14 nvalue_88) 15 nplace_86) 16 nfault_89) 17 nfaultPlace_90) mf mg) H locs := hw84
  obtain ⟨hp_92, hp_93, hp_94, hp_95, hp_96, hp_97⟩ := hp
  have hp_92 : 0 ≤ nat_85.toInt := hp_92
  have hp_93 : nat_85.toInt ≤ (mi 10).toInt := hp_93
  have hp_94 : 0 ≤ nfault_89.toInt := hp_94
  have hp_95 : nfault_89.toInt ≤ 4 := hp_95
  have hp_96 : (1 : Int32).toInt ≤ r_83.toInt := hp_96
  rw [show (1 : Int32).toInt = 1 from by decide +kernel] at hp_96
  have hp_97 : r_83.toInt ≤ (99 : Int32).toInt := hp_97
  rw [show (99 : Int32).toInt = 99 from by decide +kernel] at hp_97
  refine lv_istore (pc := 47) (lv' := [(5, .int r_83), (4, .int r_52), (3, .int r_20), (0, .ref (mr 0)), (1, .ref (mr 8)), (2, .int z_houses)]) E.1 E.2.1 dX5_readPath_47 hl67 (by decide) rfl (fun ls hl98 => ?_)
  refine lv_bipush (pc := 49) (v := 9) E.1 E.2.1 dX5_readPath_49 (by decide +kernel) ?_
  refine lv_istore (pc := 51) (lv' := [(6, .int 9), (5, .int r_83), (4, .int r_52), (3, .int r_20), (0, .ref (mr 0)), (1, .ref (mr 8)), (2, .int z_houses)]) E.1 E.2.1 dX5_readPath_51 hl98 (by decide) rfl (fun ls hl99 => ?_)
  refine lv_aload_n (pc := 53) E.1 E.2.1 dX5_readPath_53 rfl (lv_at hl99 5 rfl) ?_
  refine x_get (pc := 54) (T := TX8) (N := 9) (ci := 8) (v := .int nkind_87) E hw91 inX8 7 4 q_543 rfl rfl (by decide) rfl rfl dX5_readPath_54 ?_
  refine lv_sipush (pc := 57) (v := 259) E.1 E.2.1 dX5_readPath_57 (by decide +kernel) ?_
  refine lv_icmp_ne (pc := 60) (tgt := 76) E.1 E.2.1 dX5_readPath_60 (by decide) (fun c_100 => ?_) (fun c_100 => ?_)
  · skip
    have hc_100 := neE (a := nkind_87.toInt) (b := 259) rfl (by decide +kernel) c_100
    refine lv_aload_n (pc := 76) E.1 E.2.1 dX5_readPath_76 rfl (lv_at hl99 5 rfl) ?_
    refine lv_bipush (pc := 77) (v := 59) E.1 E.2.1 dX5_readPath_77 (by decide +kernel) ?_
    refine ck_v (pc := 79) (ws' := (fun (u : Int32 × Int32 × Int32 × Int32 × Int32 × Int32) => (WZ_PathsT cI cJ ad mr (upd (upd (upd (upd (upd (upd mi 12 u.1) 13 u.2.2.1) 14 u.2.2.2.1) 15 u.2.1) 16 u.2.2.2.2.1) 17 u.2.2.2.2.2) mf mg))) [false, false, false, false, false, false, false, true, true] hw91 rfl (fun hC_ => (rn_V (As := [.int 59]) (rest := []) E hw91 (t_pass l D cI cJ _ (shf 8 mr) (shf 8 (upd (upd (upd (upd (upd (upd mi 12 nat_85) 13 nkind_87) 14 nvalue_88) 15 nplace_86) 16 nfault_89) 17 nfaultPlace_90)) (shf 8 mf) (shf 8 mg) 59 ad av tf h0 hp_92 hp_93 h3 ⟨hp_94, hp_95⟩) (gdV q_920 q_861 q_862 q_160 q_863) hdV_X8_pass ⟨rfl, rfl⟩ ⟨(Nat.le_of_ble_eq_true rfl), (Nat.le_of_ble_eq_true rfl)⟩ ⟨(Nat.le_of_ble_eq_true rfl), (Nat.le_of_ble_eq_true rfl)⟩ xT8_b (xT8_at hX hw91.2.2.1 (va_free hw91.2.1 hw91.2.2.1 hw91.2.2.2 _ hC_)) 7 8 rfl rfl rfl _ hC_ (nd_T _ 0) rfl hl99.1 rfl (Nat.le_of_ble_eq_true rfl) dX5_readPath_79)) rfl (fun _ => rfl) (fun _ => rfl) (fun u_101 H1 locs hp hw103 => ?_)
    obtain ⟨nat_104, nplace_105, nkind_106, nvalue_107, nfault_108, nfaultPlace_109⟩ := u_101
    generalize H1 = H at hw103 ⊢
    have hw110 : WD D A s.heap (WZ_PathsT cI cJ ad mr (upd (upd (upd (upd (upd (upd mi 12 nat_104) 13 nkind_106) 14 nvalue_107) 15 nplace_105) 16 nfault_108) 17 nfaultPlace_109) mf mg) H locs := hw103
    obtain ⟨hp_111, hp_112, hp_113, hp_114⟩ := hp
    have hp_111 : 0 ≤ nat_104.toInt := hp_111
    have hp_112 : nat_104.toInt ≤ (mi 10).toInt := hp_112
    have hp_113 : 0 ≤ nfault_108.toInt := hp_113
    have hp_114 : nfault_108.toInt ≤ 4 := hp_114
    refine lv_aload_n (pc := 82) E.1 E.2.1 dX5_readPath_82 rfl (lv_at hl99 5 rfl) ?_
    refine x_get (pc := 83) (T := TX8) (N := 9) (ci := 8) (v := .int nfault_108) E hw110 inX8 7 7 q_553 rfl rfl (by decide) rfl rfl dX5_readPath_83 ?_
    refine lv_if_ne (pc := 86) (tgt := 151) E.1 E.2.1 dX5_readPath_86 (by decide) (fun c_115 => ?_) (fun c_115 => ?_)
    · skip
      have hc_115 := neE (a := nfault_108.toInt) (b := 0) rfl (by decide +kernel) c_115
      exact em_v (w1 := (fun (u : Int32 × Int32 × Int32 × Int32 × Int32 × Int32 × (Nat → Int32) × (Nat → Int32) × (Nat → Int32) × (Nat → Int32) × Int32) => (WZ_PathsT cI cJ ad mr (upd (upd (upd (upd (upd (upd (upd mi 12 u.1) 15 u.2.1) 13 u.2.2.1) 14 u.2.2.2.1) 16 u.2.2.2.2.1) 17 u.2.2.2.2.2.1) 5 u.2.2.2.2.2.2.2.2.2.2) (va_up (va_up (va_up (va_up mf 1 u.2.2.2.2.2.2.1) 2 u.2.2.2.2.2.2.2.1) 3 u.2.2.2.2.2.2.2.2.1) 4 u.2.2.2.2.2.2.2.2.2.1) mg))) E hr hlk (nat_104, nplace_105, nkind_106, nvalue_107, nfault_108, nfaultPlace_109, (mf 1), (mf 2), (mf 3), (mf 4), (mi 5)) hw110 ⟨hp_111, hp_112, hp_113, hp_114, h6.1, h6.2, a_from, a_to⟩ (Nat.le_of_ble_eq_true rfl) (Nat.le_of_ble_eq_true rfl) dX5_readPath_151
    · skip
      have hc_115 := eqE (a := nfault_108.toInt) (b := 0) rfl (by decide +kernel) c_115
      refine lv_aload_n (pc := 89) E.1 E.2.1 dX5_readPath_89 rfl (lv_at hl99 4 rfl) ?_
      refine x_get (pc := 90) (T := TX5) (N := 7) (ci := 5) (v := .int (mi 5)) E hw110 inX5 0 4 q_318 rfl rfl (by decide) rfl rfl dX5_readPath_90 ?_
      refine lv_bipush (pc := 93) (v := 40) E.1 E.2.1 dX5_readPath_93 (by decide +kernel) ?_
      refine lv_icmp_ge (pc := 95) (tgt := 151) E.1 E.2.1 dX5_readPath_95 (by decide) (fun c_116 => ?_) (fun c_116 => ?_)
      · skip
        have hc_116 := leE (a := 40) (b := (mi 5).toInt) (by decide +kernel) rfl c_116
        exact em_v (w1 := (fun (u : Int32 × Int32 × Int32 × Int32 × Int32 × Int32 × (Nat → Int32) × (Nat → Int32) × (Nat → Int32) × (Nat → Int32) × Int32) => (WZ_PathsT cI cJ ad mr (upd (upd (upd (upd (upd (upd (upd mi 12 u.1) 15 u.2.1) 13 u.2.2.1) 14 u.2.2.2.1) 16 u.2.2.2.2.1) 17 u.2.2.2.2.2.1) 5 u.2.2.2.2.2.2.2.2.2.2) (va_up (va_up (va_up (va_up mf 1 u.2.2.2.2.2.2.1) 2 u.2.2.2.2.2.2.2.1) 3 u.2.2.2.2.2.2.2.2.1) 4 u.2.2.2.2.2.2.2.2.2.1) mg))) E hr hlk (nat_104, nplace_105, nkind_106, nvalue_107, nfault_108, nfaultPlace_109, (mf 1), (mf 2), (mf 3), (mf 4), (mi 5)) hw110 ⟨hp_111, hp_112, hp_113, hp_114, h6.1, h6.2, a_from, a_to⟩ (Nat.le_of_ble_eq_true rfl) (Nat.le_of_ble_eq_true rfl) dX5_readPath_151
      · skip
        have hc_116 := nleE (a := 40) (b := (mi 5).toInt) (by decide +kernel) rfl c_116
        refine lv_aload_n (pc := 98) E.1 E.2.1 dX5_readPath_98 rfl (lv_at hl99 4 rfl) ?_
        refine x_get (pc := 99) (T := TX5) (N := 7) (ci := 5) (v := .ref (mr 1)) E hw110 inX5 0 0 q_314 rfl rfl (by decide) rfl rfl dX5_readPath_99 ?_
        refine lv_aload_n (pc := 102) E.1 E.2.1 dX5_readPath_102 rfl (lv_at hl99 4 rfl) ?_
        refine x_get (pc := 103) (T := TX5) (N := 7) (ci := 5) (v := .int (mi 5)) E hw110 inX5 0 4 q_318 rfl rfl (by decide) rfl rfl dX5_readPath_103 ?_
        refine lv_iload_n (pc := 106) E.1 E.2.1 dX5_readPath_106 rfl (lv_at hl99 3 rfl) ?_
        refine x_iastG (pc := 107) (f := (mf 1)) (wf := fun g => (WZ_PathsT cI cJ ad mr (upd (upd (upd (upd (upd (upd mi 12 nat_104) 13 nkind_106) 14 nvalue_107) 15 nplace_105) 16 nfault_108) 17 nfaultPlace_109) (va_up mf 1 g) mg)) E hw110 1 rfl (inbE (a := (mi 5).toInt) rfl (by omega)) (fun _ => rfl) dX5_readPath_107 (fun g_117 H locs eg_117 hw118 => ?_)
        have ha_119 : allR 40 (0) 9 g_117 := allR_upd a_from eg_117 (by omega)
        refine lv_aload_n (pc := 108) E.1 E.2.1 dX5_readPath_108 rfl (lv_at hl99 4 rfl) ?_
        refine x_get (pc := 109) (T := TX5) (N := 7) (ci := 5) (v := .ref (mr 2)) E hw118 inX5 0 1 q_315 rfl rfl (by decide) rfl rfl dX5_readPath_109 ?_
        refine lv_aload_n (pc := 112) E.1 E.2.1 dX5_readPath_112 rfl (lv_at hl99 4 rfl) ?_
        refine x_get (pc := 113) (T := TX5) (N := 7) (ci := 5) (v := .int (mi 5)) E hw118 inX5 0 4 q_318 rfl rfl (by decide) rfl rfl dX5_readPath_113 ?_
        refine lv_iload (pc := 116) E.1 E.2.1 dX5_readPath_116 (lv_at hl99 2 rfl) ?_
        refine x_iastG (pc := 118) (f := (mf 2)) (wf := fun g => (WZ_PathsT cI cJ ad mr (upd (upd (upd (upd (upd (upd mi 12 nat_104) 13 nkind_106) 14 nvalue_107) 15 nplace_105) 16 nfault_108) 17 nfaultPlace_109) (va_up (va_up mf 1 g_117) 2 g) mg)) E hw118 2 rfl (inbE (a := (mi 5).toInt) rfl (by omega)) (fun _ => rfl) dX5_readPath_118 (fun g_120 H locs eg_120 hw121 => ?_)
        have ha_122 : allR 40 (0) 9 g_120 := allR_upd a_to eg_120 (by omega)
        refine lv_aload_n (pc := 119) E.1 E.2.1 dX5_readPath_119 rfl (lv_at hl99 4 rfl) ?_
        refine x_get (pc := 120) (T := TX5) (N := 7) (ci := 5) (v := .ref (mr 3)) E hw121 inX5 0 2 q_316 rfl rfl (by decide) rfl rfl dX5_readPath_120 ?_
        refine lv_aload_n (pc := 123) E.1 E.2.1 dX5_readPath_123 rfl (lv_at hl99 4 rfl) ?_
        refine x_get (pc := 124) (T := TX5) (N := 7) (ci := 5) (v := .int (mi 5)) E hw121 inX5 0 4 q_318 rfl rfl (by decide) rfl rfl dX5_readPath_124 ?_
        refine lv_iload (pc := 127) E.1 E.2.1 dX5_readPath_127 (lv_at hl99 1 rfl) ?_
        refine x_iastG (pc := 129) (f := (mf 3)) (wf := fun g => (WZ_PathsT cI cJ ad mr (upd (upd (upd (upd (upd (upd mi 12 nat_104) 13 nkind_106) 14 nvalue_107) 15 nplace_105) 16 nfault_108) 17 nfaultPlace_109) (va_up (va_up (va_up mf 1 g_117) 2 g_120) 3 g) mg)) E hw121 3 rfl (inbE (a := (mi 5).toInt) rfl (by omega)) (fun _ => rfl) dX5_readPath_129 (fun g_123 H locs eg_123 hw124 => ?_)
        refine lv_aload_n (pc := 130) E.1 E.2.1 dX5_readPath_130 rfl (lv_at hl99 4 rfl) ?_
        refine x_get (pc := 131) (T := TX5) (N := 7) (ci := 5) (v := .ref (mr 4)) E hw124 inX5 0 3 q_317 rfl rfl (by decide) rfl rfl dX5_readPath_131 ?_
        refine lv_aload_n (pc := 134) E.1 E.2.1 dX5_readPath_134 rfl (lv_at hl99 4 rfl) ?_
        refine x_get (pc := 135) (T := TX5) (N := 7) (ci := 5) (v := .int (mi 5)) E hw124 inX5 0 4 q_318 rfl rfl (by decide) rfl rfl dX5_readPath_135 ?_
        refine lv_iload (pc := 138) E.1 E.2.1 dX5_readPath_138 (lv_at hl99 0 rfl) ?_
        refine x_iastG (pc := 140) (f := (mf 4)) (wf := fun g => (WZ_PathsT cI cJ ad mr (upd (upd (upd (upd (upd (upd mi 12 nat_104) 13 nkind_106) 14 nvalue_107) 15 nplace_105) 16 nfault_108) 17 nfaultPlace_109) (va_up (va_up (va_up (va_up mf 1 g_117) 2 g_120) 3 g_123) 4 g) mg)) E hw124 4 rfl (inbE (a := (mi 5).toInt) rfl (by omega)) (fun _ => rfl) dX5_readPath_140 (fun g_125 H locs eg_125 hw126 => ?_)
        refine lv_aload_n (pc := 141) E.1 E.2.1 dX5_readPath_141 rfl (lv_at hl99 4 rfl) ?_
        refine lv_dup (pc := 142) E.1 E.2.1 dX5_readPath_142 rfl ?_
        refine x_get (pc := 143) (T := TX5) (N := 7) (ci := 5) (v := .int (mi 5)) E hw126 inX5 0 4 q_318 rfl rfl (by decide) rfl rfl dX5_readPath_143 ?_
        refine lv_iconst (pc := 146) (v := 1) E.1 E.2.1 dX5_readPath_146 (by decide +kernel) ?_
        refine lv_iadd (pc := 147) E.1 E.2.1 dX5_readPath_147 ?_
        refine lv_topi (fun v_127 ev_127 => ?_)
        have hv_127 : v_127.toInt = (mi 5).toInt + 1 := by rw [ev_127]; exact addE rfl (by decide +kernel) (by omega)
        refine x_put (pc := 148) (T := TX5) (N := 7) (ci := 5) (ws' := (WZ_PathsT cI cJ ad mr (upd (upd (upd (upd (upd (upd (upd mi 5 v_127) 12 nat_104) 13 nkind_106) 14 nvalue_107) 15 nplace_105) 16 nfault_108) 17 nfaultPlace_109) (va_up (va_up (va_up (va_up mf 1 g_117) 2 g_120) 3 g_123) 4 g_125) mg)) E hw126 inX5 tyX5_ok nmX5 0 4 q_318 rfl rfl (by decide) rfl rfl rfl rfl (Nat.le_of_ble_eq_true rfl) rfl dX5_readPath_148 (fun H locs hw128 => ?_)
        exact em_v (w1 := (fun (u : Int32 × Int32 × Int32 × Int32 × Int32 × Int32 × (Nat → Int32) × (Nat → Int32) × (Nat → Int32) × (Nat → Int32) × Int32) => (WZ_PathsT cI cJ ad mr (upd (upd (upd (upd (upd (upd (upd mi 12 u.1) 15 u.2.1) 13 u.2.2.1) 14 u.2.2.2.1) 16 u.2.2.2.2.1) 17 u.2.2.2.2.2.1) 5 u.2.2.2.2.2.2.2.2.2.2) (va_up (va_up (va_up (va_up mf 1 u.2.2.2.2.2.2.1) 2 u.2.2.2.2.2.2.2.1) 3 u.2.2.2.2.2.2.2.2.1) 4 u.2.2.2.2.2.2.2.2.2.1) mg))) E hr hlk (nat_104, nplace_105, nkind_106, nvalue_107, nfault_108, nfaultPlace_109, g_117, g_120, g_123, g_125, v_127) hw128 ⟨hp_111, hp_112, hp_113, hp_114, (by show 0 ≤ v_127.toInt; omega), (by show v_127.toInt ≤ 40; omega), ha_119, ha_122⟩ (Nat.le_of_ble_eq_true rfl) (Nat.le_of_ble_eq_true rfl) dX5_readPath_151
  · skip
    have hc_100 := eqE (a := nkind_87.toInt) (b := 259) rfl (by decide +kernel) c_100
    refine lv_aload_n (pc := 63) E.1 E.2.1 dX5_readPath_63 rfl (lv_at hl99 5 rfl) ?_
    refine ck_v (pc := 64) (ws' := (fun (u : Int32 × Int32 × Int32 × Int32) => (WZ_PathsT cI cJ ad mr (upd (upd (upd (upd (upd (upd mi 12 u.1) 13 u.2.2.1) 14 u.2.2.2) 15 u.2.1) 16 nfault_89) 17 nfaultPlace_90) mf mg))) [false, false, false, false, false, false, false, true, true] hw91 rfl (fun hC_ => (rn_V (As := []) (rest := []) E hw91 (t_step l D cI cJ _ (shf 8 mr) (shf 8 (upd (upd (upd (upd (upd (upd mi 12 nat_85) 13 nkind_87) 14 nvalue_88) 15 nplace_86) 16 nfault_89) 17 nfaultPlace_90)) (shf 8 mf) (shf 8 mg) ad av tf h0 hp_92 hp_93 h3) (gdV q_922 q_723 q_724 q_160 q_725) hdV_X8_step ⟨rfl, rfl⟩ ⟨(Nat.le_of_ble_eq_true rfl), (Nat.le_of_ble_eq_true rfl)⟩ ⟨(Nat.le_of_ble_eq_true rfl), (Nat.le_of_ble_eq_true rfl)⟩ xT8_b (xT8_at hX hw91.2.2.1 (va_free hw91.2.1 hw91.2.2.1 hw91.2.2.2 _ hC_)) 7 8 rfl rfl rfl _ hC_ (nd_T _ 0) rfl hl99.1 rfl (Nat.le_of_ble_eq_true rfl) dX5_readPath_64)) rfl (fun _ => rfl) (fun _ => rfl) (fun u_129 H1 locs hp hw131 => ?_)
    obtain ⟨nat_132, nplace_133, nkind_134, nvalue_135⟩ := u_129
    generalize H1 = H at hw131 ⊢
    have hw136 : WD D A s.heap (WZ_PathsT cI cJ ad mr (upd (upd (upd (upd (upd (upd mi 12 nat_132) 13 nkind_134) 14 nvalue_135) 15 nplace_133) 16 nfault_89) 17 nfaultPlace_90) mf mg) H locs := hw131
    obtain ⟨hp_137, hp_138⟩ := hp
    have hp_137 : 0 ≤ nat_132.toInt := hp_137
    have hp_138 : nat_132.toInt ≤ (mi 10).toInt := hp_138
    refine lv_aload_n (pc := 67) E.1 E.2.1 dX5_readPath_67 rfl (lv_at hl99 5 rfl) ?_
    refine lv_iconst (pc := 68) (v := 0) E.1 E.2.1 dX5_readPath_68 (by decide +kernel) ?_
    refine lv_bipush (pc := 69) (v := 9) E.1 E.2.1 dX5_readPath_69 (by decide +kernel) ?_
    refine ck_i (pc := 71) (ws' := (fun (u : Int32 × Int32 × Int32 × Int32 × Int32 × Int32) => (WZ_PathsT cI cJ ad mr (upd (upd (upd (upd (upd (upd mi 12 u.1) 13 u.2.2.1) 14 u.2.2.2.1) 15 u.2.1) 16 u.2.2.2.2.1) 17 u.2.2.2.2.2) mf mg))) [false, false, false, false, false, false, false, true, true] hw136 rfl (fun hC_ => (rn_V (As := [.int 0, .int 9]) (rest := []) E hw136 (t_numberA l D cI cJ _ (shf 8 mr) (shf 8 (upd (upd (upd (upd (upd (upd mi 12 nat_132) 13 nkind_134) 14 nvalue_135) 15 nplace_133) 16 nfault_89) 17 nfaultPlace_90)) (shf 8 mf) (shf 8 mg) 0 9 ad av tf h0 hp_137 hp_138 h3 ⟨hp_94, hp_95⟩ (by show (0 : Int32).toInt ≤ (9 : Int32).toInt; have k_0 : (0 : Int32).toInt = 0 := (by decide +kernel); have k_1 : (9 : Int32).toInt = 9 := (by decide +kernel); omega)) (gdV q_921 q_879 q_880 q_160 q_881) hdV_X8_number ⟨rfl, rfl⟩ ⟨(Nat.le_of_ble_eq_true rfl), (Nat.le_of_ble_eq_true rfl)⟩ ⟨(Nat.le_of_ble_eq_true rfl), (Nat.le_of_ble_eq_true rfl)⟩ xT8_b (xT8_at hX hw136.2.2.1 (va_free hw136.2.1 hw136.2.2.1 hw136.2.2.2 _ hC_)) 7 8 rfl rfl rfl _ hC_ (nd_T _ 0) rfl hl99.1 rfl (Nat.le_of_ble_eq_true rfl) dX5_readPath_71)) rfl (fun _ => rfl) (fun _ => rfl) (fun r_140 u_139 H1 locs hp hw141 => ?_)
    obtain ⟨nat_142, nplace_143, nkind_144, nvalue_145, nfault_146, nfaultPlace_147⟩ := u_139
    generalize H1 = H at hw141 ⊢
    have hw148 : WD D A s.heap (WZ_PathsT cI cJ ad mr (upd (upd (upd (upd (upd (upd mi 12 nat_142) 13 nkind_144) 14 nvalue_145) 15 nplace_143) 16 nfault_146) 17 nfaultPlace_147) mf mg) H locs := hw141
    obtain ⟨hp_149, hp_150, hp_151, hp_152, hp_153, hp_154⟩ := hp
    have hp_149 : 0 ≤ nat_142.toInt := hp_149
    have hp_150 : nat_142.toInt ≤ (mi 10).toInt := hp_150
    have hp_151 : 0 ≤ nfault_146.toInt := hp_151
    have hp_152 : nfault_146.toInt ≤ 4 := hp_152
    have hp_153 : (0 : Int32).toInt ≤ r_140.toInt := hp_153
    rw [show (0 : Int32).toInt = 0 from by decide +kernel] at hp_153
    have hp_154 : r_140.toInt ≤ (9 : Int32).toInt := hp_154
    rw [show (9 : Int32).toInt = 9 from by decide +kernel] at hp_154
    refine lv_istore (pc := 74) (lv' := [(6, .int r_140), (5, .int r_83), (4, .int r_52), (3, .int r_20), (0, .ref (mr 0)), (1, .ref (mr 8)), (2, .int z_houses)]) E.1 E.2.1 dX5_readPath_74 hl99 (by decide) rfl (fun ls hl155 => ?_)
    refine lv_aload_n (pc := 76) E.1 E.2.1 dX5_readPath_76 rfl (lv_at hl155 5 rfl) ?_
    refine lv_bipush (pc := 77) (v := 59) E.1 E.2.1 dX5_readPath_77 (by decide +kernel) ?_
    refine ck_v (pc := 79) (ws' := (fun (u : Int32 × Int32 × Int32 × Int32 × Int32 × Int32) => (WZ_PathsT cI cJ ad mr (upd (upd (upd (upd (upd (upd mi 12 u.1) 13 u.2.2.1) 14 u.2.2.2.1) 15 u.2.1) 16 u.2.2.2.2.1) 17 u.2.2.2.2.2) mf mg))) [false, false, false, false, false, false, false, true, true] hw148 rfl (fun hC_ => (rn_V (As := [.int 59]) (rest := []) E hw148 (t_pass l D cI cJ _ (shf 8 mr) (shf 8 (upd (upd (upd (upd (upd (upd mi 12 nat_142) 13 nkind_144) 14 nvalue_145) 15 nplace_143) 16 nfault_146) 17 nfaultPlace_147)) (shf 8 mf) (shf 8 mg) 59 ad av tf h0 hp_149 hp_150 h3 ⟨hp_151, hp_152⟩) (gdV q_920 q_861 q_862 q_160 q_863) hdV_X8_pass ⟨rfl, rfl⟩ ⟨(Nat.le_of_ble_eq_true rfl), (Nat.le_of_ble_eq_true rfl)⟩ ⟨(Nat.le_of_ble_eq_true rfl), (Nat.le_of_ble_eq_true rfl)⟩ xT8_b (xT8_at hX hw148.2.2.1 (va_free hw148.2.1 hw148.2.2.1 hw148.2.2.2 _ hC_)) 7 8 rfl rfl rfl _ hC_ (nd_T _ 0) rfl hl155.1 rfl (Nat.le_of_ble_eq_true rfl) dX5_readPath_79)) rfl (fun _ => rfl) (fun _ => rfl) (fun u_156 H1 locs hp hw158 => ?_)
    obtain ⟨nat_159, nplace_160, nkind_161, nvalue_162, nfault_163, nfaultPlace_164⟩ := u_156
    generalize H1 = H at hw158 ⊢
    have hw165 : WD D A s.heap (WZ_PathsT cI cJ ad mr (upd (upd (upd (upd (upd (upd mi 12 nat_159) 13 nkind_161) 14 nvalue_162) 15 nplace_160) 16 nfault_163) 17 nfaultPlace_164) mf mg) H locs := hw158
    obtain ⟨hp_166, hp_167, hp_168, hp_169⟩ := hp
    have hp_166 : 0 ≤ nat_159.toInt := hp_166
    have hp_167 : nat_159.toInt ≤ (mi 10).toInt := hp_167
    have hp_168 : 0 ≤ nfault_163.toInt := hp_168
    have hp_169 : nfault_163.toInt ≤ 4 := hp_169
    refine lv_aload_n (pc := 82) E.1 E.2.1 dX5_readPath_82 rfl (lv_at hl155 5 rfl) ?_
    refine x_get (pc := 83) (T := TX8) (N := 9) (ci := 8) (v := .int nfault_163) E hw165 inX8 7 7 q_553 rfl rfl (by decide) rfl rfl dX5_readPath_83 ?_
    refine lv_if_ne (pc := 86) (tgt := 151) E.1 E.2.1 dX5_readPath_86 (by decide) (fun c_170 => ?_) (fun c_170 => ?_)
    · skip
      have hc_170 := neE (a := nfault_163.toInt) (b := 0) rfl (by decide +kernel) c_170
      exact em_v (w1 := (fun (u : Int32 × Int32 × Int32 × Int32 × Int32 × Int32 × (Nat → Int32) × (Nat → Int32) × (Nat → Int32) × (Nat → Int32) × Int32) => (WZ_PathsT cI cJ ad mr (upd (upd (upd (upd (upd (upd (upd mi 12 u.1) 15 u.2.1) 13 u.2.2.1) 14 u.2.2.2.1) 16 u.2.2.2.2.1) 17 u.2.2.2.2.2.1) 5 u.2.2.2.2.2.2.2.2.2.2) (va_up (va_up (va_up (va_up mf 1 u.2.2.2.2.2.2.1) 2 u.2.2.2.2.2.2.2.1) 3 u.2.2.2.2.2.2.2.2.1) 4 u.2.2.2.2.2.2.2.2.2.1) mg))) E hr hlk (nat_159, nplace_160, nkind_161, nvalue_162, nfault_163, nfaultPlace_164, (mf 1), (mf 2), (mf 3), (mf 4), (mi 5)) hw165 ⟨hp_166, hp_167, hp_168, hp_169, h6.1, h6.2, a_from, a_to⟩ (Nat.le_of_ble_eq_true rfl) (Nat.le_of_ble_eq_true rfl) dX5_readPath_151
    · skip
      have hc_170 := eqE (a := nfault_163.toInt) (b := 0) rfl (by decide +kernel) c_170
      refine lv_aload_n (pc := 89) E.1 E.2.1 dX5_readPath_89 rfl (lv_at hl155 4 rfl) ?_
      refine x_get (pc := 90) (T := TX5) (N := 7) (ci := 5) (v := .int (mi 5)) E hw165 inX5 0 4 q_318 rfl rfl (by decide) rfl rfl dX5_readPath_90 ?_
      refine lv_bipush (pc := 93) (v := 40) E.1 E.2.1 dX5_readPath_93 (by decide +kernel) ?_
      refine lv_icmp_ge (pc := 95) (tgt := 151) E.1 E.2.1 dX5_readPath_95 (by decide) (fun c_171 => ?_) (fun c_171 => ?_)
      · skip
        have hc_171 := leE (a := 40) (b := (mi 5).toInt) (by decide +kernel) rfl c_171
        exact em_v (w1 := (fun (u : Int32 × Int32 × Int32 × Int32 × Int32 × Int32 × (Nat → Int32) × (Nat → Int32) × (Nat → Int32) × (Nat → Int32) × Int32) => (WZ_PathsT cI cJ ad mr (upd (upd (upd (upd (upd (upd (upd mi 12 u.1) 15 u.2.1) 13 u.2.2.1) 14 u.2.2.2.1) 16 u.2.2.2.2.1) 17 u.2.2.2.2.2.1) 5 u.2.2.2.2.2.2.2.2.2.2) (va_up (va_up (va_up (va_up mf 1 u.2.2.2.2.2.2.1) 2 u.2.2.2.2.2.2.2.1) 3 u.2.2.2.2.2.2.2.2.1) 4 u.2.2.2.2.2.2.2.2.2.1) mg))) E hr hlk (nat_159, nplace_160, nkind_161, nvalue_162, nfault_163, nfaultPlace_164, (mf 1), (mf 2), (mf 3), (mf 4), (mi 5)) hw165 ⟨hp_166, hp_167, hp_168, hp_169, h6.1, h6.2, a_from, a_to⟩ (Nat.le_of_ble_eq_true rfl) (Nat.le_of_ble_eq_true rfl) dX5_readPath_151
      · skip
        have hc_171 := nleE (a := 40) (b := (mi 5).toInt) (by decide +kernel) rfl c_171
        refine lv_aload_n (pc := 98) E.1 E.2.1 dX5_readPath_98 rfl (lv_at hl155 4 rfl) ?_
        refine x_get (pc := 99) (T := TX5) (N := 7) (ci := 5) (v := .ref (mr 1)) E hw165 inX5 0 0 q_314 rfl rfl (by decide) rfl rfl dX5_readPath_99 ?_
        refine lv_aload_n (pc := 102) E.1 E.2.1 dX5_readPath_102 rfl (lv_at hl155 4 rfl) ?_
        refine x_get (pc := 103) (T := TX5) (N := 7) (ci := 5) (v := .int (mi 5)) E hw165 inX5 0 4 q_318 rfl rfl (by decide) rfl rfl dX5_readPath_103 ?_
        refine lv_iload_n (pc := 106) E.1 E.2.1 dX5_readPath_106 rfl (lv_at hl155 3 rfl) ?_
        refine x_iastG (pc := 107) (f := (mf 1)) (wf := fun g => (WZ_PathsT cI cJ ad mr (upd (upd (upd (upd (upd (upd mi 12 nat_159) 13 nkind_161) 14 nvalue_162) 15 nplace_160) 16 nfault_163) 17 nfaultPlace_164) (va_up mf 1 g) mg)) E hw165 1 rfl (inbE (a := (mi 5).toInt) rfl (by omega)) (fun _ => rfl) dX5_readPath_107 (fun g_172 H locs eg_172 hw173 => ?_)
        have ha_174 : allR 40 (0) 9 g_172 := allR_upd a_from eg_172 (by omega)
        refine lv_aload_n (pc := 108) E.1 E.2.1 dX5_readPath_108 rfl (lv_at hl155 4 rfl) ?_
        refine x_get (pc := 109) (T := TX5) (N := 7) (ci := 5) (v := .ref (mr 2)) E hw173 inX5 0 1 q_315 rfl rfl (by decide) rfl rfl dX5_readPath_109 ?_
        refine lv_aload_n (pc := 112) E.1 E.2.1 dX5_readPath_112 rfl (lv_at hl155 4 rfl) ?_
        refine x_get (pc := 113) (T := TX5) (N := 7) (ci := 5) (v := .int (mi 5)) E hw173 inX5 0 4 q_318 rfl rfl (by decide) rfl rfl dX5_readPath_113 ?_
        refine lv_iload (pc := 116) E.1 E.2.1 dX5_readPath_116 (lv_at hl155 2 rfl) ?_
        refine x_iastG (pc := 118) (f := (mf 2)) (wf := fun g => (WZ_PathsT cI cJ ad mr (upd (upd (upd (upd (upd (upd mi 12 nat_159) 13 nkind_161) 14 nvalue_162) 15 nplace_160) 16 nfault_163) 17 nfaultPlace_164) (va_up (va_up mf 1 g_172) 2 g) mg)) E hw173 2 rfl (inbE (a := (mi 5).toInt) rfl (by omega)) (fun _ => rfl) dX5_readPath_118 (fun g_175 H locs eg_175 hw176 => ?_)
        have ha_177 : allR 40 (0) 9 g_175 := allR_upd a_to eg_175 (by omega)
        refine lv_aload_n (pc := 119) E.1 E.2.1 dX5_readPath_119 rfl (lv_at hl155 4 rfl) ?_
        refine x_get (pc := 120) (T := TX5) (N := 7) (ci := 5) (v := .ref (mr 3)) E hw176 inX5 0 2 q_316 rfl rfl (by decide) rfl rfl dX5_readPath_120 ?_
        refine lv_aload_n (pc := 123) E.1 E.2.1 dX5_readPath_123 rfl (lv_at hl155 4 rfl) ?_
        refine x_get (pc := 124) (T := TX5) (N := 7) (ci := 5) (v := .int (mi 5)) E hw176 inX5 0 4 q_318 rfl rfl (by decide) rfl rfl dX5_readPath_124 ?_
        refine lv_iload (pc := 127) E.1 E.2.1 dX5_readPath_127 (lv_at hl155 1 rfl) ?_
        refine x_iastG (pc := 129) (f := (mf 3)) (wf := fun g => (WZ_PathsT cI cJ ad mr (upd (upd (upd (upd (upd (upd mi 12 nat_159) 13 nkind_161) 14 nvalue_162) 15 nplace_160) 16 nfault_163) 17 nfaultPlace_164) (va_up (va_up (va_up mf 1 g_172) 2 g_175) 3 g) mg)) E hw176 3 rfl (inbE (a := (mi 5).toInt) rfl (by omega)) (fun _ => rfl) dX5_readPath_129 (fun g_178 H locs eg_178 hw179 => ?_)
        refine lv_aload_n (pc := 130) E.1 E.2.1 dX5_readPath_130 rfl (lv_at hl155 4 rfl) ?_
        refine x_get (pc := 131) (T := TX5) (N := 7) (ci := 5) (v := .ref (mr 4)) E hw179 inX5 0 3 q_317 rfl rfl (by decide) rfl rfl dX5_readPath_131 ?_
        refine lv_aload_n (pc := 134) E.1 E.2.1 dX5_readPath_134 rfl (lv_at hl155 4 rfl) ?_
        refine x_get (pc := 135) (T := TX5) (N := 7) (ci := 5) (v := .int (mi 5)) E hw179 inX5 0 4 q_318 rfl rfl (by decide) rfl rfl dX5_readPath_135 ?_
        refine lv_iload (pc := 138) E.1 E.2.1 dX5_readPath_138 (lv_at hl155 0 rfl) ?_
        refine x_iastG (pc := 140) (f := (mf 4)) (wf := fun g => (WZ_PathsT cI cJ ad mr (upd (upd (upd (upd (upd (upd mi 12 nat_159) 13 nkind_161) 14 nvalue_162) 15 nplace_160) 16 nfault_163) 17 nfaultPlace_164) (va_up (va_up (va_up (va_up mf 1 g_172) 2 g_175) 3 g_178) 4 g) mg)) E hw179 4 rfl (inbE (a := (mi 5).toInt) rfl (by omega)) (fun _ => rfl) dX5_readPath_140 (fun g_180 H locs eg_180 hw181 => ?_)
        refine lv_aload_n (pc := 141) E.1 E.2.1 dX5_readPath_141 rfl (lv_at hl155 4 rfl) ?_
        refine lv_dup (pc := 142) E.1 E.2.1 dX5_readPath_142 rfl ?_
        refine x_get (pc := 143) (T := TX5) (N := 7) (ci := 5) (v := .int (mi 5)) E hw181 inX5 0 4 q_318 rfl rfl (by decide) rfl rfl dX5_readPath_143 ?_
        refine lv_iconst (pc := 146) (v := 1) E.1 E.2.1 dX5_readPath_146 (by decide +kernel) ?_
        refine lv_iadd (pc := 147) E.1 E.2.1 dX5_readPath_147 ?_
        refine lv_topi (fun v_182 ev_182 => ?_)
        have hv_182 : v_182.toInt = (mi 5).toInt + 1 := by rw [ev_182]; exact addE rfl (by decide +kernel) (by omega)
        refine x_put (pc := 148) (T := TX5) (N := 7) (ci := 5) (ws' := (WZ_PathsT cI cJ ad mr (upd (upd (upd (upd (upd (upd (upd mi 5 v_182) 12 nat_159) 13 nkind_161) 14 nvalue_162) 15 nplace_160) 16 nfault_163) 17 nfaultPlace_164) (va_up (va_up (va_up (va_up mf 1 g_172) 2 g_175) 3 g_178) 4 g_180) mg)) E hw181 inX5 tyX5_ok nmX5 0 4 q_318 rfl rfl (by decide) rfl rfl rfl rfl (Nat.le_of_ble_eq_true rfl) rfl dX5_readPath_148 (fun H locs hw183 => ?_)
        exact em_v (w1 := (fun (u : Int32 × Int32 × Int32 × Int32 × Int32 × Int32 × (Nat → Int32) × (Nat → Int32) × (Nat → Int32) × (Nat → Int32) × Int32) => (WZ_PathsT cI cJ ad mr (upd (upd (upd (upd (upd (upd (upd mi 12 u.1) 15 u.2.1) 13 u.2.2.1) 14 u.2.2.2.1) 16 u.2.2.2.2.1) 17 u.2.2.2.2.2.1) 5 u.2.2.2.2.2.2.2.2.2.2) (va_up (va_up (va_up (va_up mf 1 u.2.2.2.2.2.2.1) 2 u.2.2.2.2.2.2.2.1) 3 u.2.2.2.2.2.2.2.2.1) 4 u.2.2.2.2.2.2.2.2.2.1) mg))) E hr hlk (nat_159, nplace_160, nkind_161, nvalue_162, nfault_163, nfaultPlace_164, g_172, g_175, g_178, g_180, v_182) hw183 ⟨hp_166, hp_167, hp_168, hp_169, (by show 0 ≤ v_182.toInt; omega), (by show v_182.toInt ≤ 40; omega), ha_174, ha_177⟩ (Nat.le_of_ble_eq_true rfl) (Nat.le_of_ble_eq_true rfl) dX5_readPath_151
set_option maxHeartbeats 4000000 in
set_option maxRecDepth 100000 in
theorem t_pathsRead (l : Launch) (D : va_G) (cI cJ : ClassId) (sz : Nat) (mr : Nat → Nat) (mi : Nat → Int32) (mf : Nat → Nat → Int32) (mg : Nat → Nat → Int64) (z_houses : Int32) (ad av : Nat → Nat) (tf : Value) (h0 : 0 ≤ (mi 10).toInt ∧ (mi 10).toInt ≤ 400) (h1 : 0 ≤ (mi 12).toInt) (h2 : (mi 12).toInt ≤ (mi 10).toInt) (h3 : 0 ≤ (mi 11).toInt ∧ (mi 11).toInt ≤ 6) (h4 : 0 ≤ (mi 16).toInt ∧ (mi 16).toInt ≤ 4) (h5 : 0 ≤ z_houses.toInt ∧ z_houses.toInt ≤ 10) (a_from : p9 (mf 1)) (a_to : p9 (mf 2)) : Met l yX5_read (Cond.code yX5_read cX5_read 4 none :: GW) ({ frames := 9, cells := 0, slots := 0, locals := 220 } : Room) (va_Pc [.ref (mr 0), .ref (mr 8), .int z_houses] (PW D cI cJ sz (WZ_PathsT cI cJ ad mr mi mf mg) (xT8 ad av tf (va_A (WZ_PathsT cI cJ ad mr mi mf mg) sz)))) (va_Qv (fun (u : Int32 × Int32 × Int32 × Int32 × Int32 × Int32 × (Nat → Int32) × (Nat → Int32) × (Nat → Int32) × (Nat → Int32) × Int32) => (0 ≤ u.1.toInt) ∧ (u.1.toInt ≤ (mi 10).toInt) ∧ (0 ≤ u.2.2.2.2.1.toInt) ∧ (u.2.2.2.2.1.toInt ≤ 4) ∧ (0 ≤ u.2.2.2.2.2.2.2.2.2.2.toInt) ∧ (u.2.2.2.2.2.2.2.2.2.2.toInt ≤ 40) ∧ (p9 u.2.2.2.2.2.2.1) ∧ (p9 u.2.2.2.2.2.2.2.1)) (fun u => QW D cI cJ (va_A (WZ_PathsT cI cJ ad mr mi mf mg) sz) ((fun (u : Int32 × Int32 × Int32 × Int32 × Int32 × Int32 × (Nat → Int32) × (Nat → Int32) × (Nat → Int32) × (Nat → Int32) × Int32) => (WZ_PathsT cI cJ ad mr (upd (upd (upd (upd (upd (upd (upd mi 12 u.1) 15 u.2.1) 13 u.2.2.1) 14 u.2.2.2.1) 16 u.2.2.2.2.1) 17 u.2.2.2.2.2.1) 5 u.2.2.2.2.2.2.2.2.2.2) (va_up (va_up (va_up (va_up mf 1 u.2.2.2.2.2.2.1) 2 u.2.2.2.2.2.2.2.1) 3 u.2.2.2.2.2.2.2.2.1) 4 u.2.2.2.2.2.2.2.2.2.1) mg)) u)) (va_A (WZ_PathsT cI cJ ad mr mi mf mg) sz)) 0 0 (va_A (WZ_PathsT cI cJ ad mr mi mf mg) sz) := by
  refine mk_metA (X := fun A => xT8 ad av tf A) (y := yX5_read) (bytes := cX5_read) (maxL := 4) (avs := [.ref (mr 0), .ref (mr 8), .int z_houses]) (WS := (WZ_PathsT cI cJ ad mr mi mf mg)) (Qf := fun A => va_Qv (fun (u : Int32 × Int32 × Int32 × Int32 × Int32 × Int32 × (Nat → Int32) × (Nat → Int32) × (Nat → Int32) × (Nat → Int32) × Int32) => (0 ≤ u.1.toInt) ∧ (u.1.toInt ≤ (mi 10).toInt) ∧ (0 ≤ u.2.2.2.2.1.toInt) ∧ (u.2.2.2.2.1.toInt ≤ 4) ∧ (0 ≤ u.2.2.2.2.2.2.2.2.2.2.toInt) ∧ (u.2.2.2.2.2.2.2.2.2.2.toInt ≤ 40) ∧ (p9 u.2.2.2.2.2.2.1) ∧ (p9 u.2.2.2.2.2.2.2.1)) (fun u => QW D cI cJ A ((fun (u : Int32 × Int32 × Int32 × Int32 × Int32 × Int32 × (Nat → Int32) × (Nat → Int32) × (Nat → Int32) × (Nat → Int32) × Int32) => (WZ_PathsT cI cJ ad mr (upd (upd (upd (upd (upd (upd (upd mi 12 u.1) 15 u.2.1) 13 u.2.2.1) 14 u.2.2.2.1) 16 u.2.2.2.2.1) 17 u.2.2.2.2.2.1) 5 u.2.2.2.2.2.2.2.2.2.2) (va_up (va_up (va_up (va_up mf 1 u.2.2.2.2.2.2.1) 2 u.2.2.2.2.2.2.2.1) 3 u.2.2.2.2.2.2.2.2.1) 4 u.2.2.2.2.2.2.2.2.2.1) mg)) u)) A) (by decide) (Nat.le_of_ble_eq_true rfl) ?_
  intro p e s m below meth c A ls E hr hlk hnm hX hw1 hl2
  have hl3 : lv_has ls 4 [(0, .ref (mr 0)), (1, .ref (mr 8)), (2, .int z_houses)] := hl2
  refine lv_aload_n (pc := 0) E.1 E.2.1 dX5_read_0 rfl (lv_at hl3 0 rfl) ?_
  refine lv_iconst (pc := 1) (v := 0) E.1 E.2.1 dX5_read_1 (by decide +kernel) ?_
  refine x_put (pc := 2) (T := TX5) (N := 7) (ci := 5) (ws' := (WZ_PathsT cI cJ ad mr (upd mi 5 0) mf mg)) E hw1 inX5 tyX5_ok nmX5 0 4 q_318 rfl rfl (by decide) rfl rfl rfl rfl (Nat.le_of_ble_eq_true rfl) rfl dX5_read_2 (fun H locs hw4 => ?_)
  refine lv_iconst (pc := 5) (v := 0) E.1 E.2.1 dX5_read_5 (by decide +kernel) ?_
  refine lv_istore_n (pc := 6) (lv' := [(3, .int 0), (0, .ref (mr 0)), (1, .ref (mr 8)), (2, .int z_houses)]) E.1 E.2.1 dX5_read_6 rfl hl3 (by decide) rfl (fun ls hl5 => ?_)
  have loop_6 : ∀ (k : Nat) (x_7 : Int32) (x_8 : Int32) (x_9 : Int32) (x_10 : Int32) (x_11 : Int32) (x_12 : Int32) (x_13 : Int32) (x_14 : Int32) (g_15 : Nat → Int32) (g_16 : Nat → Int32) (g_17 : Nat → Int32) (g_18 : Nat → Int32) (H : Heap) (locs : List Loc) (ls : Array Slot), (0 ≤ x_8.toInt) ∧ (x_8.toInt ≤ (mi 10).toInt) ∧ (0 ≤ x_12.toInt) ∧ (x_12.toInt ≤ 4) ∧ (0 ≤ x_14.toInt) ∧ (x_14.toInt ≤ 40) ∧ (0 ≤ x_7.toInt) ∧ (x_7.toInt ≤ 401) ∧ p9 g_15 ∧ p9 g_16 → 401 - x_7.toInt < (k : Int) → WD D A s.heap (WZ_PathsT cI cJ ad mr (upd (upd (upd (upd (upd (upd (upd mi 5 x_14) 12 x_8) 13 x_10) 14 x_11) 15 x_9) 16 x_12) 17 x_13) (va_up (va_up (va_up (va_up mf 1 g_15) 2 g_16) 3 g_17) 4 g_18) mg) H locs → lv_has ls 4 [(3, .int x_7), (0, .ref (mr 0)), (1, .ref (mr 8)), (2, .int z_houses)] → W p l e ({ frames := 9, cells := 0, slots := 0, locals := 220 } : Room) s m ([.ref (mr 0), .ref (mr 8), .int z_houses] : List Value).toArray below meth c H locs 0 0 (MQ below (va_Qv (fun (u : Int32 × Int32 × Int32 × Int32 × Int32 × Int32 × (Nat → Int32) × (Nat → Int32) × (Nat → Int32) × (Nat → Int32) × Int32) => (0 ≤ u.1.toInt) ∧ (u.1.toInt ≤ (mi 10).toInt) ∧ (0 ≤ u.2.2.2.2.1.toInt) ∧ (u.2.2.2.2.1.toInt ≤ 4) ∧ (0 ≤ u.2.2.2.2.2.2.2.2.2.2.toInt) ∧ (u.2.2.2.2.2.2.2.2.2.2.toInt ≤ 40) ∧ (p9 u.2.2.2.2.2.2.1) ∧ (p9 u.2.2.2.2.2.2.2.1)) (fun u => QW D cI cJ A ((fun (u : Int32 × Int32 × Int32 × Int32 × Int32 × Int32 × (Nat → Int32) × (Nat → Int32) × (Nat → Int32) × (Nat → Int32) × Int32) => (WZ_PathsT cI cJ ad mr (upd (upd (upd (upd (upd (upd (upd mi 12 u.1) 15 u.2.1) 13 u.2.2.1) 14 u.2.2.2.1) 16 u.2.2.2.2.1) 17 u.2.2.2.2.2.1) 5 u.2.2.2.2.2.2.2.2.2.2) (va_up (va_up (va_up (va_up mf 1 u.2.2.2.2.2.2.1) 2 u.2.2.2.2.2.2.2.1) 3 u.2.2.2.2.2.2.2.2.1) 4 u.2.2.2.2.2.2.2.2.2.1) mg)) u)) A) ([.ref (mr 0), .ref (mr 8), .int z_houses] : List Value).toArray s 0 0 A) (F0 m 7 ls []) := by
    intro k
    induction k with
    | zero =>
      intro x_7 x_8 x_9 x_10 x_11 x_12 x_13 x_14 g_15 g_16 g_17 g_18 _ _ _ hinv hm
      obtain ⟨hi_18_0, hi_18_1, hi_18_2, hi_18_3, hi_18_4, hi_18_5, hi_18_6, hi_18_7, hi_18_8, hi_18_9⟩ := hinv
      exact absurd hm (by omega)
    | succ k ih_19 =>
      intro x_7 x_8 x_9 x_10 x_11 x_12 x_13 x_14 g_15 g_16 g_17 g_18 H locs ls hinv hm hw20 hl21
      obtain ⟨hi_18_0, hi_18_1, hi_18_2, hi_18_3, hi_18_4, hi_18_5, hi_18_6, hi_18_7, hi_18_8, hi_18_9⟩ := hinv
      refine lv_iload_n (pc := 7) E.1 E.2.1 dX5_read_7 rfl (lv_at hl21 0 rfl) ?_
      refine lv_sipush (pc := 8) (v := 400) E.1 E.2.1 dX5_read_8 (by decide +kernel) ?_
      refine lv_icmp_gt (pc := 11) (tgt := 57) E.1 E.2.1 dX5_read_11 (by decide) (fun c_22 => ?_) (fun c_22 => ?_)
      · skip
        have hc_22 := ltE (a := 400) (b := x_7.toInt) (by decide +kernel) rfl c_22
        exact em_v (w1 := (fun (u : Int32 × Int32 × Int32 × Int32 × Int32 × Int32 × (Nat → Int32) × (Nat → Int32) × (Nat → Int32) × (Nat → Int32) × Int32) => (WZ_PathsT cI cJ ad mr (upd (upd (upd (upd (upd (upd (upd mi 12 u.1) 15 u.2.1) 13 u.2.2.1) 14 u.2.2.2.1) 16 u.2.2.2.2.1) 17 u.2.2.2.2.2.1) 5 u.2.2.2.2.2.2.2.2.2.2) (va_up (va_up (va_up (va_up mf 1 u.2.2.2.2.2.2.1) 2 u.2.2.2.2.2.2.2.1) 3 u.2.2.2.2.2.2.2.2.1) 4 u.2.2.2.2.2.2.2.2.2.1) mg))) E hr hlk (x_8, x_9, x_10, x_11, x_12, x_13, g_15, g_16, g_17, g_18, x_14) hw20 ⟨hi_18_0, hi_18_1, hi_18_2, hi_18_3, hi_18_4, hi_18_5, hi_18_8, hi_18_9⟩ (Nat.le_of_ble_eq_true rfl) (Nat.le_of_ble_eq_true rfl) dX5_read_57
      · skip
        have hc_22 := nltE (a := 400) (b := x_7.toInt) (by decide +kernel) rfl c_22
        refine lv_aload_n (pc := 14) E.1 E.2.1 dX5_read_14 rfl (lv_at hl21 2 rfl) ?_
        refine ck_i (pc := 15) (ws' := (fun (u : Unit) => (WZ_PathsT cI cJ ad mr (upd (upd (upd (upd (upd (upd (upd mi 5 x_14) 12 x_8) 13 x_10) 14 x_11) 15 x_9) 16 x_12) 17 x_13) (va_up (va_up (va_up (va_up mf 1 g_15) 2 g_16) 3 g_17) 4 g_18) mg))) [false, false, false, false, false, false, false, true, true] hw20 rfl (fun hC_ => (rn_V (As := []) (rest := []) E hw20 (t_goesOn l D cI cJ _ (shf 8 mr) (shf 8 (upd (upd (upd (upd (upd (upd (upd mi 5 x_14) 12 x_8) 13 x_10) 14 x_11) 15 x_9) 16 x_12) 17 x_13)) (shf 8 (va_up (va_up (va_up (va_up mf 1 g_15) 2 g_16) 3 g_17) 4 g_18)) (shf 8 mg) ad) (gdV q_914 q_853 q_854 q_160 q_855) hdV_X8_goesOn ⟨rfl, rfl⟩ ⟨(Nat.le_of_ble_eq_true rfl), (Nat.le_of_ble_eq_true rfl)⟩ ⟨(Nat.le_of_ble_eq_true rfl), (Nat.le_of_ble_eq_true rfl)⟩ xT_b xT_at 7 8 rfl rfl rfl _ hC_ (nd_T _ 0) rfl hl21.1 rfl (Nat.le_of_ble_eq_true rfl) dX5_read_15)) rfl (fun _ => rfl) (fun _ => rfl) (fun r_24 u_23 H1 locs hp hw25 => ?_)
        generalize H1 = H at hw25 ⊢
        have hw26 : WD D A s.heap (WZ_PathsT cI cJ ad mr (upd (upd (upd (upd (upd (upd (upd mi 5 x_14) 12 x_8) 13 x_10) 14 x_11) 15 x_9) 16 x_12) 17 x_13) (va_up (va_up (va_up (va_up mf 1 g_15) 2 g_16) 3 g_17) 4 g_18) mg) H locs := hw25
        have hp_27 := hp
        rcases hp_27 with ⟨rfl, ha_28, ha_29⟩ | ⟨rfl, ha_30⟩ | ⟨rfl, ha_31⟩
        · skip
          have ha_28 : x_12.toInt = 0 := ha_28
          have ha_29 : ¬ x_10.toInt = 0 := ha_29
          refine lv_if_eq (pc := 18) (tgt := 57) E.1 E.2.1 dX5_read_18 (by decide) (fun c_32 => absurd c_32 (mneE (a := 1) (b := 0) (by decide +kernel) (by decide +kernel) (by omega))) (fun _ => ?_)
          refine lv_aload_n (pc := 21) E.1 E.2.1 dX5_read_21 rfl (lv_at hl21 1 rfl) ?_
          refine x_get (pc := 22) (T := TX5) (N := 7) (ci := 5) (v := .int x_14) E hw26 inX5 0 4 q_318 rfl rfl (by decide) rfl rfl dX5_read_22 ?_
          refine lv_bipush (pc := 25) (v := 40) E.1 E.2.1 dX5_read_25 (by decide +kernel) ?_
          refine lv_icmp_lt (pc := 27) (tgt := 45) E.1 E.2.1 dX5_read_27 (by decide) (fun c_33 => ?_) (fun c_33 => ?_)
          · skip
            have hc_33 := ltE (a := x_14.toInt) (b := 40) rfl (by decide +kernel) c_33
            refine lv_aload_n (pc := 45) E.1 E.2.1 dX5_read_45 rfl (lv_at hl21 1 rfl) ?_
            refine lv_aload_n (pc := 46) E.1 E.2.1 dX5_read_46 rfl (lv_at hl21 2 rfl) ?_
            refine lv_iload_n (pc := 47) E.1 E.2.1 dX5_read_47 rfl (lv_at hl21 3 rfl) ?_
            refine ck_v (pc := 48) (ws' := (fun (u : Int32 × Int32 × Int32 × Int32 × Int32 × Int32 × (Nat → Int32) × (Nat → Int32) × (Nat → Int32) × (Nat → Int32) × Int32) => (WZ_PathsT cI cJ ad mr (upd (upd (upd (upd (upd (upd (upd mi 5 u.2.2.2.2.2.2.2.2.2.2) 12 u.1) 13 u.2.2.1) 14 u.2.2.2.1) 15 u.2.1) 16 u.2.2.2.2.1) 17 u.2.2.2.2.2.1) (va_up (va_up (va_up (va_up mf 1 u.2.2.2.2.2.2.1) 2 u.2.2.2.2.2.2.2.1) 3 u.2.2.2.2.2.2.2.2.1) 4 u.2.2.2.2.2.2.2.2.2.1) mg))) [true, true, true, true, true, true, true, true, true] hw26 rfl (fun hC_ => (rn_V (As := [.ref (mr 8), .int z_houses]) (rest := []) E hw26 (t_readPath l D cI cJ _ mr (upd (upd (upd (upd (upd (upd (upd mi 5 x_14) 12 x_8) 13 x_10) 14 x_11) 15 x_9) 16 x_12) 17 x_13) (va_up (va_up (va_up (va_up mf 1 g_15) 2 g_16) 3 g_17) 4 g_18) mg z_houses ad av tf h0 hi_18_0 hi_18_1 h3 ⟨hi_18_2, hi_18_3⟩ h5 ⟨hi_18_4, hi_18_5⟩ hi_18_8 hi_18_9) (gdV q_916 q_918 q_13 q_155 q_919) hdV_X5_readPath ⟨rfl, rfl⟩ ⟨(Nat.le_of_ble_eq_true rfl), (Nat.le_of_ble_eq_true rfl)⟩ ⟨(Nat.le_of_ble_eq_true rfl), (Nat.le_of_ble_eq_true rfl)⟩ xT8_b (xT8_at hX hw26.2.2.1 (va_free hw26.2.1 hw26.2.2.1 hw26.2.2.2 _ hC_)) 0 5 rfl rfl rfl _ hC_ (nd_T _ 0) rfl hl21.1 rfl (Nat.le_of_ble_eq_true rfl) dX5_read_48)) rfl (fun _ => rfl) (fun _ => rfl) (fun u_34 H1 locs hp hw36 => ?_)
            obtain ⟨ntat_37, ntplace_38, ntkind_39, ntvalue_40, ntfault_41, ntfaultPlace_42, gfrom_43, gto_44, glength_45, guntil_46, ncount_47⟩ := u_34
            generalize H1 = H at hw36 ⊢
            have hw48 : WD D A s.heap (WZ_PathsT cI cJ ad mr (upd (upd (upd (upd (upd (upd (upd mi 5 ncount_47) 12 ntat_37) 13 ntkind_39) 14 ntvalue_40) 15 ntplace_38) 16 ntfault_41) 17 ntfaultPlace_42) (va_up (va_up (va_up (va_up mf 1 gfrom_43) 2 gto_44) 3 glength_45) 4 guntil_46) mg) H locs := hw36
            obtain ⟨hp_49, hp_50, hp_51, hp_52, hp_53, hp_54, hp_55, hp_56⟩ := hp
            have hp_49 : 0 ≤ ntat_37.toInt := hp_49
            have hp_50 : ntat_37.toInt ≤ (mi 10).toInt := hp_50
            have hp_51 : 0 ≤ ntfault_41.toInt := hp_51
            have hp_52 : ntfault_41.toInt ≤ 4 := hp_52
            have hp_53 : 0 ≤ ncount_47.toInt := hp_53
            have hp_54 : ncount_47.toInt ≤ 40 := hp_54
            obtain ⟨v_57, ev_57⟩ : ∃ z : Int32, x_7 + Int32.ofInt (1) = z := ⟨_, rfl⟩
            have hv_57 : v_57.toInt = x_7.toInt + (1) := by rw [← ev_57]; exact incE rfl (by decide) (by omega)
            refine lv_iinc (pc := 51) (v := v_57) (lv' := [(3, .int v_57), (0, .ref (mr 0)), (1, .ref (mr 8)), (2, .int z_houses)]) E.1 E.2.1 dX5_read_51 hl21 (k := 0) rfl ev_57 (by decide) rfl (fun ls hl58 => ?_)
            refine lv_goto (pc := 54) (tgt := 7) E.1 E.2.1 dX5_read_54 (by decide) ?_
            exact ih_19 v_57 ntat_37 ntplace_38 ntkind_39 ntvalue_40 ntfault_41 ntfaultPlace_42 ncount_47 gfrom_43 gto_44 glength_45 guntil_46 _ _ _ ⟨hp_49, hp_50, hp_51, hp_52, hp_53, hp_54, (by show 0 ≤ v_57.toInt; omega), (by show v_57.toInt ≤ 401; omega), hp_55, hp_56⟩ (by omega) hw48 (lv_sub hl58 [0, 1, 2, 3] rfl)
          · skip
            have hc_33 := nltE (a := x_14.toInt) (b := 40) rfl (by decide +kernel) c_33
            refine lv_aload_n (pc := 30) E.1 E.2.1 dX5_read_30 rfl (lv_at hl21 2 rfl) ?_
            refine x_get (pc := 31) (T := TX8) (N := 9) (ci := 8) (v := .int x_10) E hw26 inX8 7 4 q_543 rfl rfl (by decide) rfl rfl dX5_read_31 ?_
            refine lv_sipush (pc := 34) (v := 256) E.1 E.2.1 dX5_read_34 (by decide +kernel) ?_
            refine lv_icmp_ne (pc := 37) (tgt := 45) E.1 E.2.1 dX5_read_37 (by decide) (fun c_59 => ?_) (fun c_59 => ?_)
            · skip
              have hc_59 := neE (a := x_10.toInt) (b := 256) rfl (by decide +kernel) c_59
              refine lv_aload_n (pc := 45) E.1 E.2.1 dX5_read_45 rfl (lv_at hl21 1 rfl) ?_
              refine lv_aload_n (pc := 46) E.1 E.2.1 dX5_read_46 rfl (lv_at hl21 2 rfl) ?_
              refine lv_iload_n (pc := 47) E.1 E.2.1 dX5_read_47 rfl (lv_at hl21 3 rfl) ?_
              refine ck_v (pc := 48) (ws' := (fun (u : Int32 × Int32 × Int32 × Int32 × Int32 × Int32 × (Nat → Int32) × (Nat → Int32) × (Nat → Int32) × (Nat → Int32) × Int32) => (WZ_PathsT cI cJ ad mr (upd (upd (upd (upd (upd (upd (upd mi 5 u.2.2.2.2.2.2.2.2.2.2) 12 u.1) 13 u.2.2.1) 14 u.2.2.2.1) 15 u.2.1) 16 u.2.2.2.2.1) 17 u.2.2.2.2.2.1) (va_up (va_up (va_up (va_up mf 1 u.2.2.2.2.2.2.1) 2 u.2.2.2.2.2.2.2.1) 3 u.2.2.2.2.2.2.2.2.1) 4 u.2.2.2.2.2.2.2.2.2.1) mg))) [true, true, true, true, true, true, true, true, true] hw26 rfl (fun hC_ => (rn_V (As := [.ref (mr 8), .int z_houses]) (rest := []) E hw26 (t_readPath l D cI cJ _ mr (upd (upd (upd (upd (upd (upd (upd mi 5 x_14) 12 x_8) 13 x_10) 14 x_11) 15 x_9) 16 x_12) 17 x_13) (va_up (va_up (va_up (va_up mf 1 g_15) 2 g_16) 3 g_17) 4 g_18) mg z_houses ad av tf h0 hi_18_0 hi_18_1 h3 ⟨hi_18_2, hi_18_3⟩ h5 ⟨hi_18_4, hi_18_5⟩ hi_18_8 hi_18_9) (gdV q_916 q_918 q_13 q_155 q_919) hdV_X5_readPath ⟨rfl, rfl⟩ ⟨(Nat.le_of_ble_eq_true rfl), (Nat.le_of_ble_eq_true rfl)⟩ ⟨(Nat.le_of_ble_eq_true rfl), (Nat.le_of_ble_eq_true rfl)⟩ xT8_b (xT8_at hX hw26.2.2.1 (va_free hw26.2.1 hw26.2.2.1 hw26.2.2.2 _ hC_)) 0 5 rfl rfl rfl _ hC_ (nd_T _ 0) rfl hl21.1 rfl (Nat.le_of_ble_eq_true rfl) dX5_read_48)) rfl (fun _ => rfl) (fun _ => rfl) (fun u_60 H1 locs hp hw62 => ?_)
              obtain ⟨ntat_63, ntplace_64, ntkind_65, ntvalue_66, ntfault_67, ntfaultPlace_68, gfrom_69, gto_70, glength_71, guntil_72, ncount_73⟩ := u_60
              generalize H1 = H at hw62 ⊢
              have hw74 : WD D A s.heap (WZ_PathsT cI cJ ad mr (upd (upd (upd (upd (upd (upd (upd mi 5 ncount_73) 12 ntat_63) 13 ntkind_65) 14 ntvalue_66) 15 ntplace_64) 16 ntfault_67) 17 ntfaultPlace_68) (va_up (va_up (va_up (va_up mf 1 gfrom_69) 2 gto_70) 3 glength_71) 4 guntil_72) mg) H locs := hw62
              obtain ⟨hp_75, hp_76, hp_77, hp_78, hp_79, hp_80, hp_81, hp_82⟩ := hp
              have hp_75 : 0 ≤ ntat_63.toInt := hp_75
              have hp_76 : ntat_63.toInt ≤ (mi 10).toInt := hp_76
              have hp_77 : 0 ≤ ntfault_67.toInt := hp_77
              have hp_78 : ntfault_67.toInt ≤ 4 := hp_78
              have hp_79 : 0 ≤ ncount_73.toInt := hp_79
              have hp_80 : ncount_73.toInt ≤ 40 := hp_80
              obtain ⟨v_83, ev_83⟩ : ∃ z : Int32, x_7 + Int32.ofInt (1) = z := ⟨_, rfl⟩
              have hv_83 : v_83.toInt = x_7.toInt + (1) := by rw [← ev_83]; exact incE rfl (by decide) (by omega)
              refine lv_iinc (pc := 51) (v := v_83) (lv' := [(3, .int v_83), (0, .ref (mr 0)), (1, .ref (mr 8)), (2, .int z_houses)]) E.1 E.2.1 dX5_read_51 hl21 (k := 0) rfl ev_83 (by decide) rfl (fun ls hl84 => ?_)
              refine lv_goto (pc := 54) (tgt := 7) E.1 E.2.1 dX5_read_54 (by decide) ?_
              exact ih_19 v_83 ntat_63 ntplace_64 ntkind_65 ntvalue_66 ntfault_67 ntfaultPlace_68 ncount_73 gfrom_69 gto_70 glength_71 guntil_72 _ _ _ ⟨hp_75, hp_76, hp_77, hp_78, hp_79, hp_80, (by show 0 ≤ v_83.toInt; omega), (by show v_83.toInt ≤ 401; omega), hp_81, hp_82⟩ (by omega) hw74 (lv_sub hl84 [0, 1, 2, 3] rfl)
            · skip
              have hc_59 := eqE (a := x_10.toInt) (b := 256) rfl (by decide +kernel) c_59
              refine lv_aload_n (pc := 40) E.1 E.2.1 dX5_read_40 rfl (lv_at hl21 2 rfl) ?_
              refine lv_iconst (pc := 41) (v := 3) E.1 E.2.1 dX5_read_41 (by decide +kernel) ?_
              refine ck_v (pc := 42) (ws' := (fun (u : Int32 × Int32) => (WZ_PathsT cI cJ ad mr (upd (upd (upd (upd (upd (upd (upd mi 5 x_14) 12 x_8) 13 x_10) 14 x_11) 15 x_9) 16 u.1) 17 u.2) (va_up (va_up (va_up (va_up mf 1 g_15) 2 g_16) 3 g_17) 4 g_18) mg))) [false, false, false, false, false, false, false, true, true] hw26 rfl (fun hC_ => (rn_V (As := [.int 3]) (rest := []) E hw26 (t_refuse l D cI cJ _ (shf 8 mr) (shf 8 (upd (upd (upd (upd (upd (upd (upd mi 5 x_14) 12 x_8) 13 x_10) 14 x_11) 15 x_9) 16 x_12) 17 x_13)) (shf 8 (va_up (va_up (va_up (va_up mf 1 g_15) 2 g_16) 3 g_17) 4 g_18)) (shf 8 mg) 3 ad (by show 1 ≤ (3 : Int32).toInt ∧ (3 : Int32).toInt ≤ 4; have k_0 : (3 : Int32).toInt = 3 := (by decide +kernel); omega) ⟨hi_18_2, hi_18_3⟩) (gdV q_915 q_857 q_858 q_160 q_859) hdV_X8_refuse ⟨rfl, rfl⟩ ⟨(Nat.le_of_ble_eq_true rfl), (Nat.le_of_ble_eq_true rfl)⟩ ⟨(Nat.le_of_ble_eq_true rfl), (Nat.le_of_ble_eq_true rfl)⟩ xT_b xT_at 7 8 rfl rfl rfl _ hC_ (nd_T _ 0) rfl hl21.1 rfl (Nat.le_of_ble_eq_true rfl) dX5_read_42)) rfl (fun _ => rfl) (fun _ => rfl) (fun u_85 H1 locs hp hw87 => ?_)
              obtain ⟨nfault_88, nfaultPlace_89⟩ := u_85
              generalize H1 = H at hw87 ⊢
              have hw90 : WD D A s.heap (WZ_PathsT cI cJ ad mr (upd (upd (upd (upd (upd (upd (upd mi 5 x_14) 12 x_8) 13 x_10) 14 x_11) 15 x_9) 16 nfault_88) 17 nfaultPlace_89) (va_up (va_up (va_up (va_up mf 1 g_15) 2 g_16) 3 g_17) 4 g_18) mg) H locs := hw87
              obtain ⟨hp_91, hp_92⟩ := hp
              have hp_91 : 1 ≤ nfault_88.toInt := hp_91
              have hp_92 : nfault_88.toInt ≤ 4 := hp_92
              refine lv_aload_n (pc := 45) E.1 E.2.1 dX5_read_45 rfl (lv_at hl21 1 rfl) ?_
              refine lv_aload_n (pc := 46) E.1 E.2.1 dX5_read_46 rfl (lv_at hl21 2 rfl) ?_
              refine lv_iload_n (pc := 47) E.1 E.2.1 dX5_read_47 rfl (lv_at hl21 3 rfl) ?_
              refine ck_v (pc := 48) (ws' := (fun (u : Int32 × Int32 × Int32 × Int32 × Int32 × Int32 × (Nat → Int32) × (Nat → Int32) × (Nat → Int32) × (Nat → Int32) × Int32) => (WZ_PathsT cI cJ ad mr (upd (upd (upd (upd (upd (upd (upd mi 5 u.2.2.2.2.2.2.2.2.2.2) 12 u.1) 13 u.2.2.1) 14 u.2.2.2.1) 15 u.2.1) 16 u.2.2.2.2.1) 17 u.2.2.2.2.2.1) (va_up (va_up (va_up (va_up mf 1 u.2.2.2.2.2.2.1) 2 u.2.2.2.2.2.2.2.1) 3 u.2.2.2.2.2.2.2.2.1) 4 u.2.2.2.2.2.2.2.2.2.1) mg))) [true, true, true, true, true, true, true, true, true] hw90 rfl (fun hC_ => (rn_V (As := [.ref (mr 8), .int z_houses]) (rest := []) E hw90 (t_readPath l D cI cJ _ mr (upd (upd (upd (upd (upd (upd (upd mi 5 x_14) 12 x_8) 13 x_10) 14 x_11) 15 x_9) 16 nfault_88) 17 nfaultPlace_89) (va_up (va_up (va_up (va_up mf 1 g_15) 2 g_16) 3 g_17) 4 g_18) mg z_houses ad av tf h0 hi_18_0 hi_18_1 h3 (by show 0 ≤ nfault_88.toInt ∧ nfault_88.toInt ≤ 4; omega) h5 ⟨hi_18_4, hi_18_5⟩ hi_18_8 hi_18_9) (gdV q_916 q_918 q_13 q_155 q_919) hdV_X5_readPath ⟨rfl, rfl⟩ ⟨(Nat.le_of_ble_eq_true rfl), (Nat.le_of_ble_eq_true rfl)⟩ ⟨(Nat.le_of_ble_eq_true rfl), (Nat.le_of_ble_eq_true rfl)⟩ xT8_b (xT8_at hX hw90.2.2.1 (va_free hw90.2.1 hw90.2.2.1 hw90.2.2.2 _ hC_)) 0 5 rfl rfl rfl _ hC_ (nd_T _ 0) rfl hl21.1 rfl (Nat.le_of_ble_eq_true rfl) dX5_read_48)) rfl (fun _ => rfl) (fun _ => rfl) (fun u_93 H1 locs hp hw95 => ?_)
              obtain ⟨ntat_96, ntplace_97, ntkind_98, ntvalue_99, ntfault_100, ntfaultPlace_101, gfrom_102, gto_103, glength_104, guntil_105, ncount_106⟩ := u_93
              generalize H1 = H at hw95 ⊢
              have hw107 : WD D A s.heap (WZ_PathsT cI cJ ad mr (upd (upd (upd (upd (upd (upd (upd mi 5 ncount_106) 12 ntat_96) 13 ntkind_98) 14 ntvalue_99) 15 ntplace_97) 16 ntfault_100) 17 ntfaultPlace_101) (va_up (va_up (va_up (va_up mf 1 gfrom_102) 2 gto_103) 3 glength_104) 4 guntil_105) mg) H locs := hw95
              obtain ⟨hp_108, hp_109, hp_110, hp_111, hp_112, hp_113, hp_114, hp_115⟩ := hp
              have hp_108 : 0 ≤ ntat_96.toInt := hp_108
              have hp_109 : ntat_96.toInt ≤ (mi 10).toInt := hp_109
              have hp_110 : 0 ≤ ntfault_100.toInt := hp_110
              have hp_111 : ntfault_100.toInt ≤ 4 := hp_111
              have hp_112 : 0 ≤ ncount_106.toInt := hp_112
              have hp_113 : ncount_106.toInt ≤ 40 := hp_113
              obtain ⟨v_116, ev_116⟩ : ∃ z : Int32, x_7 + Int32.ofInt (1) = z := ⟨_, rfl⟩
              have hv_116 : v_116.toInt = x_7.toInt + (1) := by rw [← ev_116]; exact incE rfl (by decide) (by omega)
              refine lv_iinc (pc := 51) (v := v_116) (lv' := [(3, .int v_116), (0, .ref (mr 0)), (1, .ref (mr 8)), (2, .int z_houses)]) E.1 E.2.1 dX5_read_51 hl21 (k := 0) rfl ev_116 (by decide) rfl (fun ls hl117 => ?_)
              refine lv_goto (pc := 54) (tgt := 7) E.1 E.2.1 dX5_read_54 (by decide) ?_
              exact ih_19 v_116 ntat_96 ntplace_97 ntkind_98 ntvalue_99 ntfault_100 ntfaultPlace_101 ncount_106 gfrom_102 gto_103 glength_104 guntil_105 _ _ _ ⟨hp_108, hp_109, hp_110, hp_111, hp_112, hp_113, (by show 0 ≤ v_116.toInt; omega), (by show v_116.toInt ≤ 401; omega), hp_114, hp_115⟩ (by omega) hw107 (lv_sub hl117 [0, 1, 2, 3] rfl)
        · skip
          have ha_30 : ¬ x_12.toInt = 0 := ha_30
          refine lv_if_eq (pc := 18) (tgt := 57) E.1 E.2.1 dX5_read_18 (by decide) (fun _ => ?_) (fun c_118 => absurd (meqE (a := 0) (b := 0) (by decide +kernel) (by decide +kernel) (by omega)) c_118)
          exact em_v (w1 := (fun (u : Int32 × Int32 × Int32 × Int32 × Int32 × Int32 × (Nat → Int32) × (Nat → Int32) × (Nat → Int32) × (Nat → Int32) × Int32) => (WZ_PathsT cI cJ ad mr (upd (upd (upd (upd (upd (upd (upd mi 12 u.1) 15 u.2.1) 13 u.2.2.1) 14 u.2.2.2.1) 16 u.2.2.2.2.1) 17 u.2.2.2.2.2.1) 5 u.2.2.2.2.2.2.2.2.2.2) (va_up (va_up (va_up (va_up mf 1 u.2.2.2.2.2.2.1) 2 u.2.2.2.2.2.2.2.1) 3 u.2.2.2.2.2.2.2.2.1) 4 u.2.2.2.2.2.2.2.2.2.1) mg))) E hr hlk (x_8, x_9, x_10, x_11, x_12, x_13, g_15, g_16, g_17, g_18, x_14) hw26 ⟨hi_18_0, hi_18_1, hi_18_2, hi_18_3, hi_18_4, hi_18_5, hi_18_8, hi_18_9⟩ (Nat.le_of_ble_eq_true rfl) (Nat.le_of_ble_eq_true rfl) dX5_read_57
        · skip
          have ha_31 : x_10.toInt = 0 := ha_31
          refine lv_if_eq (pc := 18) (tgt := 57) E.1 E.2.1 dX5_read_18 (by decide) (fun _ => ?_) (fun c_119 => absurd (meqE (a := 0) (b := 0) (by decide +kernel) (by decide +kernel) (by omega)) c_119)
          exact em_v (w1 := (fun (u : Int32 × Int32 × Int32 × Int32 × Int32 × Int32 × (Nat → Int32) × (Nat → Int32) × (Nat → Int32) × (Nat → Int32) × Int32) => (WZ_PathsT cI cJ ad mr (upd (upd (upd (upd (upd (upd (upd mi 12 u.1) 15 u.2.1) 13 u.2.2.1) 14 u.2.2.2.1) 16 u.2.2.2.2.1) 17 u.2.2.2.2.2.1) 5 u.2.2.2.2.2.2.2.2.2.2) (va_up (va_up (va_up (va_up mf 1 u.2.2.2.2.2.2.1) 2 u.2.2.2.2.2.2.2.1) 3 u.2.2.2.2.2.2.2.2.1) 4 u.2.2.2.2.2.2.2.2.2.1) mg))) E hr hlk (x_8, x_9, x_10, x_11, x_12, x_13, g_15, g_16, g_17, g_18, x_14) hw26 ⟨hi_18_0, hi_18_1, hi_18_2, hi_18_3, hi_18_4, hi_18_5, hi_18_8, hi_18_9⟩ (Nat.le_of_ble_eq_true rfl) (Nat.le_of_ble_eq_true rfl) dX5_read_57
  exact loop_6 (Int.toNat (401 - 0) + 1) 0 (mi 12) (mi 15) (mi 13) (mi 14) (mi 16) (mi 17) 0 (mf 1) (mf 2) (mf 3) (mf 4) _ _ _ ⟨h1, h2, h4.1, h4.2, (by show 0 ≤ (0 : Int32).toInt; have k_0 : (0 : Int32).toInt = 0 := (by decide +kernel); omega), (by show (0 : Int32).toInt ≤ 40; have k_0 : (0 : Int32).toInt = 0 := (by decide +kernel); omega), (by show 0 ≤ (0 : Int32).toInt; have k_0 : (0 : Int32).toInt = 0 := (by decide +kernel); omega), (by show (0 : Int32).toInt ≤ 401; have k_0 : (0 : Int32).toInt = 0 := (by decide +kernel); omega), a_from, a_to⟩ (by have k_0 : (0 : Int32).toInt = 0 := (by decide +kernel); have k_7 : (0 : Int32).toInt = 0 := (by decide +kernel); omega) hw4 (lv_sub hl5 [0, 1, 2, 3] rfl)
