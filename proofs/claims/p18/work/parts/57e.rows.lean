set_option maxHeartbeats 4000000 in
set_option maxRecDepth 100000 in
theorem t_readHouses (l : Launch) (D : va_G) (cI cJ : ClassId) (sz : Nat) (mr : Nat → Nat) (mi : Nat → Int32) (mf : Nat → Nat → Int32) (mg : Nat → Nat → Int64) (z_h : Int32) (mv : Nat → Value) (h0 : 0 ≤ (mi 29).toInt ∧ (mi 29).toInt ≤ 10) (h1 : 0 ≤ (mi 37).toInt ∧ (mi 37).toInt ≤ 40) (h2 : 0 ≤ (mi 46).toInt ∧ (mi 46).toInt ≤ 10) (h3 : 0 ≤ z_h.toInt ∧ z_h.toInt ≤ 9) (a_p_from : p9 (mf 33)) (a_p_to : p9 (mf 34)) : Met l yX10_readHouse (Cond.code yX10_readHouse cX10_readHouse 4 none :: GW) ({ frames := 4, cells := 0, slots := 0, locals := 115 } : Room) (va_Pc [.ref (mr 0), .ref (mr 77), .int z_h] (PW D cI cJ sz (WZ_VSO cI cJ mv mr mi mf mg) xT)) (va_Qv (fun (u : (Nat → Int32) × (Nat → Int32) × (Nat → Int32)) => True) (fun u => QW D cI cJ (va_A (WZ_VSO cI cJ mv mr mi mf mg) sz) ((fun (u : (Nat → Int32) × (Nat → Int32) × (Nat → Int32)) => (WZ_VSO cI cJ mv mr mi (va_up (va_up (va_up mf 6 u.1) 38 u.2.1) 39 u.2.2) mg)) u)) (va_A (WZ_VSO cI cJ mv mr mi mf mg) sz)) 0 0 (va_A (WZ_VSO cI cJ mv mr mi mf mg) sz) := by
  refine mk_met (y := yX10_readHouse) (bytes := cX10_readHouse) (maxL := 4) (avs := [.ref (mr 0), .ref (mr 77), .int z_h]) (WS := (WZ_VSO cI cJ mv mr mi mf mg)) (Qf := fun A => va_Qv (fun (u : (Nat → Int32) × (Nat → Int32) × (Nat → Int32)) => True) (fun u => QW D cI cJ A ((fun (u : (Nat → Int32) × (Nat → Int32) × (Nat → Int32)) => (WZ_VSO cI cJ mv mr mi (va_up (va_up (va_up mf 6 u.1) 38 u.2.1) 39 u.2.2) mg)) u)) A) (by decide) (Nat.le_of_ble_eq_true rfl) ?_
  intro p e s m below meth c A ls E hr hlk hnm hX hw1 hl2
  have hl3 : lv_has ls 4 [(0, .ref (mr 0)), (1, .ref (mr 77)), (2, .int z_h)] := hl2
  refine lv_aload_n (pc := 0) E.1 E.2.1 dX10_readHouse_0 rfl (lv_at hl3 0 rfl) ?_
  refine x_get (pc := 1) (T := TX10) (N := 17) (ci := 10) (v := .ref (mr 32)) E hw1 inX10 0 2 q_464 rfl rfl (by decide) rfl rfl dX10_readHouse_1 ?_
  refine lv_aload_n (pc := 4) E.1 E.2.1 dX10_readHouse_4 rfl (lv_at hl3 1 rfl) ?_
  refine x_get (pc := 5) (T := TX4) (N := 12) (ci := 4) (v := .int (mi 84)) E hw1 inX4 50 6 q_215 rfl rfl (by decide) rfl rfl dX10_readHouse_5 ?_
  refine lv_iload_n (pc := 8) E.1 E.2.1 dX10_readHouse_8 rfl (lv_at hl3 2 rfl) ?_
  refine lv_aload_n (pc := 9) E.1 E.2.1 dX10_readHouse_9 rfl (lv_at hl3 1 rfl) ?_
  refine x_get (pc := 10) (T := TX4) (N := 12) (ci := 4) (v := .int (mi 86)) E hw1 inX4 50 8 q_223 rfl rfl (by decide) rfl rfl dX10_readHouse_10 ?_
  refine ck_i (pc := 13) (ws' := (fun (u : (Nat → Int32) × (Nat → Int32)) => (WZ_VSO cI cJ mv mr mi (va_up (va_up mf 38 u.1) 39 u.2) mg))) [false, false, false, false, false, false, false, false, false, false, false, false, false, false, false, false, false, false, false, false, true, true, true, true, true, true, true, false, false, false, false, false, false, false, false, false, false, false, false, false, false, false, false, false, false, false, false, false, false, false, false, false, false, false, false, false] hw1 rfl (fun hC_ => (rn_V (As := [.int (mi 84), .int z_h, .int (mi 86)]) (rest := []) E hw1 (t_apart l D cI cJ _ (shf 32 mr) (shf 32 mi) (shf 32 mf) (shf 32 mg) (mi 84) z_h (mi 86) h1 a_p_from a_p_to) (gdV q_1016 q_1017 q_1018 q_155 q_1019) hdV_X5_apart ⟨rfl, rfl⟩ ⟨(Nat.le_of_ble_eq_true rfl), (Nat.le_of_ble_eq_true rfl)⟩ ⟨(Nat.le_of_ble_eq_true rfl), (Nat.le_of_ble_eq_true rfl)⟩ xT_b xT_at 20 5 rfl rfl rfl _ hC_ (nd_T _ 0) rfl hl3.1 rfl (Nat.le_of_ble_eq_true rfl) dX10_readHouse_13)) rfl (fun _ => rfl) (fun _ => rfl) (fun r_5 u_4 H1 locs hp hw6 => ?_)
  obtain ⟨gmeasured_7, gmeasuredIn_8⟩ := u_4
  generalize H1 = H at hw6 ⊢
  have hw9 : WD D A s.heap (WZ_VSO cI cJ mv mr mi (va_up (va_up mf 38 gmeasured_7) 39 gmeasuredIn_8) mg) H locs := hw6
  refine lv_istore_n (pc := 16) (lv' := [(3, .int r_5), (0, .ref (mr 0)), (1, .ref (mr 77)), (2, .int z_h)]) E.1 E.2.1 dX10_readHouse_16 rfl hl3 (by decide) rfl (fun ls hl10 => ?_)
  refine lv_aload_n (pc := 17) E.1 E.2.1 dX10_readHouse_17 rfl (lv_at hl10 1 rfl) ?_
  refine x_get (pc := 18) (T := TX10) (N := 17) (ci := 10) (v := .ref (mr 6)) E hw9 inX10 0 13 q_490 rfl rfl (by decide) rfl rfl dX10_readHouse_18 ?_
  refine lv_iconst (pc := 21) (v := 0) E.1 E.2.1 dX10_readHouse_21 (by decide +kernel) ?_
  refine lv_iload_n (pc := 22) E.1 E.2.1 dX10_readHouse_22 rfl (lv_at hl10 3 rfl) ?_
  refine x_iastG (pc := 23) (f := (mf 6)) (wf := fun g => (WZ_VSO cI cJ mv mr mi (va_up (va_up (va_up mf 6 g) 38 gmeasured_7) 39 gmeasuredIn_8) mg)) E hw9 2 rfl (inbE (a := 0) (by decide +kernel) (by omega)) (fun _ => rfl) dX10_readHouse_23 (fun g_11 H locs eg_11 hw12 => ?_)
  refine lv_aload_n (pc := 24) E.1 E.2.1 dX10_readHouse_24 rfl (lv_at hl10 1 rfl) ?_
  refine x_get (pc := 25) (T := TX10) (N := 17) (ci := 10) (v := .ref (mr 6)) E hw12 inX10 0 13 q_490 rfl rfl (by decide) rfl rfl dX10_readHouse_25 ?_
  refine lv_iconst (pc := 28) (v := 1) E.1 E.2.1 dX10_readHouse_28 (by decide +kernel) ?_
  refine lv_aload_n (pc := 29) E.1 E.2.1 dX10_readHouse_29 rfl (lv_at hl10 2 rfl) ?_
  refine x_get (pc := 30) (T := TX4) (N := 12) (ci := 4) (v := .ref (mr 79)) E hw12 inX4 50 1 q_195 rfl rfl (by decide) rfl rfl dX10_readHouse_30 ?_
  refine lv_iload_n (pc := 33) E.1 E.2.1 dX10_readHouse_33 rfl (lv_at hl10 3 rfl) ?_
  refine x_iald (pc := 34) (f := (mf 79)) E hw12 52 rfl (inbE (a := z_h.toInt) rfl (by omega)) dX10_readHouse_34 ?_
  refine lv_topi (fun v_13 ev_13 => ?_)
  refine x_iastG (pc := 35) (f := g_11) (wf := fun g => (WZ_VSO cI cJ mv mr mi (va_up (va_up (va_up mf 6 g) 38 gmeasured_7) 39 gmeasuredIn_8) mg)) E hw12 2 rfl (inbE (a := 1) (by decide +kernel) (by omega)) (fun _ => rfl) dX10_readHouse_35 (fun g_14 H locs eg_14 hw15 => ?_)
  refine lv_aload_n (pc := 36) E.1 E.2.1 dX10_readHouse_36 rfl (lv_at hl10 1 rfl) ?_
  refine x_get (pc := 37) (T := TX10) (N := 17) (ci := 10) (v := .ref (mr 6)) E hw15 inX10 0 13 q_490 rfl rfl (by decide) rfl rfl dX10_readHouse_37 ?_
  refine lv_iconst (pc := 40) (v := 2) E.1 E.2.1 dX10_readHouse_40 (by decide +kernel) ?_
  refine lv_aload_n (pc := 41) E.1 E.2.1 dX10_readHouse_41 rfl (lv_at hl10 2 rfl) ?_
  refine lv_iload_n (pc := 42) E.1 E.2.1 dX10_readHouse_42 rfl (lv_at hl10 3 rfl) ?_
  refine ck_i (pc := 43) (ws' := (fun (u : Unit) => (WZ_VSO cI cJ mv mr mi (va_up (va_up (va_up mf 6 g_14) 38 gmeasured_7) 39 gmeasuredIn_8) mg))) [false, false, false, false, false, false, false, false, false, false, false, false, false, false, false, false, false, false, false, false, false, false, false, false, false, false, false, false, false, false, false, false, false, false, false, false, false, false, false, false, false, false, false, false, false, false, false, false, false, false, true, true, true, true, true, true] hw15 rfl (fun hC_ => (rn_V (As := [.int z_h]) (rest := [.int 2, .ref (mr 6)]) E hw15 (t_waited l D cI cJ _ (shf 77 mr) (shf 77 mi) (shf 77 (va_up (va_up (va_up mf 6 g_14) 38 gmeasured_7) 39 gmeasuredIn_8)) (shf 77 mg) z_h h3) (gdV q_1036 q_1037 q_1038 q_153 q_1039) hdV_X4_waited ⟨rfl, rfl⟩ ⟨(Nat.le_of_ble_eq_true rfl), (Nat.le_of_ble_eq_true rfl)⟩ ⟨(Nat.le_of_ble_eq_true rfl), (Nat.le_of_ble_eq_true rfl)⟩ xT_b xT_at 50 4 rfl rfl rfl _ hC_ (nd_T _ 0) rfl hl10.1 rfl (Nat.le_of_ble_eq_true rfl) dX10_readHouse_43)) rfl (fun _ => rfl) (fun _ => rfl) (fun r_17 u_16 H1 locs hp hw18 => ?_)
  generalize H1 = H at hw18 ⊢
  have hw19 : WD D A s.heap (WZ_VSO cI cJ mv mr mi (va_up (va_up (va_up mf 6 g_14) 38 gmeasured_7) 39 gmeasuredIn_8) mg) H locs := hw18
  refine x_iastG (pc := 46) (f := g_14) (wf := fun g => (WZ_VSO cI cJ mv mr mi (va_up (va_up (va_up mf 6 g) 38 gmeasured_7) 39 gmeasuredIn_8) mg)) E hw19 2 rfl (inbE (a := 2) (by decide +kernel) (by omega)) (fun _ => rfl) dX10_readHouse_46 (fun g_20 H locs eg_20 hw21 => ?_)
  refine lv_aload_n (pc := 47) E.1 E.2.1 dX10_readHouse_47 rfl (lv_at hl10 1 rfl) ?_
  refine x_get (pc := 48) (T := TX10) (N := 17) (ci := 10) (v := .ref (mr 6)) E hw21 inX10 0 13 q_490 rfl rfl (by decide) rfl rfl dX10_readHouse_48 ?_
  refine lv_iconst (pc := 51) (v := 3) E.1 E.2.1 dX10_readHouse_51 (by decide +kernel) ?_
  refine lv_aload_n (pc := 52) E.1 E.2.1 dX10_readHouse_52 rfl (lv_at hl10 2 rfl) ?_
  refine x_get (pc := 53) (T := TX4) (N := 12) (ci := 4) (v := .int (mi 86)) E hw21 inX4 50 8 q_223 rfl rfl (by decide) rfl rfl dX10_readHouse_53 ?_
  refine x_iastG (pc := 56) (f := g_20) (wf := fun g => (WZ_VSO cI cJ mv mr mi (va_up (va_up (va_up mf 6 g) 38 gmeasured_7) 39 gmeasuredIn_8) mg)) E hw21 2 rfl (inbE (a := 3) (by decide +kernel) (by omega)) (fun _ => rfl) dX10_readHouse_56 (fun g_22 H locs eg_22 hw23 => ?_)
  refine lv_aload_n (pc := 57) E.1 E.2.1 dX10_readHouse_57 rfl (lv_at hl10 1 rfl) ?_
  refine x_get (pc := 58) (T := TX10) (N := 17) (ci := 10) (v := .ref (mr 6)) E hw23 inX10 0 13 q_490 rfl rfl (by decide) rfl rfl dX10_readHouse_58 ?_
  refine lv_iconst (pc := 61) (v := 4) E.1 E.2.1 dX10_readHouse_61 (by decide +kernel) ?_
  refine lv_aload_n (pc := 62) E.1 E.2.1 dX10_readHouse_62 rfl (lv_at hl10 2 rfl) ?_
  refine x_get (pc := 63) (T := TX4) (N := 12) (ci := 4) (v := .ref (mr 78)) E hw23 inX4 50 0 q_193 rfl rfl (by decide) rfl rfl dX10_readHouse_63 ?_
  refine lv_iload_n (pc := 66) E.1 E.2.1 dX10_readHouse_66 rfl (lv_at hl10 3 rfl) ?_
  refine x_iald (pc := 67) (f := (mf 78)) E hw23 51 rfl (inbE (a := z_h.toInt) rfl (by omega)) dX10_readHouse_67 ?_
  refine lv_topi (fun v_24 ev_24 => ?_)
  refine x_iastG (pc := 68) (f := g_22) (wf := fun g => (WZ_VSO cI cJ mv mr mi (va_up (va_up (va_up mf 6 g) 38 gmeasured_7) 39 gmeasuredIn_8) mg)) E hw23 2 rfl (inbE (a := 4) (by decide +kernel) (by omega)) (fun _ => rfl) dX10_readHouse_68 (fun g_25 H locs eg_25 hw26 => ?_)
  refine lv_aload_n (pc := 69) E.1 E.2.1 dX10_readHouse_69 rfl (lv_at hl10 1 rfl) ?_
  refine x_get (pc := 70) (T := TX10) (N := 17) (ci := 10) (v := .ref (mr 6)) E hw26 inX10 0 13 q_490 rfl rfl (by decide) rfl rfl dX10_readHouse_70 ?_
  refine lv_iconst (pc := 73) (v := 5) E.1 E.2.1 dX10_readHouse_73 (by decide +kernel) ?_
  refine lv_aload_n (pc := 74) E.1 E.2.1 dX10_readHouse_74 rfl (lv_at hl10 2 rfl) ?_
  refine x_get (pc := 75) (T := TX4) (N := 12) (ci := 4) (v := .int (mi 85)) E hw26 inX4 50 7 q_220 rfl rfl (by decide) rfl rfl dX10_readHouse_75 ?_
  refine lv_bipush (pc := 78) (v := 120) E.1 E.2.1 dX10_readHouse_78 (by decide +kernel) ?_
  refine lv_irem (pc := 80) E.1 E.2.1 dX10_readHouse_80 (by decide +kernel) ?_
  refine lv_topi (fun v_27 ev_27 => ?_)
  refine lv_bipush (pc := 81) (v := 30) E.1 E.2.1 dX10_readHouse_81 (by decide +kernel) ?_
  refine lv_idiv (pc := 83) E.1 E.2.1 dX10_readHouse_83 (by decide +kernel) ?_
  refine lv_topi (fun v_28 ev_28 => ?_)
  refine x_iastG (pc := 84) (f := g_25) (wf := fun g => (WZ_VSO cI cJ mv mr mi (va_up (va_up (va_up mf 6 g) 38 gmeasured_7) 39 gmeasuredIn_8) mg)) E hw26 2 rfl (inbE (a := 5) (by decide +kernel) (by omega)) (fun _ => rfl) dX10_readHouse_84 (fun g_29 H locs eg_29 hw30 => ?_)
  refine lv_aload_n (pc := 85) E.1 E.2.1 dX10_readHouse_85 rfl (lv_at hl10 1 rfl) ?_
  refine x_get (pc := 86) (T := TX10) (N := 17) (ci := 10) (v := .ref (mr 6)) E hw30 inX10 0 13 q_490 rfl rfl (by decide) rfl rfl dX10_readHouse_86 ?_
  refine lv_bipush (pc := 89) (v := 6) E.1 E.2.1 dX10_readHouse_89 (by decide +kernel) ?_
  refine lv_aload_n (pc := 91) E.1 E.2.1 dX10_readHouse_91 rfl (lv_at hl10 1 rfl) ?_
  refine x_get (pc := 92) (T := TX10) (N := 17) (ci := 10) (v := .ref (mr 23)) E hw30 inX10 0 1 q_460 rfl rfl (by decide) rfl rfl dX10_readHouse_92 ?_
  refine x_get (pc := 95) (T := TX1) (N := 9) (ci := 1) (v := .ref (mr 25)) E hw30 inX1 12 1 q_270 rfl rfl (by decide) rfl rfl dX10_readHouse_95 ?_
  refine lv_iload_n (pc := 98) E.1 E.2.1 dX10_readHouse_98 rfl (lv_at hl10 3 rfl) ?_
  refine x_iald (pc := 99) (f := (mf 25)) E hw30 14 rfl (inbE (a := z_h.toInt) rfl (by omega)) dX10_readHouse_99 ?_
  refine lv_topi (fun v_31 ev_31 => ?_)
  refine x_iastG (pc := 100) (f := g_29) (wf := fun g => (WZ_VSO cI cJ mv mr mi (va_up (va_up (va_up mf 6 g) 38 gmeasured_7) 39 gmeasuredIn_8) mg)) E hw30 2 rfl (inbE (a := 6) (by decide +kernel) (by omega)) (fun _ => rfl) dX10_readHouse_100 (fun g_32 H locs eg_32 hw33 => ?_)
  refine lv_aload_n (pc := 101) E.1 E.2.1 dX10_readHouse_101 rfl (lv_at hl10 1 rfl) ?_
  refine x_get (pc := 102) (T := TX10) (N := 17) (ci := 10) (v := .ref (mr 6)) E hw33 inX10 0 13 q_490 rfl rfl (by decide) rfl rfl dX10_readHouse_102 ?_
  refine lv_bipush (pc := 105) (v := 7) E.1 E.2.1 dX10_readHouse_105 (by decide +kernel) ?_
  refine lv_aload_n (pc := 107) E.1 E.2.1 dX10_readHouse_107 rfl (lv_at hl10 1 rfl) ?_
  refine x_get (pc := 108) (T := TX10) (N := 17) (ci := 10) (v := .ref (mr 40)) E hw33 inX10 0 3 q_467 rfl rfl (by decide) rfl rfl dX10_readHouse_108 ?_
  refine lv_iload_n (pc := 111) E.1 E.2.1 dX10_readHouse_111 rfl (lv_at hl10 3 rfl) ?_
  refine lv_aload_n (pc := 112) E.1 E.2.1 dX10_readHouse_112 rfl (lv_at hl10 2 rfl) ?_
  refine ck_i (pc := 113) (ws' := (fun (u : Unit) => (WZ_VSO cI cJ mv mr mi (va_up (va_up (va_up mf 6 g_32) 38 gmeasured_7) 39 gmeasuredIn_8) mg))) [false, false, false, false, false, false, false, false, false, false, false, false, false, false, false, false, false, false, false, false, false, false, false, false, false, false, false, true, true, true, true, true, true, false, false, false, false, false, false, false, false, false, false, false, false, false, false, false, false, false, true, true, true, true, true, true] hw33 rfl (fun hC_ => (rn_V (As := [.int z_h, .ref (mr 77)]) (rest := [.int 7, .ref (mr 6)]) E hw33 (t_openWorth l D cI cJ _ (shg 7 40 70 mr) (shg 7 40 70 mi) (shg 7 40 70 (va_up (va_up (va_up mf 6 g_32) 38 gmeasured_7) 39 gmeasuredIn_8)) (shg 7 40 70 mg) z_h h2) (gdV q_1040 q_1041 q_1042 q_156 q_1043) hdV_X3_openWorth ⟨rfl, rfl⟩ ⟨(Nat.le_of_ble_eq_true rfl), (Nat.le_of_ble_eq_true rfl)⟩ ⟨(Nat.le_of_ble_eq_true rfl), (Nat.le_of_ble_eq_true rfl)⟩ xT_b xT_at 27 3 rfl rfl rfl _ hC_ (nd_T _ 0) rfl hl10.1 rfl (Nat.le_of_ble_eq_true rfl) dX10_readHouse_113)) rfl (fun _ => rfl) (fun _ => rfl) (fun r_35 u_34 H1 locs hp hw36 => ?_)
  generalize H1 = H at hw36 ⊢
  have hw37 : WD D A s.heap (WZ_VSO cI cJ mv mr mi (va_up (va_up (va_up mf 6 g_32) 38 gmeasured_7) 39 gmeasuredIn_8) mg) H locs := hw36
  refine x_iastG (pc := 116) (f := g_32) (wf := fun g => (WZ_VSO cI cJ mv mr mi (va_up (va_up (va_up mf 6 g) 38 gmeasured_7) 39 gmeasuredIn_8) mg)) E hw37 2 rfl (inbE (a := 7) (by decide +kernel) (by omega)) (fun _ => rfl) dX10_readHouse_116 (fun g_38 H locs eg_38 hw39 => ?_)
  refine lv_aload_n (pc := 117) E.1 E.2.1 dX10_readHouse_117 rfl (lv_at hl10 1 rfl) ?_
  refine x_get (pc := 118) (T := TX10) (N := 17) (ci := 10) (v := .ref (mr 6)) E hw39 inX10 0 13 q_490 rfl rfl (by decide) rfl rfl dX10_readHouse_118 ?_
  refine lv_bipush (pc := 121) (v := 8) E.1 E.2.1 dX10_readHouse_121 (by decide +kernel) ?_
  refine lv_iload_n (pc := 123) E.1 E.2.1 dX10_readHouse_123 rfl (lv_at hl10 0 rfl) ?_
  refine lv_iconst (pc := 124) (v := (-1)) E.1 E.2.1 dX10_readHouse_124 (by decide +kernel) ?_
  refine lv_icmp_ne (pc := 125) (tgt := 133) E.1 E.2.1 dX10_readHouse_125 (by decide) (fun c_40 => ?_) (fun c_40 => ?_)
  · skip
    have hc_40 := neE (a := r_5.toInt) (b := (-1)) rfl (by decide +kernel) c_40
    refine lv_iload_n (pc := 133) E.1 E.2.1 dX10_readHouse_133 rfl (lv_at hl10 0 rfl) ?_
    refine x_iastG (pc := 134) (f := g_38) (wf := fun g => (WZ_VSO cI cJ mv mr mi (va_up (va_up (va_up mf 6 g) 38 gmeasured_7) 39 gmeasuredIn_8) mg)) E hw39 2 rfl (inbE (a := 8) (by decide +kernel) (by omega)) (fun _ => rfl) dX10_readHouse_134 (fun g_41 H locs eg_41 hw42 => ?_)
    refine lv_aload_n (pc := 135) E.1 E.2.1 dX10_readHouse_135 rfl (lv_at hl10 1 rfl) ?_
    refine x_get (pc := 136) (T := TX10) (N := 17) (ci := 10) (v := .ref (mr 6)) E hw42 inX10 0 13 q_490 rfl rfl (by decide) rfl rfl dX10_readHouse_136 ?_
    refine lv_bipush (pc := 139) (v := 9) E.1 E.2.1 dX10_readHouse_139 (by decide +kernel) ?_
    refine lv_aload_n (pc := 141) E.1 E.2.1 dX10_readHouse_141 rfl (lv_at hl10 1 rfl) ?_
    refine x_get (pc := 142) (T := TX10) (N := 17) (ci := 10) (v := .ref (mr 23)) E hw42 inX10 0 1 q_460 rfl rfl (by decide) rfl rfl dX10_readHouse_142 ?_
    refine x_get (pc := 145) (T := TX1) (N := 9) (ci := 1) (v := .ref (mr 26)) E hw42 inX1 12 2 q_272 rfl rfl (by decide) rfl rfl dX10_readHouse_145 ?_
    refine lv_iload_n (pc := 148) E.1 E.2.1 dX10_readHouse_148 rfl (lv_at hl10 3 rfl) ?_
    refine x_iald (pc := 149) (f := (mf 26)) E hw42 15 rfl (inbE (a := z_h.toInt) rfl (by omega)) dX10_readHouse_149 ?_
    refine lv_topi (fun v_43 ev_43 => ?_)
    refine x_iastG (pc := 150) (f := g_41) (wf := fun g => (WZ_VSO cI cJ mv mr mi (va_up (va_up (va_up mf 6 g) 38 gmeasured_7) 39 gmeasuredIn_8) mg)) E hw42 2 rfl (inbE (a := 9) (by decide +kernel) (by omega)) (fun _ => rfl) dX10_readHouse_150 (fun g_44 H locs eg_44 hw45 => ?_)
    exact em_v (w1 := (fun (u : (Nat → Int32) × (Nat → Int32) × (Nat → Int32)) => (WZ_VSO cI cJ mv mr mi (va_up (va_up (va_up mf 6 u.1) 38 u.2.1) 39 u.2.2) mg))) E hr hlk (g_44, gmeasured_7, gmeasuredIn_8) hw45 trivial (Nat.le_of_ble_eq_true rfl) (Nat.le_of_ble_eq_true rfl) dX10_readHouse_151
  · skip
    have hc_40 := eqE (a := r_5.toInt) (b := (-1)) rfl (by decide +kernel) c_40
    refine lv_bipush (pc := 128) (v := 99) E.1 E.2.1 dX10_readHouse_128 (by decide +kernel) ?_
    refine lv_goto (pc := 130) (tgt := 134) E.1 E.2.1 dX10_readHouse_130 (by decide) ?_
    refine x_iastG (pc := 134) (f := g_38) (wf := fun g => (WZ_VSO cI cJ mv mr mi (va_up (va_up (va_up mf 6 g) 38 gmeasured_7) 39 gmeasuredIn_8) mg)) E hw39 2 rfl (inbE (a := 8) (by decide +kernel) (by omega)) (fun _ => rfl) dX10_readHouse_134 (fun g_46 H locs eg_46 hw47 => ?_)
    refine lv_aload_n (pc := 135) E.1 E.2.1 dX10_readHouse_135 rfl (lv_at hl10 1 rfl) ?_
    refine x_get (pc := 136) (T := TX10) (N := 17) (ci := 10) (v := .ref (mr 6)) E hw47 inX10 0 13 q_490 rfl rfl (by decide) rfl rfl dX10_readHouse_136 ?_
    refine lv_bipush (pc := 139) (v := 9) E.1 E.2.1 dX10_readHouse_139 (by decide +kernel) ?_
    refine lv_aload_n (pc := 141) E.1 E.2.1 dX10_readHouse_141 rfl (lv_at hl10 1 rfl) ?_
    refine x_get (pc := 142) (T := TX10) (N := 17) (ci := 10) (v := .ref (mr 23)) E hw47 inX10 0 1 q_460 rfl rfl (by decide) rfl rfl dX10_readHouse_142 ?_
    refine x_get (pc := 145) (T := TX1) (N := 9) (ci := 1) (v := .ref (mr 26)) E hw47 inX1 12 2 q_272 rfl rfl (by decide) rfl rfl dX10_readHouse_145 ?_
    refine lv_iload_n (pc := 148) E.1 E.2.1 dX10_readHouse_148 rfl (lv_at hl10 3 rfl) ?_
    refine x_iald (pc := 149) (f := (mf 26)) E hw47 15 rfl (inbE (a := z_h.toInt) rfl (by omega)) dX10_readHouse_149 ?_
    refine lv_topi (fun v_48 ev_48 => ?_)
    refine x_iastG (pc := 150) (f := g_46) (wf := fun g => (WZ_VSO cI cJ mv mr mi (va_up (va_up (va_up mf 6 g) 38 gmeasured_7) 39 gmeasuredIn_8) mg)) E hw47 2 rfl (inbE (a := 9) (by decide +kernel) (by omega)) (fun _ => rfl) dX10_readHouse_150 (fun g_49 H locs eg_49 hw50 => ?_)
    exact em_v (w1 := (fun (u : (Nat → Int32) × (Nat → Int32) × (Nat → Int32)) => (WZ_VSO cI cJ mv mr mi (va_up (va_up (va_up mf 6 u.1) 38 u.2.1) 39 u.2.2) mg))) E hr hlk (g_49, gmeasured_7, gmeasuredIn_8) hw50 trivial (Nat.le_of_ble_eq_true rfl) (Nat.le_of_ble_eq_true rfl) dX10_readHouse_151
set_option maxHeartbeats 4000000 in
set_option maxRecDepth 100000 in
theorem t_turnsOfs (l : Launch) (D : va_G) (cI cJ : ClassId) (sz : Nat) (mr : Nat → Nat) (mi : Nat → Int32) (mf : Nat → Nat → Int32) (mg : Nat → Nat → Int64) (z_h : Int32) (mv : Nat → Value) (h0 : 0 ≤ (mi 29).toInt ∧ (mi 29).toInt ≤ 10) (h1 : 0 ≤ (mi 37).toInt ∧ (mi 37).toInt ≤ 40) (h2 : 0 ≤ (mi 46).toInt ∧ (mi 46).toInt ≤ 10) (h3 : 0 ≤ z_h.toInt ∧ z_h.toInt ≤ 9) (a_p_from : p9 (mf 33)) (a_p_to : p9 (mf 34)) (a_t_marks : m4 (mf 50)) : Met l yX10_turnsOf (Cond.code yX10_turnsOf cX10_turnsOf 3 (some .int) :: GW) ({ frames := 5, cells := 0, slots := 0, locals := 138 } : Room) (va_Pc [.ref (mr 0), .ref (mr 77), .int z_h] (PW D cI cJ sz (WZ_VSO cI cJ mv mr mi mf mg) xT)) (va_Qi (fun (r : Int32) (u : (Nat → Int32) × (Nat → Int32) × (Nat → Int32) × (Nat → Int32)) => True) (fun u => QW D cI cJ (va_A (WZ_VSO cI cJ mv mr mi mf mg) sz) ((fun (u : (Nat → Int32) × (Nat → Int32) × (Nat → Int32) × (Nat → Int32)) => (WZ_VSO cI cJ mv mr mi (va_up (va_up (va_up (va_up mf 6 u.1) 38 u.2.1) 39 u.2.2.1) 52 u.2.2.2) mg)) u)) (va_A (WZ_VSO cI cJ mv mr mi mf mg) sz)) 0 0 (va_A (WZ_VSO cI cJ mv mr mi mf mg) sz) := by
  refine mk_met (y := yX10_turnsOf) (bytes := cX10_turnsOf) (maxL := 3) (avs := [.ref (mr 0), .ref (mr 77), .int z_h]) (WS := (WZ_VSO cI cJ mv mr mi mf mg)) (Qf := fun A => va_Qi (fun (r : Int32) (u : (Nat → Int32) × (Nat → Int32) × (Nat → Int32) × (Nat → Int32)) => True) (fun u => QW D cI cJ A ((fun (u : (Nat → Int32) × (Nat → Int32) × (Nat → Int32) × (Nat → Int32)) => (WZ_VSO cI cJ mv mr mi (va_up (va_up (va_up (va_up mf 6 u.1) 38 u.2.1) 39 u.2.2.1) 52 u.2.2.2) mg)) u)) A) (by decide) (Nat.le_of_ble_eq_true rfl) ?_
  intro p e s m below meth c A ls E hr hlk hnm hX hw1 hl2
  have hl3 : lv_has ls 3 [(0, .ref (mr 0)), (1, .ref (mr 77)), (2, .int z_h)] := hl2
  refine lv_aload_n (pc := 0) E.1 E.2.1 dX10_turnsOf_0 rfl (lv_at hl3 0 rfl) ?_
  refine lv_aload_n (pc := 1) E.1 E.2.1 dX10_turnsOf_1 rfl (lv_at hl3 1 rfl) ?_
  refine lv_iload_n (pc := 2) E.1 E.2.1 dX10_turnsOf_2 rfl (lv_at hl3 2 rfl) ?_
  refine ck_v (pc := 3) (ws' := (fun (u : (Nat → Int32) × (Nat → Int32) × (Nat → Int32)) => (WZ_VSO cI cJ mv mr mi (va_up (va_up (va_up mf 6 u.1) 38 u.2.1) 39 u.2.2) mg))) [true, true, true, true, true, true, true, true, true, true, true, true, true, true, true, true, true, true, true, true, true, true, true, true, true, true, true, true, true, true, true, true, true, true, true, true, true, true, true, true, true, true, true, true, true, true, true, true, true, true, true, true, true, true, true, true] hw1 rfl (fun hC_ => (rn_V (As := [.ref (mr 77), .int z_h]) (rest := []) E hw1 (t_readHouses l D cI cJ _ mr mi mf mg z_h (vl [mv 0]) h0 h1 h2 h3 a_p_from a_p_to) (gdV q_1032 q_1034 q_23 q_152 q_1035) hdV_X10_readHouse ⟨rfl, rfl⟩ ⟨(Nat.le_of_ble_eq_true rfl), (Nat.le_of_ble_eq_true rfl)⟩ ⟨(Nat.le_of_ble_eq_true rfl), (Nat.le_of_ble_eq_true rfl)⟩ xT_b xT_at 0 10 rfl rfl rfl _ hC_ (nd_T _ 0) rfl hl3.1 rfl (Nat.le_of_ble_eq_true rfl) dX10_turnsOf_3)) rfl (fun _ => rfl) (fun _ => rfl) (fun u_4 H1 locs hp hw6 => ?_)
  obtain ⟨greadings_7, gpmeasured_8, gpmeasuredIn_9⟩ := u_4
  generalize H1 = H at hw6 ⊢
  have hw10 : WD D A s.heap (WZ_VSO cI cJ mv mr mi (va_up (va_up (va_up mf 6 greadings_7) 38 gpmeasured_8) 39 gpmeasuredIn_9) mg) H locs := hw6
  refine lv_aload_n (pc := 6) E.1 E.2.1 dX10_turnsOf_6 rfl (lv_at hl3 0 rfl) ?_
  refine x_get (pc := 7) (T := TX10) (N := 17) (ci := 10) (v := .ref (mr 47)) E hw10 inX10 0 4 q_470 rfl rfl (by decide) rfl rfl dX10_turnsOf_7 ?_
  refine lv_aload_n (pc := 10) E.1 E.2.1 dX10_turnsOf_10 rfl (lv_at hl3 0 rfl) ?_
  refine x_get (pc := 11) (T := TX10) (N := 17) (ci := 10) (v := .ref (mr 6)) E hw10 inX10 0 13 q_490 rfl rfl (by decide) rfl rfl dX10_turnsOf_11 ?_
  refine lv_aload_n (pc := 14) E.1 E.2.1 dX10_turnsOf_14 rfl (lv_at hl3 0 rfl) ?_
  refine x_get (pc := 15) (T := TX10) (N := 17) (ci := 10) (v := .ref (mr 6)) E hw10 inX10 0 13 q_490 rfl rfl (by decide) rfl rfl dX10_turnsOf_15 ?_
  refine lv_iconst (pc := 18) (v := 2) E.1 E.2.1 dX10_turnsOf_18 (by decide +kernel) ?_
  refine x_iald (pc := 19) (f := greadings_7) E hw10 2 rfl (inbE (a := 2) (by decide +kernel) (by omega)) dX10_turnsOf_19 ?_
  refine lv_topi (fun v_11 ev_11 => ?_)
  refine cq_i (pc := 20) (ws' := (fun (u : (Nat → Int32)) => (WZ_VSO cI cJ mv mr mi (va_up (va_up (va_up (va_up mf 6 greadings_7) 38 gpmeasured_8) 39 gpmeasuredIn_9) 52 u) mg))) hw10 [33, 34, 35, 36, 37, 2] [0, 1, 3, 4, 5, 6, 7, 8, 9, 10, 11, 12, 13, 14, 15, 16, 17, 18, 19, 20, 21, 22, 23, 24, 25, 26, 27, 28, 29, 30, 31, 32, 38, 39, 40, 41, 42, 43, 44, 45, 46, 47, 48, 49, 50, 51, 52, 53, 54, 55] [0, 1, 55, 2, 3, 4, 5, 6, 7, 8, 9, 10, 11, 12, 13, 14, 15, 16, 17, 18, 19, 20, 21, 22, 23, 24, 25, 26, 27, 28, 29, 30, 31, 50, 51, 52, 53, 54, 32, 33, 34, 35, 36, 37, 38, 39, 40, 41, 42, 43, 44, 45, 46, 47, 48, 49] rfl rfl (by decide) (by decide) (fun _ => rfl) (by decide) (rn_V (As := [.ref (mr 6), .int v_11]) (rest := []) E hw10 (t_tells l D cI cJ _ (shs [(0, 47, 10), (10, 6, 1)] mr) (shs [(0, 47, 10), (10, 6, 1)] mi) (shs [(0, 47, 10), (10, 6, 1)] (va_up (va_up (va_up mf 6 greadings_7) 38 gpmeasured_8) 39 gpmeasuredIn_9)) (shs [(0, 47, 10), (10, 6, 1)] mg) v_11 a_t_marks) (gdV q_1048 q_1049 q_1050 q_157 q_1051) hdV_X2_tells ⟨rfl, rfl⟩ ⟨(Nat.le_of_ble_eq_true rfl), (Nat.le_of_ble_eq_true rfl)⟩ ⟨(Nat.le_of_ble_eq_true rfl), (Nat.le_of_ble_eq_true rfl)⟩ xT_b xT_at 33 2 rfl rfl rfl [33, 34, 35, 36, 37, 2] rfl (by decide) rfl hl3.1 rfl (Nat.le_of_ble_eq_true rfl) dX10_turnsOf_20) (fun r_13 u_12 H1 locs hp hw14 => ?_)
  obtain ⟨gstack_15, rfl⟩ : ∃ z, z = u_12 := ⟨_, rfl⟩
  generalize H1 = H at hw14 ⊢
  have hw16 : WD D A s.heap (WZ_VSO cI cJ mv mr mi (va_up (va_up (va_up (va_up mf 6 greadings_7) 38 gpmeasured_8) 39 gpmeasuredIn_9) 52 gstack_15) mg) H locs := hw14
  exact em_i (w1 := (fun (u : (Nat → Int32) × (Nat → Int32) × (Nat → Int32) × (Nat → Int32)) => (WZ_VSO cI cJ mv mr mi (va_up (va_up (va_up (va_up mf 6 u.1) 38 u.2.1) 39 u.2.2.1) 52 u.2.2.2) mg))) E hr hlk (greadings_7, gpmeasured_8, gpmeasuredIn_9, gstack_15) hw16 trivial (Nat.le_of_ble_eq_true rfl) (Nat.le_of_ble_eq_true rfl) dX10_turnsOf_23
set_option maxHeartbeats 4000000 in
set_option maxRecDepth 100000 in
theorem t_burningOfs (l : Launch) (D : va_G) (cI cJ : ClassId) (sz : Nat) (mr : Nat → Nat) (mi : Nat → Int32) (mf : Nat → Nat → Int32) (mg : Nat → Nat → Int64) (z_h : Int32) (mv : Nat → Value) (h0 : 0 ≤ (mi 29).toInt ∧ (mi 29).toInt ≤ 10) (h1 : 0 ≤ (mi 37).toInt ∧ (mi 37).toInt ≤ 40) (h2 : 0 ≤ (mi 46).toInt ∧ (mi 46).toInt ≤ 10) (h3 : 0 ≤ z_h.toInt ∧ z_h.toInt ≤ 9) (a_p_from : p9 (mf 33)) (a_p_to : p9 (mf 34)) (a_u_marks : m4 (mf 60)) : Met l yX10_burningOf (Cond.code yX10_burningOf cX10_burningOf 3 (some .int) :: GW) ({ frames := 5, cells := 0, slots := 0, locals := 138 } : Room) (va_Pc [.ref (mr 0), .ref (mr 77), .int z_h] (PW D cI cJ sz (WZ_VSO cI cJ mv mr mi mf mg) xT)) (va_Qi (fun (r : Int32) (u : (Nat → Int32) × (Nat → Int32) × (Nat → Int32) × (Nat → Int32)) => (0 ≤ r.toInt) ∧ (r.toInt ≤ 99)) (fun u => QW D cI cJ (va_A (WZ_VSO cI cJ mv mr mi mf mg) sz) ((fun (u : (Nat → Int32) × (Nat → Int32) × (Nat → Int32) × (Nat → Int32)) => (WZ_VSO cI cJ mv mr mi (va_up (va_up (va_up (va_up mf 6 u.1) 38 u.2.1) 39 u.2.2.1) 62 u.2.2.2) mg)) u)) (va_A (WZ_VSO cI cJ mv mr mi mf mg) sz)) 0 0 (va_A (WZ_VSO cI cJ mv mr mi mf mg) sz) := by
  refine mk_met (y := yX10_burningOf) (bytes := cX10_burningOf) (maxL := 3) (avs := [.ref (mr 0), .ref (mr 77), .int z_h]) (WS := (WZ_VSO cI cJ mv mr mi mf mg)) (Qf := fun A => va_Qi (fun (r : Int32) (u : (Nat → Int32) × (Nat → Int32) × (Nat → Int32) × (Nat → Int32)) => (0 ≤ r.toInt) ∧ (r.toInt ≤ 99)) (fun u => QW D cI cJ A ((fun (u : (Nat → Int32) × (Nat → Int32) × (Nat → Int32) × (Nat → Int32)) => (WZ_VSO cI cJ mv mr mi (va_up (va_up (va_up (va_up mf 6 u.1) 38 u.2.1) 39 u.2.2.1) 62 u.2.2.2) mg)) u)) A) (by decide) (Nat.le_of_ble_eq_true rfl) ?_
  intro p e s m below meth c A ls E hr hlk hnm hX hw1 hl2
  have hl3 : lv_has ls 3 [(0, .ref (mr 0)), (1, .ref (mr 77)), (2, .int z_h)] := hl2
  refine lv_aload_n (pc := 0) E.1 E.2.1 dX10_burningOf_0 rfl (lv_at hl3 0 rfl) ?_
  refine lv_aload_n (pc := 1) E.1 E.2.1 dX10_burningOf_1 rfl (lv_at hl3 1 rfl) ?_
  refine lv_iload_n (pc := 2) E.1 E.2.1 dX10_burningOf_2 rfl (lv_at hl3 2 rfl) ?_
  refine ck_v (pc := 3) (ws' := (fun (u : (Nat → Int32) × (Nat → Int32) × (Nat → Int32)) => (WZ_VSO cI cJ mv mr mi (va_up (va_up (va_up mf 6 u.1) 38 u.2.1) 39 u.2.2) mg))) [true, true, true, true, true, true, true, true, true, true, true, true, true, true, true, true, true, true, true, true, true, true, true, true, true, true, true, true, true, true, true, true, true, true, true, true, true, true, true, true, true, true, true, true, true, true, true, true, true, true, true, true, true, true, true, true] hw1 rfl (fun hC_ => (rn_V (As := [.ref (mr 77), .int z_h]) (rest := []) E hw1 (t_readHouses l D cI cJ _ mr mi mf mg z_h (vl [mv 0]) h0 h1 h2 h3 a_p_from a_p_to) (gdV q_1032 q_1034 q_23 q_152 q_1035) hdV_X10_readHouse ⟨rfl, rfl⟩ ⟨(Nat.le_of_ble_eq_true rfl), (Nat.le_of_ble_eq_true rfl)⟩ ⟨(Nat.le_of_ble_eq_true rfl), (Nat.le_of_ble_eq_true rfl)⟩ xT_b xT_at 0 10 rfl rfl rfl _ hC_ (nd_T _ 0) rfl hl3.1 rfl (Nat.le_of_ble_eq_true rfl) dX10_burningOf_3)) rfl (fun _ => rfl) (fun _ => rfl) (fun u_4 H1 locs hp hw6 => ?_)
  obtain ⟨greadings_7, gpmeasured_8, gpmeasuredIn_9⟩ := u_4
  generalize H1 = H at hw6 ⊢
  have hw10 : WD D A s.heap (WZ_VSO cI cJ mv mr mi (va_up (va_up (va_up mf 6 greadings_7) 38 gpmeasured_8) 39 gpmeasuredIn_9) mg) H locs := hw6
  refine lv_iconst (pc := 6) (v := 0) E.1 E.2.1 dX10_burningOf_6 (by decide +kernel) ?_
  refine lv_bipush (pc := 7) (v := 99) E.1 E.2.1 dX10_burningOf_7 (by decide +kernel) ?_
  refine lv_aload_n (pc := 9) E.1 E.2.1 dX10_burningOf_9 rfl (lv_at hl3 0 rfl) ?_
  refine x_get (pc := 10) (T := TX10) (N := 17) (ci := 10) (v := .ref (mr 57)) E hw10 inX10 0 5 q_472 rfl rfl (by decide) rfl rfl dX10_burningOf_10 ?_
  refine lv_aload_n (pc := 13) E.1 E.2.1 dX10_burningOf_13 rfl (lv_at hl3 0 rfl) ?_
  refine x_get (pc := 14) (T := TX10) (N := 17) (ci := 10) (v := .ref (mr 6)) E hw10 inX10 0 13 q_490 rfl rfl (by decide) rfl rfl dX10_burningOf_14 ?_
  refine lv_iconst (pc := 17) (v := 1) E.1 E.2.1 dX10_burningOf_17 (by decide +kernel) ?_
  refine cq_i (pc := 18) (ws' := (fun (u : (Nat → Int32)) => (WZ_VSO cI cJ mv mr mi (va_up (va_up (va_up (va_up mf 6 greadings_7) 38 gpmeasured_8) 39 gpmeasuredIn_9) 62 u) mg))) hw10 [38, 39, 40, 41, 42, 2] [0, 1, 3, 4, 5, 6, 7, 8, 9, 10, 11, 12, 13, 14, 15, 16, 17, 18, 19, 20, 21, 22, 23, 24, 25, 26, 27, 28, 29, 30, 31, 32, 33, 34, 35, 36, 37, 43, 44, 45, 46, 47, 48, 49, 50, 51, 52, 53, 54, 55] [0, 1, 55, 2, 3, 4, 5, 6, 7, 8, 9, 10, 11, 12, 13, 14, 15, 16, 17, 18, 19, 20, 21, 22, 23, 24, 25, 26, 27, 28, 29, 30, 31, 32, 33, 34, 35, 36, 50, 51, 52, 53, 54, 37, 38, 39, 40, 41, 42, 43, 44, 45, 46, 47, 48, 49] rfl rfl (by decide) (by decide) (fun _ => rfl) (by decide) (rn_V (As := [.ref (mr 6), .int 1]) (rest := [.int 99, .int 0]) E hw10 (t_tells l D cI cJ _ (shs [(0, 57, 10), (10, 6, 1)] mr) (shs [(0, 57, 10), (10, 6, 1)] mi) (shs [(0, 57, 10), (10, 6, 1)] (va_up (va_up (va_up mf 6 greadings_7) 38 gpmeasured_8) 39 gpmeasuredIn_9)) (shs [(0, 57, 10), (10, 6, 1)] mg) 1 a_u_marks) (gdV q_1048 q_1049 q_1050 q_157 q_1051) hdV_X2_tells ⟨rfl, rfl⟩ ⟨(Nat.le_of_ble_eq_true rfl), (Nat.le_of_ble_eq_true rfl)⟩ ⟨(Nat.le_of_ble_eq_true rfl), (Nat.le_of_ble_eq_true rfl)⟩ xT_b xT_at 38 2 rfl rfl rfl [38, 39, 40, 41, 42, 2] rfl (by decide) rfl hl3.1 rfl (Nat.le_of_ble_eq_true rfl) dX10_burningOf_18) (fun r_12 u_11 H1 locs hp hw13 => ?_)
  obtain ⟨gstack_14, rfl⟩ : ∃ z, z = u_11 := ⟨_, rfl⟩
  generalize H1 = H at hw13 ⊢
  have hw15 : WD D A s.heap (WZ_VSO cI cJ mv mr mi (va_up (va_up (va_up (va_up mf 6 greadings_7) 38 gpmeasured_8) 39 gpmeasuredIn_9) 62 gstack_14) mg) H locs := hw13
  refine x_min (pc := 21) E hl3.1 q_1067 q_808 q_167 q_809 (Nat.le_of_ble_eq_true rfl) (Nat.le_of_ble_eq_true rfl) (Nat.le_of_ble_eq_true rfl) (Nat.le_of_ble_eq_true rfl) dX10_burningOf_21 (fun v_16 hv_16 => ?_)
  rw [show (99 : Int32).toInt = 99 from by decide +kernel] at hv_16
  have hv_16a : v_16.toInt ≤ 99 ∧ v_16.toInt ≤ r_12.toInt := by omega
  clear hv_16
  refine x_max (pc := 24) E hl3.1 q_1068 q_805 q_167 q_806 (Nat.le_of_ble_eq_true rfl) (Nat.le_of_ble_eq_true rfl) (Nat.le_of_ble_eq_true rfl) (Nat.le_of_ble_eq_true rfl) dX10_burningOf_24 (fun v_17 hv_17 => ?_)
  rw [show (0 : Int32).toInt = 0 from by decide +kernel] at hv_17
  have hv_17a : 0 ≤ v_17.toInt ∧ v_16.toInt ≤ v_17.toInt := by omega
  have hv_17b : v_17.toInt ≤ 99 := by omega
  clear hv_17
  exact em_i (w1 := (fun (u : (Nat → Int32) × (Nat → Int32) × (Nat → Int32) × (Nat → Int32)) => (WZ_VSO cI cJ mv mr mi (va_up (va_up (va_up (va_up mf 6 u.1) 38 u.2.1) 39 u.2.2.1) 62 u.2.2.2) mg))) E hr hlk (greadings_7, gpmeasured_8, gpmeasuredIn_9, gstack_14) hw15 ⟨(by show 0 ≤ v_17.toInt; omega), (by show v_17.toInt ≤ 99; omega)⟩ (Nat.le_of_ble_eq_true rfl) (Nat.le_of_ble_eq_true rfl) dX10_burningOf_27
set_option maxHeartbeats 4000000 in
set_option maxRecDepth 100000 in
theorem t_nextHouses (l : Launch) (D : va_G) (cI cJ : ClassId) (sz : Nat) (mr : Nat → Nat) (mi : Nat → Int32) (mf : Nat → Nat → Int32) (mg : Nat → Nat → Int64)  (mv : Nat → Value) (h0 : 0 ≤ (mi 29).toInt ∧ (mi 29).toInt ≤ 10) (h1 : 0 ≤ (mi 37).toInt ∧ (mi 37).toInt ≤ 40) (h2 : 0 ≤ (mi 46).toInt ∧ (mi 46).toInt ≤ 10) (h3 : 0 ≤ (mi 88).toInt ∧ (mi 88).toInt ≤ 200) (h4 : 0 ≤ (mi 69).toInt ∧ (mi 69).toInt ≤ 200) (a_p_from : p9 (mf 33)) (a_p_to : p9 (mf 34)) (a_t_marks : m4 (mf 50)) : Met l yX10_nextHouse (Cond.code yX10_nextHouse cX10_nextHouse 6 (some .int) :: GW) ({ frames := 6, cells := 0, slots := 0, locals := 160 } : Room) (va_Pc [.ref (mr 0), .ref (mr 77)] (PW D cI cJ sz (WZ_VSO cI cJ mv mr mi mf mg) xT)) (va_Qi (fun (r : Int32) (u : (Nat → Int32) × (Nat → Int32) × (Nat → Int32) × (Nat → Int32)) => True) (fun u => QW D cI cJ (va_A (WZ_VSO cI cJ mv mr mi mf mg) sz) ((fun (u : (Nat → Int32) × (Nat → Int32) × (Nat → Int32) × (Nat → Int32)) => (WZ_VSO cI cJ mv mr mi (va_up (va_up (va_up (va_up mf 6 u.1) 38 u.2.1) 39 u.2.2.1) 52 u.2.2.2) mg)) u)) (va_A (WZ_VSO cI cJ mv mr mi mf mg) sz)) 0 0 (va_A (WZ_VSO cI cJ mv mr mi mf mg) sz) := by
  refine mk_met (y := yX10_nextHouse) (bytes := cX10_nextHouse) (maxL := 6) (avs := [.ref (mr 0), .ref (mr 77)]) (WS := (WZ_VSO cI cJ mv mr mi mf mg)) (Qf := fun A => va_Qi (fun (r : Int32) (u : (Nat → Int32) × (Nat → Int32) × (Nat → Int32) × (Nat → Int32)) => True) (fun u => QW D cI cJ A ((fun (u : (Nat → Int32) × (Nat → Int32) × (Nat → Int32) × (Nat → Int32)) => (WZ_VSO cI cJ mv mr mi (va_up (va_up (va_up (va_up mf 6 u.1) 38 u.2.1) 39 u.2.2.1) 52 u.2.2.2) mg)) u)) A) (by decide) (Nat.le_of_ble_eq_true rfl) ?_
  intro p e s m below meth c A ls E hr hlk hnm hX hw1 hl2
  have hl3 : lv_has ls 6 [(0, .ref (mr 0)), (1, .ref (mr 77))] := hl2
  refine lv_aload_n (pc := 0) E.1 E.2.1 dX10_nextHouse_0 rfl (lv_at hl3 1 rfl) ?_
  refine x_get (pc := 1) (T := TX4) (N := 12) (ci := 4) (v := .int (mi 88)) E hw1 inX4 50 10 q_230 rfl rfl (by decide) rfl rfl dX10_nextHouse_1 ?_
  refine lv_aload_n (pc := 4) E.1 E.2.1 dX10_nextHouse_4 rfl (lv_at hl3 0 rfl) ?_
  refine x_get (pc := 5) (T := TX10) (N := 17) (ci := 10) (v := .ref (mr 67)) E hw1 inX10 0 6 q_474 rfl rfl (by decide) rfl rfl dX10_nextHouse_5 ?_
  refine x_get (pc := 8) (T := TX7) (N := 5) (ci := 7) (v := .int (mi 69)) E hw1 inX7 43 1 q_423 rfl rfl (by decide) rfl rfl dX10_nextHouse_8 ?_
  refine lv_icmp_ge (pc := 11) (tgt := 67) E.1 E.2.1 dX10_nextHouse_11 (by decide) (fun c_4 => ?_) (fun c_4 => ?_)
  · skip
    have hc_4 := leE (a := (mi 69).toInt) (b := (mi 88).toInt) rfl rfl c_4
    refine lv_iconst (pc := 67) (v := (-1)) E.1 E.2.1 dX10_nextHouse_67 (by decide +kernel) ?_
    refine lv_istore_n (pc := 68) (lv' := [(2, .int (-1)), (0, .ref (mr 0)), (1, .ref (mr 77))]) E.1 E.2.1 dX10_nextHouse_68 rfl hl3 (by decide) rfl (fun ls hl5 => ?_)
    refine lv_iconst (pc := 69) (v := 0) E.1 E.2.1 dX10_nextHouse_69 (by decide +kernel) ?_
    refine lv_istore_n (pc := 70) (lv' := [(3, .int 0), (2, .int (-1)), (0, .ref (mr 0)), (1, .ref (mr 77))]) E.1 E.2.1 dX10_nextHouse_70 rfl hl5 (by decide) rfl (fun ls hl6 => ?_)
    refine lv_iconst (pc := 71) (v := 0) E.1 E.2.1 dX10_nextHouse_71 (by decide +kernel) ?_
    refine lv_istore (pc := 72) (lv' := [(4, .int 0), (3, .int 0), (2, .int (-1)), (0, .ref (mr 0)), (1, .ref (mr 77))]) E.1 E.2.1 dX10_nextHouse_72 hl6 (by decide) rfl (fun ls hl7 => ?_)
    have loop_8 : ∀ (k : Nat) (x_9 : Int32) (x_10 : Int32) (x_11 : Int32) (g_12 : Nat → Int32) (g_13 : Nat → Int32) (g_14 : Nat → Int32) (g_15 : Nat → Int32) (H : Heap) (locs : List Loc) (ls : Array Slot), (0 ≤ x_9.toInt) ∧ (x_9.toInt ≤ (mi 29).toInt) → (mi 29).toInt - x_9.toInt < (k : Int) → WD D A s.heap (WZ_VSO cI cJ mv mr mi (va_up (va_up (va_up (va_up mf 6 g_12) 38 g_13) 39 g_14) 52 g_15) mg) H locs → lv_has ls 6 [(4, .int x_9), (3, .int x_11), (2, .int x_10), (0, .ref (mr 0)), (1, .ref (mr 77))] → W p l e ({ frames := 6, cells := 0, slots := 0, locals := 160 } : Room) s m ([.ref (mr 0), .ref (mr 77)] : List Value).toArray below meth c H locs 0 0 (MQ below (va_Qi (fun (r : Int32) (u : (Nat → Int32) × (Nat → Int32) × (Nat → Int32) × (Nat → Int32)) => True) (fun u => QW D cI cJ A ((fun (u : (Nat → Int32) × (Nat → Int32) × (Nat → Int32) × (Nat → Int32)) => (WZ_VSO cI cJ mv mr mi (va_up (va_up (va_up (va_up mf 6 u.1) 38 u.2.1) 39 u.2.2.1) 52 u.2.2.2) mg)) u)) A) ([.ref (mr 0), .ref (mr 77)] : List Value).toArray s 0 0 A) (F0 m 74 ls []) := by
      intro k
      induction k with
      | zero =>
        intro x_9 x_10 x_11 g_12 g_13 g_14 g_15 _ _ _ hinv hm
        obtain ⟨hi_15_0, hi_15_1⟩ := hinv
        exact absurd hm (by omega)
      | succ k ih_16 =>
        intro x_9 x_10 x_11 g_12 g_13 g_14 g_15 H locs ls hinv hm hw17 hl18
        obtain ⟨hi_15_0, hi_15_1⟩ := hinv
        refine lv_iload (pc := 74) E.1 E.2.1 dX10_nextHouse_74 (lv_at hl18 0 rfl) ?_
        refine lv_aload_n (pc := 76) E.1 E.2.1 dX10_nextHouse_76 rfl (lv_at hl18 3 rfl) ?_
        refine x_get (pc := 77) (T := TX10) (N := 17) (ci := 10) (v := .ref (mr 23)) E hw17 inX10 0 1 q_460 rfl rfl (by decide) rfl rfl dX10_nextHouse_77 ?_
        refine x_get (pc := 80) (T := TX1) (N := 9) (ci := 1) (v := .int (mi 29)) E hw17 inX1 12 5 q_283 rfl rfl (by decide) rfl rfl dX10_nextHouse_80 ?_
        refine lv_icmp_ge (pc := 83) (tgt := 135) E.1 E.2.1 dX10_nextHouse_83 (by decide) (fun c_19 => ?_) (fun c_19 => ?_)
        · skip
          have hc_19 := leE (a := (mi 29).toInt) (b := x_9.toInt) rfl rfl c_19
          refine lv_iload_n (pc := 135) E.1 E.2.1 dX10_nextHouse_135 rfl (lv_at hl18 2 rfl) ?_
          exact em_i (w1 := (fun (u : (Nat → Int32) × (Nat → Int32) × (Nat → Int32) × (Nat → Int32)) => (WZ_VSO cI cJ mv mr mi (va_up (va_up (va_up (va_up mf 6 u.1) 38 u.2.1) 39 u.2.2.1) 52 u.2.2.2) mg))) E hr hlk (g_12, g_13, g_14, g_15) hw17 trivial (Nat.le_of_ble_eq_true rfl) (Nat.le_of_ble_eq_true rfl) dX10_nextHouse_136
        · skip
          have hc_19 := nleE (a := (mi 29).toInt) (b := x_9.toInt) rfl rfl c_19
          refine lv_aload_n (pc := 86) E.1 E.2.1 dX10_nextHouse_86 rfl (lv_at hl18 3 rfl) ?_
          refine lv_aload_n (pc := 87) E.1 E.2.1 dX10_nextHouse_87 rfl (lv_at hl18 4 rfl) ?_
          refine x_get (pc := 88) (T := TX4) (N := 12) (ci := 4) (v := .int (mi 84)) E hw17 inX4 50 6 q_215 rfl rfl (by decide) rfl rfl dX10_nextHouse_88 ?_
          refine lv_iload (pc := 91) E.1 E.2.1 dX10_nextHouse_91 (lv_at hl18 0 rfl) ?_
          refine lv_aload_n (pc := 93) E.1 E.2.1 dX10_nextHouse_93 rfl (lv_at hl18 4 rfl) ?_
          refine x_get (pc := 94) (T := TX4) (N := 12) (ci := 4) (v := .int (mi 86)) E hw17 inX4 50 8 q_223 rfl rfl (by decide) rfl rfl dX10_nextHouse_94 ?_
          refine ck_i (pc := 97) (ws' := (fun (u : (Nat → Int32) × (Nat → Int32)) => (WZ_VSO cI cJ mv mr mi (va_up (va_up (va_up (va_up mf 6 g_12) 38 u.1) 39 u.2) 52 g_15) mg))) [true, true, true, true, true, true, true, true, true, true, true, true, true, true, true, true, true, true, true, true, true, true, true, true, true, true, true, true, true, true, true, true, true, true, true, true, true, true, true, true, true, true, true, true, true, true, true, true, true, true, false, false, false, false, false, false] hw17 rfl (fun hC_ => (rn_V (As := [.int (mi 84), .int x_9, .int (mi 86)]) (rest := []) E hw17 (t_isReached l D cI cJ _ mr mi (va_up (va_up (va_up (va_up mf 6 g_12) 38 g_13) 39 g_14) 52 g_15) mg (mi 84) x_9 (mi 86) (vl [mv 0]) h0 h1 h2 a_p_from a_p_to) (gdV q_1012 q_1013 q_1014 q_152 q_1015) hdV_X10_isReached ⟨rfl, rfl⟩ ⟨(Nat.le_of_ble_eq_true rfl), (Nat.le_of_ble_eq_true rfl)⟩ ⟨(Nat.le_of_ble_eq_true rfl), (Nat.le_of_ble_eq_true rfl)⟩ xT_b xT_at 0 10 rfl rfl rfl _ hC_ (nd_T _ 0) rfl hl18.1 rfl (Nat.le_of_ble_eq_true rfl) dX10_nextHouse_97)) rfl (fun _ => rfl) (fun _ => rfl) (fun r_21 u_20 H1 locs hp hw22 => ?_)
          obtain ⟨gpmeasured_23, gpmeasuredIn_24⟩ := u_20
          generalize H1 = H at hw22 ⊢
          have hw25 : WD D A s.heap (WZ_VSO cI cJ mv mr mi (va_up (va_up (va_up (va_up mf 6 g_12) 38 gpmeasured_23) 39 gpmeasuredIn_24) 52 g_15) mg) H locs := hw22
          obtain ⟨hp_26, hp_27⟩ := hp
          have hp_26 : 0 ≤ r_21.toInt := hp_26
          have hp_27 : r_21.toInt ≤ 1 := hp_27
          refine lv_if_eq (pc := 100) (tgt := 129) E.1 E.2.1 dX10_nextHouse_100 (by decide) (fun c_28 => ?_) (fun c_28 => ?_)
          · skip
            have hc_28 := eqE (a := r_21.toInt) (b := 0) rfl (by decide +kernel) c_28
            obtain ⟨v_29, ev_29⟩ : ∃ z : Int32, x_9 + Int32.ofInt (1) = z := ⟨_, rfl⟩
            have hv_29 : v_29.toInt = x_9.toInt + (1) := by rw [← ev_29]; exact incE rfl (by decide) (by omega)
            refine lv_iinc (pc := 129) (v := v_29) (lv' := [(4, .int v_29), (3, .int x_11), (2, .int x_10), (0, .ref (mr 0)), (1, .ref (mr 77))]) E.1 E.2.1 dX10_nextHouse_129 hl18 (k := 0) rfl ev_29 (by decide) rfl (fun ls hl30 => ?_)
            refine lv_goto (pc := 132) (tgt := 74) E.1 E.2.1 dX10_nextHouse_132 (by decide) ?_
            exact ih_16 v_29 x_10 x_11 g_12 gpmeasured_23 gpmeasuredIn_24 g_15 _ _ _ ⟨(by show 0 ≤ v_29.toInt; omega), (by show v_29.toInt ≤ (mi 29).toInt; omega)⟩ (by omega) hw25 (lv_sub hl30 [0, 1, 2, 3, 4] rfl)
          · skip
            have hc_28 := neE (a := r_21.toInt) (b := 0) rfl (by decide +kernel) c_28
            refine lv_aload_n (pc := 103) E.1 E.2.1 dX10_nextHouse_103 rfl (lv_at hl18 3 rfl) ?_
            refine lv_aload_n (pc := 104) E.1 E.2.1 dX10_nextHouse_104 rfl (lv_at hl18 4 rfl) ?_
            refine lv_iload (pc := 105) E.1 E.2.1 dX10_nextHouse_105 (lv_at hl18 0 rfl) ?_
            refine ck_i (pc := 107) (ws' := (fun (u : (Nat → Int32) × (Nat → Int32) × (Nat → Int32) × (Nat → Int32)) => (WZ_VSO cI cJ mv mr mi (va_up (va_up (va_up (va_up mf 6 u.1) 38 u.2.1) 39 u.2.2.1) 52 u.2.2.2) mg))) [true, true, true, true, true, true, true, true, true, true, true, true, true, true, true, true, true, true, true, true, true, true, true, true, true, true, true, true, true, true, true, true, true, true, true, true, true, true, true, true, true, true, true, true, true, true, true, true, true, true, true, true, true, true, true, true] hw25 rfl (fun hC_ => (rn_V (As := [.ref (mr 77), .int x_9]) (rest := []) E hw25 (t_turnsOfs l D cI cJ _ mr mi (va_up (va_up (va_up (va_up mf 6 g_12) 38 gpmeasured_23) 39 gpmeasuredIn_24) 52 g_15) mg x_9 (vl [mv 0]) h0 h1 h2 (by show 0 ≤ x_9.toInt ∧ x_9.toInt ≤ 9; omega) a_p_from a_p_to a_t_marks) (gdV q_1028 q_1029 q_1030 q_152 q_1031) hdV_X10_turnsOf ⟨rfl, rfl⟩ ⟨(Nat.le_of_ble_eq_true rfl), (Nat.le_of_ble_eq_true rfl)⟩ ⟨(Nat.le_of_ble_eq_true rfl), (Nat.le_of_ble_eq_true rfl)⟩ xT_b xT_at 0 10 rfl rfl rfl _ hC_ (nd_T _ 0) rfl hl18.1 rfl (Nat.le_of_ble_eq_true rfl) dX10_nextHouse_107)) rfl (fun _ => rfl) (fun _ => rfl) (fun r_32 u_31 H1 locs hp hw33 => ?_)
            obtain ⟨greadings_34, gpmeasured_35, gpmeasuredIn_36, gtstack_37⟩ := u_31
            generalize H1 = H at hw33 ⊢
            have hw38 : WD D A s.heap (WZ_VSO cI cJ mv mr mi (va_up (va_up (va_up (va_up mf 6 greadings_34) 38 gpmeasured_35) 39 gpmeasuredIn_36) 52 gtstack_37) mg) H locs := hw33
            refine lv_istore (pc := 110) (lv' := [(5, .int r_32), (4, .int x_9), (3, .int x_11), (2, .int x_10), (0, .ref (mr 0)), (1, .ref (mr 77))]) E.1 E.2.1 dX10_nextHouse_110 hl18 (by decide) rfl (fun ls hl39 => ?_)
            refine lv_iload_n (pc := 112) E.1 E.2.1 dX10_nextHouse_112 rfl (lv_at hl39 3 rfl) ?_
            refine lv_iconst (pc := 113) (v := (-1)) E.1 E.2.1 dX10_nextHouse_113 (by decide +kernel) ?_
            refine lv_icmp_eq (pc := 114) (tgt := 123) E.1 E.2.1 dX10_nextHouse_114 (by decide) (fun c_40 => ?_) (fun c_40 => ?_)
            · skip
              have hc_40 := eqE (a := x_10.toInt) (b := (-1)) rfl (by decide +kernel) c_40
              refine lv_iload (pc := 123) E.1 E.2.1 dX10_nextHouse_123 (lv_at hl39 1 rfl) ?_
              refine lv_istore_n (pc := 125) (lv' := [(2, .int x_9), (5, .int r_32), (4, .int x_9), (3, .int x_11), (0, .ref (mr 0)), (1, .ref (mr 77))]) E.1 E.2.1 dX10_nextHouse_125 rfl hl39 (by decide) rfl (fun ls hl41 => ?_)
              refine lv_iload (pc := 126) E.1 E.2.1 dX10_nextHouse_126 (lv_at hl41 1 rfl) ?_
              refine lv_istore_n (pc := 128) (lv' := [(3, .int r_32), (2, .int x_9), (5, .int r_32), (4, .int x_9), (0, .ref (mr 0)), (1, .ref (mr 77))]) E.1 E.2.1 dX10_nextHouse_128 rfl hl41 (by decide) rfl (fun ls hl42 => ?_)
              obtain ⟨v_43, ev_43⟩ : ∃ z : Int32, x_9 + Int32.ofInt (1) = z := ⟨_, rfl⟩
              have hv_43 : v_43.toInt = x_9.toInt + (1) := by rw [← ev_43]; exact incE rfl (by decide) (by omega)
              refine lv_iinc (pc := 129) (v := v_43) (lv' := [(4, .int v_43), (3, .int r_32), (2, .int x_9), (5, .int r_32), (0, .ref (mr 0)), (1, .ref (mr 77))]) E.1 E.2.1 dX10_nextHouse_129 hl42 (k := 3) rfl ev_43 (by decide) rfl (fun ls hl44 => ?_)
              refine lv_goto (pc := 132) (tgt := 74) E.1 E.2.1 dX10_nextHouse_132 (by decide) ?_
              exact ih_16 v_43 x_9 r_32 greadings_34 gpmeasured_35 gpmeasuredIn_36 gtstack_37 _ _ _ ⟨(by show 0 ≤ v_43.toInt; omega), (by show v_43.toInt ≤ (mi 29).toInt; omega)⟩ (by omega) hw38 (lv_sub hl44 [0, 1, 2, 4, 5] rfl)
            · skip
              have hc_40 := neE (a := x_10.toInt) (b := (-1)) rfl (by decide +kernel) c_40
              refine lv_iload (pc := 117) E.1 E.2.1 dX10_nextHouse_117 (lv_at hl39 0 rfl) ?_
              refine lv_iload_n (pc := 119) E.1 E.2.1 dX10_nextHouse_119 rfl (lv_at hl39 2 rfl) ?_
              refine lv_icmp_le (pc := 120) (tgt := 129) E.1 E.2.1 dX10_nextHouse_120 (by decide) (fun c_45 => ?_) (fun c_45 => ?_)
              · skip
                have hc_45 := leE (a := r_32.toInt) (b := x_11.toInt) rfl rfl c_45
                obtain ⟨v_46, ev_46⟩ : ∃ z : Int32, x_9 + Int32.ofInt (1) = z := ⟨_, rfl⟩
                have hv_46 : v_46.toInt = x_9.toInt + (1) := by rw [← ev_46]; exact incE rfl (by decide) (by omega)
                refine lv_iinc (pc := 129) (v := v_46) (lv' := [(4, .int v_46), (5, .int r_32), (3, .int x_11), (2, .int x_10), (0, .ref (mr 0)), (1, .ref (mr 77))]) E.1 E.2.1 dX10_nextHouse_129 hl39 (k := 1) rfl ev_46 (by decide) rfl (fun ls hl47 => ?_)
                refine lv_goto (pc := 132) (tgt := 74) E.1 E.2.1 dX10_nextHouse_132 (by decide) ?_
                exact ih_16 v_46 x_10 x_11 greadings_34 gpmeasured_35 gpmeasuredIn_36 gtstack_37 _ _ _ ⟨(by show 0 ≤ v_46.toInt; omega), (by show v_46.toInt ≤ (mi 29).toInt; omega)⟩ (by omega) hw38 (lv_sub hl47 [0, 2, 3, 4, 5] rfl)
              · skip
                have hc_45 := nleE (a := r_32.toInt) (b := x_11.toInt) rfl rfl c_45
                refine lv_iload (pc := 123) E.1 E.2.1 dX10_nextHouse_123 (lv_at hl39 1 rfl) ?_
                refine lv_istore_n (pc := 125) (lv' := [(2, .int x_9), (5, .int r_32), (4, .int x_9), (3, .int x_11), (0, .ref (mr 0)), (1, .ref (mr 77))]) E.1 E.2.1 dX10_nextHouse_125 rfl hl39 (by decide) rfl (fun ls hl48 => ?_)
                refine lv_iload (pc := 126) E.1 E.2.1 dX10_nextHouse_126 (lv_at hl48 1 rfl) ?_
                refine lv_istore_n (pc := 128) (lv' := [(3, .int r_32), (2, .int x_9), (5, .int r_32), (4, .int x_9), (0, .ref (mr 0)), (1, .ref (mr 77))]) E.1 E.2.1 dX10_nextHouse_128 rfl hl48 (by decide) rfl (fun ls hl49 => ?_)
                obtain ⟨v_50, ev_50⟩ : ∃ z : Int32, x_9 + Int32.ofInt (1) = z := ⟨_, rfl⟩
                have hv_50 : v_50.toInt = x_9.toInt + (1) := by rw [← ev_50]; exact incE rfl (by decide) (by omega)
                refine lv_iinc (pc := 129) (v := v_50) (lv' := [(4, .int v_50), (3, .int r_32), (2, .int x_9), (5, .int r_32), (0, .ref (mr 0)), (1, .ref (mr 77))]) E.1 E.2.1 dX10_nextHouse_129 hl49 (k := 3) rfl ev_50 (by decide) rfl (fun ls hl51 => ?_)
                refine lv_goto (pc := 132) (tgt := 74) E.1 E.2.1 dX10_nextHouse_132 (by decide) ?_
                exact ih_16 v_50 x_9 r_32 greadings_34 gpmeasured_35 gpmeasuredIn_36 gtstack_37 _ _ _ ⟨(by show 0 ≤ v_50.toInt; omega), (by show v_50.toInt ≤ (mi 29).toInt; omega)⟩ (by omega) hw38 (lv_sub hl51 [0, 1, 2, 4, 5] rfl)
    exact loop_8 (Int.toNat ((mi 29).toInt - 0) + 1) 0 (-1) 0 (mf 6) (mf 38) (mf 39) (mf 52) _ _ _ ⟨(by show 0 ≤ (0 : Int32).toInt; have k_0 : (0 : Int32).toInt = 0 := (by decide +kernel); omega), (by show (0 : Int32).toInt ≤ (mi 29).toInt; have k_0 : (0 : Int32).toInt = 0 := (by decide +kernel); omega)⟩ (by have k_0 : (0 : Int32).toInt = 0 := (by decide +kernel); have k_1 : ((-1) : Int32).toInt = -1 := (by decide +kernel); have k_2 : (0 : Int32).toInt = 0 := (by decide +kernel); omega) hw1 (lv_sub hl7 [0, 1, 2, 3, 4] rfl)
  · skip
    have hc_4 := nleE (a := (mi 69).toInt) (b := (mi 88).toInt) rfl rfl c_4
    refine lv_aload_n (pc := 14) E.1 E.2.1 dX10_nextHouse_14 rfl (lv_at hl3 1 rfl) ?_
    refine x_get (pc := 15) (T := TX4) (N := 12) (ci := 4) (v := .int (mi 88)) E hw1 inX4 50 10 q_230 rfl rfl (by decide) rfl rfl dX10_nextHouse_15 ?_
    refine lv_sipush (pc := 18) (v := 200) E.1 E.2.1 dX10_nextHouse_18 (by decide +kernel) ?_
    refine lv_icmp_ge (pc := 21) (tgt := 67) E.1 E.2.1 dX10_nextHouse_21 (by decide) (fun c_52 => absurd c_52 (mnleE (a := 200) (b := (mi 88).toInt) (by decide +kernel) rfl (by omega))) (fun _ => ?_)
    refine lv_aload_n (pc := 24) E.1 E.2.1 dX10_nextHouse_24 rfl (lv_at hl3 0 rfl) ?_
    refine x_get (pc := 25) (T := TX10) (N := 17) (ci := 10) (v := .ref (mr 67)) E hw1 inX10 0 6 q_474 rfl rfl (by decide) rfl rfl dX10_nextHouse_25 ?_
    refine x_get (pc := 28) (T := TX7) (N := 5) (ci := 7) (v := .ref (mr 68)) E hw1 inX7 43 0 q_420 rfl rfl (by decide) rfl rfl dX10_nextHouse_28 ?_
    refine lv_aload_n (pc := 31) E.1 E.2.1 dX10_nextHouse_31 rfl (lv_at hl3 1 rfl) ?_
    refine x_get (pc := 32) (T := TX4) (N := 12) (ci := 4) (v := .int (mi 88)) E hw1 inX4 50 10 q_230 rfl rfl (by decide) rfl rfl dX10_nextHouse_32 ?_
    refine x_iald (pc := 35) (f := (mf 68)) E hw1 44 rfl (inbE (a := (mi 88).toInt) rfl (by omega)) dX10_nextHouse_35 ?_
    refine lv_topi (fun v_53 ev_53 => ?_)
    refine lv_istore_n (pc := 36) (lv' := [(2, .int v_53), (0, .ref (mr 0)), (1, .ref (mr 77))]) E.1 E.2.1 dX10_nextHouse_36 rfl hl3 (by decide) rfl (fun ls hl54 => ?_)
    refine lv_iload_n (pc := 37) E.1 E.2.1 dX10_nextHouse_37 rfl (lv_at hl54 0 rfl) ?_
    refine lv_iconst (pc := 38) (v := (-1)) E.1 E.2.1 dX10_nextHouse_38 (by decide +kernel) ?_
    refine lv_icmp_eq (pc := 39) (tgt := 62) E.1 E.2.1 dX10_nextHouse_39 (by decide) (fun c_55 => ?_) (fun c_55 => ?_)
    · skip
      have hc_55 := eqE (a := v_53.toInt) (b := (-1)) rfl (by decide +kernel) c_55
      refine lv_aload_n (pc := 62) E.1 E.2.1 dX10_nextHouse_62 rfl (lv_at hl54 2 rfl) ?_
      refine x_get (pc := 63) (T := TX4) (N := 12) (ci := 4) (v := .int (mi 84)) E hw1 inX4 50 6 q_215 rfl rfl (by decide) rfl rfl dX10_nextHouse_63 ?_
      exact em_i (w1 := (fun (u : (Nat → Int32) × (Nat → Int32) × (Nat → Int32) × (Nat → Int32)) => (WZ_VSO cI cJ mv mr mi (va_up (va_up (va_up (va_up mf 6 u.1) 38 u.2.1) 39 u.2.2.1) 52 u.2.2.2) mg))) E hr hlk ((mf 6), (mf 38), (mf 39), (mf 52)) hw1 trivial (Nat.le_of_ble_eq_true rfl) (Nat.le_of_ble_eq_true rfl) dX10_nextHouse_66
    · skip
      have hc_55 := neE (a := v_53.toInt) (b := (-1)) rfl (by decide +kernel) c_55
      refine lv_aload_n (pc := 42) E.1 E.2.1 dX10_nextHouse_42 rfl (lv_at hl54 1 rfl) ?_
      refine lv_aload_n (pc := 43) E.1 E.2.1 dX10_nextHouse_43 rfl (lv_at hl54 2 rfl) ?_
      refine x_get (pc := 44) (T := TX4) (N := 12) (ci := 4) (v := .int (mi 84)) E hw1 inX4 50 6 q_215 rfl rfl (by decide) rfl rfl dX10_nextHouse_44 ?_
      refine lv_iload_n (pc := 47) E.1 E.2.1 dX10_nextHouse_47 rfl (lv_at hl54 0 rfl) ?_
      refine lv_aload_n (pc := 48) E.1 E.2.1 dX10_nextHouse_48 rfl (lv_at hl54 2 rfl) ?_
      refine x_get (pc := 49) (T := TX4) (N := 12) (ci := 4) (v := .int (mi 86)) E hw1 inX4 50 8 q_223 rfl rfl (by decide) rfl rfl dX10_nextHouse_49 ?_
      refine ck_i (pc := 52) (ws' := (fun (u : (Nat → Int32) × (Nat → Int32)) => (WZ_VSO cI cJ mv mr mi (va_up (va_up mf 38 u.1) 39 u.2) mg))) [true, true, true, true, true, true, true, true, true, true, true, true, true, true, true, true, true, true, true, true, true, true, true, true, true, true, true, true, true, true, true, true, true, true, true, true, true, true, true, true, true, true, true, true, true, true, true, true, true, true, false, false, false, false, false, false] hw1 rfl (fun hC_ => (rn_V (As := [.int (mi 84), .int v_53, .int (mi 86)]) (rest := []) E hw1 (t_isReached l D cI cJ _ mr mi mf mg (mi 84) v_53 (mi 86) (vl [mv 0]) h0 h1 h2 a_p_from a_p_to) (gdV q_1012 q_1013 q_1014 q_152 q_1015) hdV_X10_isReached ⟨rfl, rfl⟩ ⟨(Nat.le_of_ble_eq_true rfl), (Nat.le_of_ble_eq_true rfl)⟩ ⟨(Nat.le_of_ble_eq_true rfl), (Nat.le_of_ble_eq_true rfl)⟩ xT_b xT_at 0 10 rfl rfl rfl _ hC_ (nd_T _ 0) rfl hl54.1 rfl (Nat.le_of_ble_eq_true rfl) dX10_nextHouse_52)) rfl (fun _ => rfl) (fun _ => rfl) (fun r_57 u_56 H1 locs hp hw58 => ?_)
      obtain ⟨gpmeasured_59, gpmeasuredIn_60⟩ := u_56
      generalize H1 = H at hw58 ⊢
      have hw61 : WD D A s.heap (WZ_VSO cI cJ mv mr mi (va_up (va_up mf 38 gpmeasured_59) 39 gpmeasuredIn_60) mg) H locs := hw58
      obtain ⟨hp_62, hp_63⟩ := hp
      have hp_62 : 0 ≤ r_57.toInt := hp_62
      have hp_63 : r_57.toInt ≤ 1 := hp_63
      refine lv_if_eq (pc := 55) (tgt := 62) E.1 E.2.1 dX10_nextHouse_55 (by decide) (fun c_64 => ?_) (fun c_64 => ?_)
      · skip
        have hc_64 := eqE (a := r_57.toInt) (b := 0) rfl (by decide +kernel) c_64
        refine lv_aload_n (pc := 62) E.1 E.2.1 dX10_nextHouse_62 rfl (lv_at hl54 2 rfl) ?_
        refine x_get (pc := 63) (T := TX4) (N := 12) (ci := 4) (v := .int (mi 84)) E hw61 inX4 50 6 q_215 rfl rfl (by decide) rfl rfl dX10_nextHouse_63 ?_
        exact em_i (w1 := (fun (u : (Nat → Int32) × (Nat → Int32) × (Nat → Int32) × (Nat → Int32)) => (WZ_VSO cI cJ mv mr mi (va_up (va_up (va_up (va_up mf 6 u.1) 38 u.2.1) 39 u.2.2.1) 52 u.2.2.2) mg))) E hr hlk ((mf 6), gpmeasured_59, gpmeasuredIn_60, (mf 52)) hw61 trivial (Nat.le_of_ble_eq_true rfl) (Nat.le_of_ble_eq_true rfl) dX10_nextHouse_66
      · skip
        have hc_64 := neE (a := r_57.toInt) (b := 0) rfl (by decide +kernel) c_64
        refine lv_iload_n (pc := 58) E.1 E.2.1 dX10_nextHouse_58 rfl (lv_at hl54 0 rfl) ?_
        refine lv_goto (pc := 59) (tgt := 66) E.1 E.2.1 dX10_nextHouse_59 (by decide) ?_
        exact em_i (w1 := (fun (u : (Nat → Int32) × (Nat → Int32) × (Nat → Int32) × (Nat → Int32)) => (WZ_VSO cI cJ mv mr mi (va_up (va_up (va_up (va_up mf 6 u.1) 38 u.2.1) 39 u.2.2.1) 52 u.2.2.2) mg))) E hr hlk ((mf 6), gpmeasured_59, gpmeasuredIn_60, (mf 52)) hw61 trivial (Nat.le_of_ble_eq_true rfl) (Nat.le_of_ble_eq_true rfl) dX10_nextHouse_66
set_option maxHeartbeats 4000000 in
set_option maxRecDepth 100000 in
theorem t_lights (l : Launch) (D : va_G) (cI cJ : ClassId) (sz : Nat) (mr : Nat → Nat) (mi : Nat → Int32) (mf : Nat → Nat → Int32) (mg : Nat → Nat → Int64) (z_h : Int32) (mv : Nat → Value) (h0 : 0 ≤ (mi 29).toInt ∧ (mi 29).toInt ≤ 10) (h1 : 0 ≤ (mi 37).toInt ∧ (mi 37).toInt ≤ 40) (h2 : 0 ≤ (mi 46).toInt ∧ (mi 46).toInt ≤ 10) (h3 : 0 ≤ z_h.toInt ∧ z_h.toInt ≤ 9) : Met l yX10_light (Cond.code yX10_light cX10_light 7 (some .int) :: GW) ({ frames := 2, cells := 0, slots := 0, locals := 63 } : Room) (va_Pc [.ref (mr 0), .ref (mr 77), .int z_h] (PW D cI cJ sz (WZ_VSO cI cJ mv mr mi mf mg) xT)) (va_Qi (fun (r : Int32) (u : (Nat → Int32) × (Nat → Int32) × (Nat → Int32) × (Nat → Int32)) => True) (fun u => QW D cI cJ (va_A (WZ_VSO cI cJ mv mr mi mf mg) sz) ((fun (u : (Nat → Int32) × (Nat → Int32) × (Nat → Int32) × (Nat → Int32)) => (WZ_VSO cI cJ mv mr mi (va_up (va_up (va_up (va_up mf 82 u.1) 80 u.2.1) 81 u.2.2.1) 79 u.2.2.2) mg)) u)) (va_A (WZ_VSO cI cJ mv mr mi mf mg) sz)) 0 0 (va_A (WZ_VSO cI cJ mv mr mi mf mg) sz) := by
  refine mk_met (y := yX10_light) (bytes := cX10_light) (maxL := 7) (avs := [.ref (mr 0), .ref (mr 77), .int z_h]) (WS := (WZ_VSO cI cJ mv mr mi mf mg)) (Qf := fun A => va_Qi (fun (r : Int32) (u : (Nat → Int32) × (Nat → Int32) × (Nat → Int32) × (Nat → Int32)) => True) (fun u => QW D cI cJ A ((fun (u : (Nat → Int32) × (Nat → Int32) × (Nat → Int32) × (Nat → Int32)) => (WZ_VSO cI cJ mv mr mi (va_up (va_up (va_up (va_up mf 82 u.1) 80 u.2.1) 81 u.2.2.1) 79 u.2.2.2) mg)) u)) A) (by decide) (Nat.le_of_ble_eq_true rfl) ?_
  intro p e s m below meth c A ls E hr hlk hnm hX hw1 hl2
  have hl3 : lv_has ls 7 [(0, .ref (mr 0)), (1, .ref (mr 77)), (2, .int z_h)] := hl2
  refine lv_aload_n (pc := 0) E.1 E.2.1 dX10_light_0 rfl (lv_at hl3 1 rfl) ?_
  refine lv_iload_n (pc := 1) E.1 E.2.1 dX10_light_1 rfl (lv_at hl3 2 rfl) ?_
  refine ck_i (pc := 2) (ws' := (fun (u : Unit) => (WZ_VSO cI cJ mv mr mi mf mg))) [false, false, false, false, false, false, false, false, false, false, false, false, false, false, false, false, false, false, false, false, false, false, false, false, false, false, false, false, false, false, false, false, false, false, false, false, false, false, false, false, false, false, false, false, false, false, false, false, false, false, true, true, true, true, true, true] hw1 rfl (fun hC_ => (rn_V (As := [.int z_h]) (rest := []) E hw1 (t_wasLitAhead l D cI cJ _ (shf 77 mr) (shf 77 mi) (shf 77 mf) (shf 77 mg) z_h h3) (gdV q_1073 q_1074 q_1075 q_153 q_1076) hdV_X4_wasLitAhead ⟨rfl, rfl⟩ ⟨(Nat.le_of_ble_eq_true rfl), (Nat.le_of_ble_eq_true rfl)⟩ ⟨(Nat.le_of_ble_eq_true rfl), (Nat.le_of_ble_eq_true rfl)⟩ xT_b xT_at 50 4 rfl rfl rfl _ hC_ (nd_T _ 0) rfl hl3.1 rfl (Nat.le_of_ble_eq_true rfl) dX10_light_2)) rfl (fun _ => rfl) (fun _ => rfl) (fun r_5 u_4 H1 locs hp hw6 => ?_)
  generalize H1 = H at hw6 ⊢
  have hw7 : WD D A s.heap (WZ_VSO cI cJ mv mr mi mf mg) H locs := hw6
  obtain ⟨hp_8, hp_9⟩ := hp
  have hp_8 : 0 ≤ r_5.toInt := hp_8
  have hp_9 : r_5.toInt ≤ 1 := hp_9
  refine lv_istore_n (pc := 5) (lv' := [(3, .int r_5), (0, .ref (mr 0)), (1, .ref (mr 77)), (2, .int z_h)]) E.1 E.2.1 dX10_light_5 rfl hl3 (by decide) rfl (fun ls hl10 => ?_)
  refine lv_iconst (pc := 6) (v := 0) E.1 E.2.1 dX10_light_6 (by decide +kernel) ?_
  refine lv_istore (pc := 7) (lv' := [(4, .int 0), (3, .int r_5), (0, .ref (mr 0)), (1, .ref (mr 77)), (2, .int z_h)]) E.1 E.2.1 dX10_light_7 hl10 (by decide) rfl (fun ls hl11 => ?_)
  refine lv_iconst (pc := 9) (v := 0) E.1 E.2.1 dX10_light_9 (by decide +kernel) ?_
  refine lv_istore (pc := 10) (lv' := [(5, .int 0), (4, .int 0), (3, .int r_5), (0, .ref (mr 0)), (1, .ref (mr 77)), (2, .int z_h)]) E.1 E.2.1 dX10_light_10 hl11 (by decide) rfl (fun ls hl12 => ?_)
  have loop_13 : ∀ (k : Nat) (x_14 : Int32) (x_15 : Int32) (g_16 : Nat → Int32) (H : Heap) (locs : List Loc) (ls : Array Slot), (0 ≤ x_14.toInt) ∧ (x_14.toInt ≤ (mi 46).toInt) → (mi 46).toInt - x_14.toInt < (k : Int) → WD D A s.heap (WZ_VSO cI cJ mv mr mi (va_up mf 82 g_16) mg) H locs → lv_has ls 7 [(5, .int x_14), (4, .int x_15), (3, .int r_5), (0, .ref (mr 0)), (1, .ref (mr 77)), (2, .int z_h)] → W p l e ({ frames := 2, cells := 0, slots := 0, locals := 63 } : Room) s m ([.ref (mr 0), .ref (mr 77), .int z_h] : List Value).toArray below meth c H locs 0 0 (MQ below (va_Qi (fun (r : Int32) (u : (Nat → Int32) × (Nat → Int32) × (Nat → Int32) × (Nat → Int32)) => True) (fun u => QW D cI cJ A ((fun (u : (Nat → Int32) × (Nat → Int32) × (Nat → Int32) × (Nat → Int32)) => (WZ_VSO cI cJ mv mr mi (va_up (va_up (va_up (va_up mf 82 u.1) 80 u.2.1) 81 u.2.2.1) 79 u.2.2.2) mg)) u)) A) ([.ref (mr 0), .ref (mr 77), .int z_h] : List Value).toArray s 0 0 A) (F0 m 12 ls []) := by
    intro k
    induction k with
    | zero =>
      intro x_14 x_15 g_16 _ _ _ hinv hm
      obtain ⟨hi_16_0, hi_16_1⟩ := hinv
      exact absurd hm (by omega)
    | succ k ih_17 =>
      intro x_14 x_15 g_16 H locs ls hinv hm hw18 hl19
      obtain ⟨hi_16_0, hi_16_1⟩ := hinv
      refine lv_iload (pc := 12) E.1 E.2.1 dX10_light_12 (lv_at hl19 0 rfl) ?_
      refine lv_aload_n (pc := 14) E.1 E.2.1 dX10_light_14 rfl (lv_at hl19 3 rfl) ?_
      refine x_get (pc := 15) (T := TX10) (N := 17) (ci := 10) (v := .ref (mr 40)) E hw18 inX10 0 3 q_467 rfl rfl (by decide) rfl rfl dX10_light_15 ?_
      refine x_get (pc := 18) (T := TX3) (N := 6) (ci := 3) (v := .int (mi 46)) E hw18 inX3 27 5 q_364 rfl rfl (by decide) rfl rfl dX10_light_18 ?_
      refine lv_icmp_ge (pc := 21) (tgt := 107) E.1 E.2.1 dX10_light_21 (by decide) (fun c_20 => ?_) (fun c_20 => ?_)
      · skip
        have hc_20 := leE (a := (mi 46).toInt) (b := x_14.toInt) rfl rfl c_20
        refine lv_aload_n (pc := 107) E.1 E.2.1 dX10_light_107 rfl (lv_at hl19 4 rfl) ?_
        refine x_get (pc := 108) (T := TX4) (N := 12) (ci := 4) (v := .ref (mr 80)) E hw18 inX4 50 2 q_198 rfl rfl (by decide) rfl rfl dX10_light_108 ?_
        refine lv_iload_n (pc := 111) E.1 E.2.1 dX10_light_111 rfl (lv_at hl19 5 rfl) ?_
        refine lv_dup2_11 (pc := 112) E.1 E.2.1 dX10_light_112 rfl rfl ?_
        refine x_iald (pc := 113) (f := (mf 80)) E hw18 53 rfl (inbE (a := z_h.toInt) rfl (by omega)) dX10_light_113 ?_
        refine lv_topi (fun v_21 ev_21 => ?_)
        refine lv_iconst (pc := 114) (v := 1) E.1 E.2.1 dX10_light_114 (by decide +kernel) ?_
        refine lv_iadd (pc := 115) E.1 E.2.1 dX10_light_115 ?_
        refine lv_topi (fun v_22 ev_22 => ?_)
        refine x_iastG (pc := 116) (f := (mf 80)) (wf := fun g => (WZ_VSO cI cJ mv mr mi (va_up (va_up mf 80 g) 82 g_16) mg)) E hw18 53 rfl (inbE (a := z_h.toInt) rfl (by omega)) (fun _ => rfl) dX10_light_116 (fun g_23 H locs eg_23 hw24 => ?_)
        refine lv_aload_n (pc := 117) E.1 E.2.1 dX10_light_117 rfl (lv_at hl19 4 rfl) ?_
        refine x_get (pc := 118) (T := TX4) (N := 12) (ci := 4) (v := .ref (mr 81)) E hw24 inX4 50 3 q_201 rfl rfl (by decide) rfl rfl dX10_light_118 ?_
        refine lv_iload_n (pc := 121) E.1 E.2.1 dX10_light_121 rfl (lv_at hl19 5 rfl) ?_
        refine lv_aload_n (pc := 122) E.1 E.2.1 dX10_light_122 rfl (lv_at hl19 4 rfl) ?_
        refine x_get (pc := 123) (T := TX4) (N := 12) (ci := 4) (v := .int (mi 85)) E hw24 inX4 50 7 q_220 rfl rfl (by decide) rfl rfl dX10_light_123 ?_
        refine x_iastG (pc := 126) (f := (mf 81)) (wf := fun g => (WZ_VSO cI cJ mv mr mi (va_up (va_up (va_up mf 80 g_23) 81 g) 82 g_16) mg)) E hw24 54 rfl (inbE (a := z_h.toInt) rfl (by omega)) (fun _ => rfl) dX10_light_126 (fun g_25 H locs eg_25 hw26 => ?_)
        refine lv_aload_n (pc := 127) E.1 E.2.1 dX10_light_127 rfl (lv_at hl19 4 rfl) ?_
        refine x_get (pc := 128) (T := TX4) (N := 12) (ci := 4) (v := .ref (mr 79)) E hw26 inX4 50 1 q_195 rfl rfl (by decide) rfl rfl dX10_light_128 ?_
        refine lv_iload_n (pc := 131) E.1 E.2.1 dX10_light_131 rfl (lv_at hl19 5 rfl) ?_
        refine lv_iconst (pc := 132) (v := 0) E.1 E.2.1 dX10_light_132 (by decide +kernel) ?_
        refine lv_aload_n (pc := 133) E.1 E.2.1 dX10_light_133 rfl (lv_at hl19 4 rfl) ?_
        refine x_get (pc := 134) (T := TX4) (N := 12) (ci := 4) (v := .ref (mr 79)) E hw26 inX4 50 1 q_195 rfl rfl (by decide) rfl rfl dX10_light_134 ?_
        refine lv_iload_n (pc := 137) E.1 E.2.1 dX10_light_137 rfl (lv_at hl19 5 rfl) ?_
        refine x_iald (pc := 138) (f := (mf 79)) E hw26 52 rfl (inbE (a := z_h.toInt) rfl (by omega)) dX10_light_138 ?_
        refine lv_topi (fun v_27 ev_27 => ?_)
        refine lv_iconst (pc := 139) (v := 1) E.1 E.2.1 dX10_light_139 (by decide +kernel) ?_
        refine lv_isub (pc := 140) E.1 E.2.1 dX10_light_140 ?_
        refine lv_topi (fun v_28 ev_28 => ?_)
        refine x_max (pc := 141) E hl19.1 q_1068 q_805 q_167 q_806 (Nat.le_of_ble_eq_true rfl) (Nat.le_of_ble_eq_true rfl) (Nat.le_of_ble_eq_true rfl) (Nat.le_of_ble_eq_true rfl) dX10_light_141 (fun v_29 hv_29 => ?_)
        rw [show (0 : Int32).toInt = 0 from by decide +kernel] at hv_29
        have hv_29a : 0 ≤ v_29.toInt ∧ v_28.toInt ≤ v_29.toInt := by omega
        clear hv_29
        refine x_iastG (pc := 144) (f := (mf 79)) (wf := fun g => (WZ_VSO cI cJ mv mr mi (va_up (va_up (va_up (va_up mf 79 g) 80 g_23) 81 g_25) 82 g_16) mg)) E hw26 52 rfl (inbE (a := z_h.toInt) rfl (by omega)) (fun _ => rfl) dX10_light_144 (fun g_30 H locs eg_30 hw31 => ?_)
        refine lv_iload (pc := 145) E.1 E.2.1 dX10_light_145 (lv_at hl19 1 rfl) ?_
        exact em_i (w1 := (fun (u : (Nat → Int32) × (Nat → Int32) × (Nat → Int32) × (Nat → Int32)) => (WZ_VSO cI cJ mv mr mi (va_up (va_up (va_up (va_up mf 82 u.1) 80 u.2.1) 81 u.2.2.1) 79 u.2.2.2) mg))) E hr hlk (g_16, g_23, g_25, g_30) hw31 trivial (Nat.le_of_ble_eq_true rfl) (Nat.le_of_ble_eq_true rfl) dX10_light_147
      · skip
        have hc_20 := nleE (a := (mi 46).toInt) (b := x_14.toInt) rfl rfl c_20
        refine lv_aload_n (pc := 24) E.1 E.2.1 dX10_light_24 rfl (lv_at hl19 3 rfl) ?_
        refine x_get (pc := 25) (T := TX10) (N := 17) (ci := 10) (v := .ref (mr 40)) E hw18 inX10 0 3 q_467 rfl rfl (by decide) rfl rfl dX10_light_25 ?_
        refine x_get (pc := 28) (T := TX3) (N := 6) (ci := 3) (v := .ref (mr 41)) E hw18 inX3 27 0 q_345 rfl rfl (by decide) rfl rfl dX10_light_28 ?_
        refine lv_iload (pc := 31) E.1 E.2.1 dX10_light_31 (lv_at hl19 0 rfl) ?_
        refine x_iald (pc := 33) (f := (mf 41)) E hw18 28 rfl (inbE (a := x_14.toInt) rfl (by omega)) dX10_light_33 ?_
        refine lv_topi (fun v_32 ev_32 => ?_)
        refine lv_iconst (pc := 34) (v := 3) E.1 E.2.1 dX10_light_34 (by decide +kernel) ?_
        refine lv_icmp_ne (pc := 35) (tgt := 42) E.1 E.2.1 dX10_light_35 (by decide) (fun c_33 => ?_) (fun c_33 => ?_)
        · skip
          have hc_33 := neE (a := v_32.toInt) (b := 3) rfl (by decide +kernel) c_33
          refine lv_iconst (pc := 42) (v := 1) E.1 E.2.1 dX10_light_42 (by decide +kernel) ?_
          refine lv_goto (pc := 43) (tgt := 47) E.1 E.2.1 dX10_light_43 (by decide) ?_
          refine lv_istore (pc := 47) (lv' := [(6, .int 1), (5, .int x_14), (4, .int x_15), (3, .int r_5), (0, .ref (mr 0)), (1, .ref (mr 77)), (2, .int z_h)]) E.1 E.2.1 dX10_light_47 hl19 (by decide) rfl (fun ls hl34 => ?_)
          refine lv_aload_n (pc := 49) E.1 E.2.1 dX10_light_49 rfl (lv_at hl34 4 rfl) ?_
          refine x_get (pc := 50) (T := TX10) (N := 17) (ci := 10) (v := .ref (mr 40)) E hw18 inX10 0 3 q_467 rfl rfl (by decide) rfl rfl dX10_light_50 ?_
          refine x_get (pc := 53) (T := TX3) (N := 6) (ci := 3) (v := .ref (mr 42)) E hw18 inX3 27 1 q_349 rfl rfl (by decide) rfl rfl dX10_light_53 ?_
          refine lv_iload (pc := 56) E.1 E.2.1 dX10_light_56 (lv_at hl34 1 rfl) ?_
          refine x_iald (pc := 58) (f := (mf 42)) E hw18 29 rfl (inbE (a := x_14.toInt) rfl (by omega)) dX10_light_58 ?_
          refine lv_topi (fun v_35 ev_35 => ?_)
          refine lv_iload_n (pc := 59) E.1 E.2.1 dX10_light_59 rfl (lv_at hl34 6 rfl) ?_
          refine lv_icmp_ne (pc := 60) (tgt := 101) E.1 E.2.1 dX10_light_60 (by decide) (fun c_36 => ?_) (fun c_36 => ?_)
          · skip
            have hc_36 := neE (a := v_35.toInt) (b := z_h.toInt) rfl rfl c_36
            obtain ⟨v_37, ev_37⟩ : ∃ z : Int32, x_14 + Int32.ofInt (1) = z := ⟨_, rfl⟩
            have hv_37 : v_37.toInt = x_14.toInt + (1) := by rw [← ev_37]; exact incE rfl (by decide) (by omega)
            refine lv_iinc (pc := 101) (v := v_37) (lv' := [(5, .int v_37), (6, .int 1), (4, .int x_15), (3, .int r_5), (0, .ref (mr 0)), (1, .ref (mr 77)), (2, .int z_h)]) E.1 E.2.1 dX10_light_101 hl34 (k := 1) rfl ev_37 (by decide) rfl (fun ls hl38 => ?_)
            refine lv_goto (pc := 104) (tgt := 12) E.1 E.2.1 dX10_light_104 (by decide) ?_
            exact ih_17 v_37 x_15 g_16 _ _ _ ⟨(by show 0 ≤ v_37.toInt; omega), (by show v_37.toInt ≤ (mi 46).toInt; omega)⟩ (by omega) hw18 (lv_sub hl38 [0, 2, 3, 4, 5, 6] rfl)
          · skip
            have hc_36 := eqE (a := v_35.toInt) (b := z_h.toInt) rfl rfl c_36
            refine lv_aload_n (pc := 63) E.1 E.2.1 dX10_light_63 rfl (lv_at hl34 4 rfl) ?_
            refine x_get (pc := 64) (T := TX10) (N := 17) (ci := 10) (v := .ref (mr 40)) E hw18 inX10 0 3 q_467 rfl rfl (by decide) rfl rfl dX10_light_64 ?_
            refine lv_iload (pc := 67) E.1 E.2.1 dX10_light_67 (lv_at hl34 1 rfl) ?_
            refine lv_aload_n (pc := 69) E.1 E.2.1 dX10_light_69 rfl (lv_at hl34 5 rfl) ?_
            refine ck_i (pc := 70) (ws' := (fun (u : Unit) => (WZ_VSO cI cJ mv mr mi (va_up mf 82 g_16) mg))) [false, false, false, false, false, false, false, false, false, false, false, false, false, false, false, false, false, false, false, false, false, false, false, false, false, false, false, true, true, true, true, true, true, false, false, false, false, false, false, false, false, false, false, false, false, false, false, false, false, false, true, true, true, true, true, true] hw18 rfl (fun hC_ => (rn_V (As := [.int x_14, .ref (mr 77)]) (rest := []) E hw18 (t_isOpen l D cI cJ _ (shg 7 40 70 mr) (shg 7 40 70 mi) (shg 7 40 70 (va_up mf 82 g_16)) (shg 7 40 70 mg) x_14 (by show 0 ≤ x_14.toInt ∧ x_14.toInt ≤ 9; omega)) (gdV q_1077 q_1045 q_1046 q_156 q_1047) hdV_X3_isOpen ⟨rfl, rfl⟩ ⟨(Nat.le_of_ble_eq_true rfl), (Nat.le_of_ble_eq_true rfl)⟩ ⟨(Nat.le_of_ble_eq_true rfl), (Nat.le_of_ble_eq_true rfl)⟩ xT_b xT_at 27 3 rfl rfl rfl _ hC_ (nd_T _ 0) rfl hl34.1 rfl (Nat.le_of_ble_eq_true rfl) dX10_light_70)) rfl (fun _ => rfl) (fun _ => rfl) (fun r_40 u_39 H1 locs hp hw41 => ?_)
            generalize H1 = H at hw41 ⊢
            have hw42 : WD D A s.heap (WZ_VSO cI cJ mv mr mi (va_up mf 82 g_16) mg) H locs := hw41
            obtain ⟨hp_43, hp_44⟩ := hp
            have hp_43 : 0 ≤ r_40.toInt := hp_43
            have hp_44 : r_40.toInt ≤ 1 := hp_44
            refine lv_if_eq (pc := 73) (tgt := 101) E.1 E.2.1 dX10_light_73 (by decide) (fun c_45 => ?_) (fun c_45 => ?_)
            · skip
              have hc_45 := eqE (a := r_40.toInt) (b := 0) rfl (by decide +kernel) c_45
              obtain ⟨v_46, ev_46⟩ : ∃ z : Int32, x_14 + Int32.ofInt (1) = z := ⟨_, rfl⟩
              have hv_46 : v_46.toInt = x_14.toInt + (1) := by rw [← ev_46]; exact incE rfl (by decide) (by omega)
              refine lv_iinc (pc := 101) (v := v_46) (lv' := [(5, .int v_46), (6, .int 1), (4, .int x_15), (3, .int r_5), (0, .ref (mr 0)), (1, .ref (mr 77)), (2, .int z_h)]) E.1 E.2.1 dX10_light_101 hl34 (k := 1) rfl ev_46 (by decide) rfl (fun ls hl47 => ?_)
              refine lv_goto (pc := 104) (tgt := 12) E.1 E.2.1 dX10_light_104 (by decide) ?_
              exact ih_17 v_46 x_15 g_16 _ _ _ ⟨(by show 0 ≤ v_46.toInt; omega), (by show v_46.toInt ≤ (mi 46).toInt; omega)⟩ (by omega) hw42 (lv_sub hl47 [0, 2, 3, 4, 5, 6] rfl)
            · skip
              have hc_45 := neE (a := r_40.toInt) (b := 0) rfl (by decide +kernel) c_45
              refine lv_iload (pc := 76) E.1 E.2.1 dX10_light_76 (lv_at hl34 0 rfl) ?_
              refine lv_if_eq (pc := 78) (tgt := 101) E.1 E.2.1 dX10_light_78 (by decide) (fun c_48 => absurd c_48 (mneE (a := 1) (b := 0) (by decide +kernel) (by decide +kernel) (by omega))) (fun _ => ?_)
              refine lv_aload_n (pc := 81) E.1 E.2.1 dX10_light_81 rfl (lv_at hl34 5 rfl) ?_
              refine x_get (pc := 82) (T := TX4) (N := 12) (ci := 4) (v := .ref (mr 82)) E hw42 inX4 50 4 q_206 rfl rfl (by decide) rfl rfl dX10_light_82 ?_
              refine lv_iload (pc := 85) E.1 E.2.1 dX10_light_85 (lv_at hl34 1 rfl) ?_
              refine lv_aload_n (pc := 87) E.1 E.2.1 dX10_light_87 rfl (lv_at hl34 5 rfl) ?_
              refine x_get (pc := 88) (T := TX4) (N := 12) (ci := 4) (v := .int (mi 85)) E hw42 inX4 50 7 q_220 rfl rfl (by decide) rfl rfl dX10_light_88 ?_
              refine x_iastG (pc := 91) (f := g_16) (wf := fun g => (WZ_VSO cI cJ mv mr mi (va_up mf 82 g) mg)) E hw42 55 rfl (inbE (a := x_14.toInt) rfl (by omega)) (fun _ => rfl) dX10_light_91 (fun g_49 H locs eg_49 hw50 => ?_)
              refine lv_iload (pc := 92) E.1 E.2.1 dX10_light_92 (lv_at hl34 2 rfl) ?_
              refine lv_iconst (pc := 94) (v := 1) E.1 E.2.1 dX10_light_94 (by decide +kernel) ?_
              refine lv_iload (pc := 95) E.1 E.2.1 dX10_light_95 (lv_at hl34 1 rfl) ?_
              refine lv_ishl (pc := 97) E.1 E.2.1 dX10_light_97 ?_
              refine lv_topi (fun v_51 ev_51 => ?_)
              have hb1v_51 : 1 ≤ v_51.toInt ∧ v_51.toInt ≤ 512 := by rw [ev_51]; exact shl9 (by omega)
              refine lv_ior (pc := 98) E.1 E.2.1 dX10_light_98 ?_
              refine lv_topi (fun v_52 ev_52 => ?_)
              refine lv_istore (pc := 99) (lv' := [(4, .int v_52), (6, .int 1), (5, .int x_14), (3, .int r_5), (0, .ref (mr 0)), (1, .ref (mr 77)), (2, .int z_h)]) E.1 E.2.1 dX10_light_99 hl34 (by decide) rfl (fun ls hl53 => ?_)
              obtain ⟨v_54, ev_54⟩ : ∃ z : Int32, x_14 + Int32.ofInt (1) = z := ⟨_, rfl⟩
              have hv_54 : v_54.toInt = x_14.toInt + (1) := by rw [← ev_54]; exact incE rfl (by decide) (by omega)
              refine lv_iinc (pc := 101) (v := v_54) (lv' := [(5, .int v_54), (4, .int v_52), (6, .int 1), (3, .int r_5), (0, .ref (mr 0)), (1, .ref (mr 77)), (2, .int z_h)]) E.1 E.2.1 dX10_light_101 hl53 (k := 2) rfl ev_54 (by decide) rfl (fun ls hl55 => ?_)
              refine lv_goto (pc := 104) (tgt := 12) E.1 E.2.1 dX10_light_104 (by decide) ?_
              exact ih_17 v_54 v_52 g_49 _ _ _ ⟨(by show 0 ≤ v_54.toInt; omega), (by show v_54.toInt ≤ (mi 46).toInt; omega)⟩ (by omega) hw50 (lv_sub hl55 [0, 1, 3, 4, 5, 6] rfl)
        · skip
          have hc_33 := eqE (a := v_32.toInt) (b := 3) rfl (by decide +kernel) c_33
          refine lv_iload_n (pc := 38) E.1 E.2.1 dX10_light_38 rfl (lv_at hl19 2 rfl) ?_
          refine lv_if_eq (pc := 39) (tgt := 46) E.1 E.2.1 dX10_light_39 (by decide) (fun c_56 => ?_) (fun c_56 => ?_)
          · skip
            have hc_56 := eqE (a := r_5.toInt) (b := 0) rfl (by decide +kernel) c_56
            refine lv_iconst (pc := 46) (v := 0) E.1 E.2.1 dX10_light_46 (by decide +kernel) ?_
            refine lv_istore (pc := 47) (lv' := [(6, .int 0), (5, .int x_14), (4, .int x_15), (3, .int r_5), (0, .ref (mr 0)), (1, .ref (mr 77)), (2, .int z_h)]) E.1 E.2.1 dX10_light_47 hl19 (by decide) rfl (fun ls hl57 => ?_)
            refine lv_aload_n (pc := 49) E.1 E.2.1 dX10_light_49 rfl (lv_at hl57 4 rfl) ?_
            refine x_get (pc := 50) (T := TX10) (N := 17) (ci := 10) (v := .ref (mr 40)) E hw18 inX10 0 3 q_467 rfl rfl (by decide) rfl rfl dX10_light_50 ?_
            refine x_get (pc := 53) (T := TX3) (N := 6) (ci := 3) (v := .ref (mr 42)) E hw18 inX3 27 1 q_349 rfl rfl (by decide) rfl rfl dX10_light_53 ?_
            refine lv_iload (pc := 56) E.1 E.2.1 dX10_light_56 (lv_at hl57 1 rfl) ?_
            refine x_iald (pc := 58) (f := (mf 42)) E hw18 29 rfl (inbE (a := x_14.toInt) rfl (by omega)) dX10_light_58 ?_
            refine lv_topi (fun v_58 ev_58 => ?_)
            refine lv_iload_n (pc := 59) E.1 E.2.1 dX10_light_59 rfl (lv_at hl57 6 rfl) ?_
            refine lv_icmp_ne (pc := 60) (tgt := 101) E.1 E.2.1 dX10_light_60 (by decide) (fun c_59 => ?_) (fun c_59 => ?_)
            · skip
              have hc_59 := neE (a := v_58.toInt) (b := z_h.toInt) rfl rfl c_59
              obtain ⟨v_60, ev_60⟩ : ∃ z : Int32, x_14 + Int32.ofInt (1) = z := ⟨_, rfl⟩
              have hv_60 : v_60.toInt = x_14.toInt + (1) := by rw [← ev_60]; exact incE rfl (by decide) (by omega)
              refine lv_iinc (pc := 101) (v := v_60) (lv' := [(5, .int v_60), (6, .int 0), (4, .int x_15), (3, .int r_5), (0, .ref (mr 0)), (1, .ref (mr 77)), (2, .int z_h)]) E.1 E.2.1 dX10_light_101 hl57 (k := 1) rfl ev_60 (by decide) rfl (fun ls hl61 => ?_)
              refine lv_goto (pc := 104) (tgt := 12) E.1 E.2.1 dX10_light_104 (by decide) ?_
              exact ih_17 v_60 x_15 g_16 _ _ _ ⟨(by show 0 ≤ v_60.toInt; omega), (by show v_60.toInt ≤ (mi 46).toInt; omega)⟩ (by omega) hw18 (lv_sub hl61 [0, 2, 3, 4, 5, 6] rfl)
            · skip
              have hc_59 := eqE (a := v_58.toInt) (b := z_h.toInt) rfl rfl c_59
              refine lv_aload_n (pc := 63) E.1 E.2.1 dX10_light_63 rfl (lv_at hl57 4 rfl) ?_
              refine x_get (pc := 64) (T := TX10) (N := 17) (ci := 10) (v := .ref (mr 40)) E hw18 inX10 0 3 q_467 rfl rfl (by decide) rfl rfl dX10_light_64 ?_
              refine lv_iload (pc := 67) E.1 E.2.1 dX10_light_67 (lv_at hl57 1 rfl) ?_
              refine lv_aload_n (pc := 69) E.1 E.2.1 dX10_light_69 rfl (lv_at hl57 5 rfl) ?_
              refine ck_i (pc := 70) (ws' := (fun (u : Unit) => (WZ_VSO cI cJ mv mr mi (va_up mf 82 g_16) mg))) [false, false, false, false, false, false, false, false, false, false, false, false, false, false, false, false, false, false, false, false, false, false, false, false, false, false, false, true, true, true, true, true, true, false, false, false, false, false, false, false, false, false, false, false, false, false, false, false, false, false, true, true, true, true, true, true] hw18 rfl (fun hC_ => (rn_V (As := [.int x_14, .ref (mr 77)]) (rest := []) E hw18 (t_isOpen l D cI cJ _ (shg 7 40 70 mr) (shg 7 40 70 mi) (shg 7 40 70 (va_up mf 82 g_16)) (shg 7 40 70 mg) x_14 (by show 0 ≤ x_14.toInt ∧ x_14.toInt ≤ 9; omega)) (gdV q_1077 q_1045 q_1046 q_156 q_1047) hdV_X3_isOpen ⟨rfl, rfl⟩ ⟨(Nat.le_of_ble_eq_true rfl), (Nat.le_of_ble_eq_true rfl)⟩ ⟨(Nat.le_of_ble_eq_true rfl), (Nat.le_of_ble_eq_true rfl)⟩ xT_b xT_at 27 3 rfl rfl rfl _ hC_ (nd_T _ 0) rfl hl57.1 rfl (Nat.le_of_ble_eq_true rfl) dX10_light_70)) rfl (fun _ => rfl) (fun _ => rfl) (fun r_63 u_62 H1 locs hp hw64 => ?_)
              generalize H1 = H at hw64 ⊢
              have hw65 : WD D A s.heap (WZ_VSO cI cJ mv mr mi (va_up mf 82 g_16) mg) H locs := hw64
              obtain ⟨hp_66, hp_67⟩ := hp
              have hp_66 : 0 ≤ r_63.toInt := hp_66
              have hp_67 : r_63.toInt ≤ 1 := hp_67
              refine lv_if_eq (pc := 73) (tgt := 101) E.1 E.2.1 dX10_light_73 (by decide) (fun c_68 => ?_) (fun c_68 => ?_)
              · skip
                have hc_68 := eqE (a := r_63.toInt) (b := 0) rfl (by decide +kernel) c_68
                obtain ⟨v_69, ev_69⟩ : ∃ z : Int32, x_14 + Int32.ofInt (1) = z := ⟨_, rfl⟩
                have hv_69 : v_69.toInt = x_14.toInt + (1) := by rw [← ev_69]; exact incE rfl (by decide) (by omega)
                refine lv_iinc (pc := 101) (v := v_69) (lv' := [(5, .int v_69), (6, .int 0), (4, .int x_15), (3, .int r_5), (0, .ref (mr 0)), (1, .ref (mr 77)), (2, .int z_h)]) E.1 E.2.1 dX10_light_101 hl57 (k := 1) rfl ev_69 (by decide) rfl (fun ls hl70 => ?_)
                refine lv_goto (pc := 104) (tgt := 12) E.1 E.2.1 dX10_light_104 (by decide) ?_
                exact ih_17 v_69 x_15 g_16 _ _ _ ⟨(by show 0 ≤ v_69.toInt; omega), (by show v_69.toInt ≤ (mi 46).toInt; omega)⟩ (by omega) hw65 (lv_sub hl70 [0, 2, 3, 4, 5, 6] rfl)
              · skip
                have hc_68 := neE (a := r_63.toInt) (b := 0) rfl (by decide +kernel) c_68
                refine lv_iload (pc := 76) E.1 E.2.1 dX10_light_76 (lv_at hl57 0 rfl) ?_
                refine lv_if_eq (pc := 78) (tgt := 101) E.1 E.2.1 dX10_light_78 (by decide) (fun _ => ?_) (fun c_71 => absurd (meqE (a := 0) (b := 0) (by decide +kernel) (by decide +kernel) (by omega)) c_71)
                obtain ⟨v_72, ev_72⟩ : ∃ z : Int32, x_14 + Int32.ofInt (1) = z := ⟨_, rfl⟩
                have hv_72 : v_72.toInt = x_14.toInt + (1) := by rw [← ev_72]; exact incE rfl (by decide) (by omega)
                refine lv_iinc (pc := 101) (v := v_72) (lv' := [(5, .int v_72), (6, .int 0), (4, .int x_15), (3, .int r_5), (0, .ref (mr 0)), (1, .ref (mr 77)), (2, .int z_h)]) E.1 E.2.1 dX10_light_101 hl57 (k := 1) rfl ev_72 (by decide) rfl (fun ls hl73 => ?_)
                refine lv_goto (pc := 104) (tgt := 12) E.1 E.2.1 dX10_light_104 (by decide) ?_
                exact ih_17 v_72 x_15 g_16 _ _ _ ⟨(by show 0 ≤ v_72.toInt; omega), (by show v_72.toInt ≤ (mi 46).toInt; omega)⟩ (by omega) hw65 (lv_sub hl73 [0, 2, 3, 4, 5, 6] rfl)
          · skip
            have hc_56 := neE (a := r_5.toInt) (b := 0) rfl (by decide +kernel) c_56
            refine lv_iconst (pc := 42) (v := 1) E.1 E.2.1 dX10_light_42 (by decide +kernel) ?_
            refine lv_goto (pc := 43) (tgt := 47) E.1 E.2.1 dX10_light_43 (by decide) ?_
            refine lv_istore (pc := 47) (lv' := [(6, .int 1), (5, .int x_14), (4, .int x_15), (3, .int r_5), (0, .ref (mr 0)), (1, .ref (mr 77)), (2, .int z_h)]) E.1 E.2.1 dX10_light_47 hl19 (by decide) rfl (fun ls hl74 => ?_)
            refine lv_aload_n (pc := 49) E.1 E.2.1 dX10_light_49 rfl (lv_at hl74 4 rfl) ?_
            refine x_get (pc := 50) (T := TX10) (N := 17) (ci := 10) (v := .ref (mr 40)) E hw18 inX10 0 3 q_467 rfl rfl (by decide) rfl rfl dX10_light_50 ?_
            refine x_get (pc := 53) (T := TX3) (N := 6) (ci := 3) (v := .ref (mr 42)) E hw18 inX3 27 1 q_349 rfl rfl (by decide) rfl rfl dX10_light_53 ?_
            refine lv_iload (pc := 56) E.1 E.2.1 dX10_light_56 (lv_at hl74 1 rfl) ?_
            refine x_iald (pc := 58) (f := (mf 42)) E hw18 29 rfl (inbE (a := x_14.toInt) rfl (by omega)) dX10_light_58 ?_
            refine lv_topi (fun v_75 ev_75 => ?_)
            refine lv_iload_n (pc := 59) E.1 E.2.1 dX10_light_59 rfl (lv_at hl74 6 rfl) ?_
            refine lv_icmp_ne (pc := 60) (tgt := 101) E.1 E.2.1 dX10_light_60 (by decide) (fun c_76 => ?_) (fun c_76 => ?_)
            · skip
              have hc_76 := neE (a := v_75.toInt) (b := z_h.toInt) rfl rfl c_76
              obtain ⟨v_77, ev_77⟩ : ∃ z : Int32, x_14 + Int32.ofInt (1) = z := ⟨_, rfl⟩
              have hv_77 : v_77.toInt = x_14.toInt + (1) := by rw [← ev_77]; exact incE rfl (by decide) (by omega)
              refine lv_iinc (pc := 101) (v := v_77) (lv' := [(5, .int v_77), (6, .int 1), (4, .int x_15), (3, .int r_5), (0, .ref (mr 0)), (1, .ref (mr 77)), (2, .int z_h)]) E.1 E.2.1 dX10_light_101 hl74 (k := 1) rfl ev_77 (by decide) rfl (fun ls hl78 => ?_)
              refine lv_goto (pc := 104) (tgt := 12) E.1 E.2.1 dX10_light_104 (by decide) ?_
              exact ih_17 v_77 x_15 g_16 _ _ _ ⟨(by show 0 ≤ v_77.toInt; omega), (by show v_77.toInt ≤ (mi 46).toInt; omega)⟩ (by omega) hw18 (lv_sub hl78 [0, 2, 3, 4, 5, 6] rfl)
            · skip
              have hc_76 := eqE (a := v_75.toInt) (b := z_h.toInt) rfl rfl c_76
              refine lv_aload_n (pc := 63) E.1 E.2.1 dX10_light_63 rfl (lv_at hl74 4 rfl) ?_
              refine x_get (pc := 64) (T := TX10) (N := 17) (ci := 10) (v := .ref (mr 40)) E hw18 inX10 0 3 q_467 rfl rfl (by decide) rfl rfl dX10_light_64 ?_
              refine lv_iload (pc := 67) E.1 E.2.1 dX10_light_67 (lv_at hl74 1 rfl) ?_
              refine lv_aload_n (pc := 69) E.1 E.2.1 dX10_light_69 rfl (lv_at hl74 5 rfl) ?_
              refine ck_i (pc := 70) (ws' := (fun (u : Unit) => (WZ_VSO cI cJ mv mr mi (va_up mf 82 g_16) mg))) [false, false, false, false, false, false, false, false, false, false, false, false, false, false, false, false, false, false, false, false, false, false, false, false, false, false, false, true, true, true, true, true, true, false, false, false, false, false, false, false, false, false, false, false, false, false, false, false, false, false, true, true, true, true, true, true] hw18 rfl (fun hC_ => (rn_V (As := [.int x_14, .ref (mr 77)]) (rest := []) E hw18 (t_isOpen l D cI cJ _ (shg 7 40 70 mr) (shg 7 40 70 mi) (shg 7 40 70 (va_up mf 82 g_16)) (shg 7 40 70 mg) x_14 (by show 0 ≤ x_14.toInt ∧ x_14.toInt ≤ 9; omega)) (gdV q_1077 q_1045 q_1046 q_156 q_1047) hdV_X3_isOpen ⟨rfl, rfl⟩ ⟨(Nat.le_of_ble_eq_true rfl), (Nat.le_of_ble_eq_true rfl)⟩ ⟨(Nat.le_of_ble_eq_true rfl), (Nat.le_of_ble_eq_true rfl)⟩ xT_b xT_at 27 3 rfl rfl rfl _ hC_ (nd_T _ 0) rfl hl74.1 rfl (Nat.le_of_ble_eq_true rfl) dX10_light_70)) rfl (fun _ => rfl) (fun _ => rfl) (fun r_80 u_79 H1 locs hp hw81 => ?_)
              generalize H1 = H at hw81 ⊢
              have hw82 : WD D A s.heap (WZ_VSO cI cJ mv mr mi (va_up mf 82 g_16) mg) H locs := hw81
              obtain ⟨hp_83, hp_84⟩ := hp
              have hp_83 : 0 ≤ r_80.toInt := hp_83
              have hp_84 : r_80.toInt ≤ 1 := hp_84
              refine lv_if_eq (pc := 73) (tgt := 101) E.1 E.2.1 dX10_light_73 (by decide) (fun c_85 => ?_) (fun c_85 => ?_)
              · skip
                have hc_85 := eqE (a := r_80.toInt) (b := 0) rfl (by decide +kernel) c_85
                obtain ⟨v_86, ev_86⟩ : ∃ z : Int32, x_14 + Int32.ofInt (1) = z := ⟨_, rfl⟩
                have hv_86 : v_86.toInt = x_14.toInt + (1) := by rw [← ev_86]; exact incE rfl (by decide) (by omega)
                refine lv_iinc (pc := 101) (v := v_86) (lv' := [(5, .int v_86), (6, .int 1), (4, .int x_15), (3, .int r_5), (0, .ref (mr 0)), (1, .ref (mr 77)), (2, .int z_h)]) E.1 E.2.1 dX10_light_101 hl74 (k := 1) rfl ev_86 (by decide) rfl (fun ls hl87 => ?_)
                refine lv_goto (pc := 104) (tgt := 12) E.1 E.2.1 dX10_light_104 (by decide) ?_
                exact ih_17 v_86 x_15 g_16 _ _ _ ⟨(by show 0 ≤ v_86.toInt; omega), (by show v_86.toInt ≤ (mi 46).toInt; omega)⟩ (by omega) hw82 (lv_sub hl87 [0, 2, 3, 4, 5, 6] rfl)
              · skip
                have hc_85 := neE (a := r_80.toInt) (b := 0) rfl (by decide +kernel) c_85
                refine lv_iload (pc := 76) E.1 E.2.1 dX10_light_76 (lv_at hl74 0 rfl) ?_
                refine lv_if_eq (pc := 78) (tgt := 101) E.1 E.2.1 dX10_light_78 (by decide) (fun c_88 => absurd c_88 (mneE (a := 1) (b := 0) (by decide +kernel) (by decide +kernel) (by omega))) (fun _ => ?_)
                refine lv_aload_n (pc := 81) E.1 E.2.1 dX10_light_81 rfl (lv_at hl74 5 rfl) ?_
                refine x_get (pc := 82) (T := TX4) (N := 12) (ci := 4) (v := .ref (mr 82)) E hw82 inX4 50 4 q_206 rfl rfl (by decide) rfl rfl dX10_light_82 ?_
                refine lv_iload (pc := 85) E.1 E.2.1 dX10_light_85 (lv_at hl74 1 rfl) ?_
                refine lv_aload_n (pc := 87) E.1 E.2.1 dX10_light_87 rfl (lv_at hl74 5 rfl) ?_
                refine x_get (pc := 88) (T := TX4) (N := 12) (ci := 4) (v := .int (mi 85)) E hw82 inX4 50 7 q_220 rfl rfl (by decide) rfl rfl dX10_light_88 ?_
                refine x_iastG (pc := 91) (f := g_16) (wf := fun g => (WZ_VSO cI cJ mv mr mi (va_up mf 82 g) mg)) E hw82 55 rfl (inbE (a := x_14.toInt) rfl (by omega)) (fun _ => rfl) dX10_light_91 (fun g_89 H locs eg_89 hw90 => ?_)
                refine lv_iload (pc := 92) E.1 E.2.1 dX10_light_92 (lv_at hl74 2 rfl) ?_
                refine lv_iconst (pc := 94) (v := 1) E.1 E.2.1 dX10_light_94 (by decide +kernel) ?_
                refine lv_iload (pc := 95) E.1 E.2.1 dX10_light_95 (lv_at hl74 1 rfl) ?_
                refine lv_ishl (pc := 97) E.1 E.2.1 dX10_light_97 ?_
                refine lv_topi (fun v_91 ev_91 => ?_)
                have hb1v_91 : 1 ≤ v_91.toInt ∧ v_91.toInt ≤ 512 := by rw [ev_91]; exact shl9 (by omega)
                refine lv_ior (pc := 98) E.1 E.2.1 dX10_light_98 ?_
                refine lv_topi (fun v_92 ev_92 => ?_)
                refine lv_istore (pc := 99) (lv' := [(4, .int v_92), (6, .int 1), (5, .int x_14), (3, .int r_5), (0, .ref (mr 0)), (1, .ref (mr 77)), (2, .int z_h)]) E.1 E.2.1 dX10_light_99 hl74 (by decide) rfl (fun ls hl93 => ?_)
                obtain ⟨v_94, ev_94⟩ : ∃ z : Int32, x_14 + Int32.ofInt (1) = z := ⟨_, rfl⟩
                have hv_94 : v_94.toInt = x_14.toInt + (1) := by rw [← ev_94]; exact incE rfl (by decide) (by omega)
                refine lv_iinc (pc := 101) (v := v_94) (lv' := [(5, .int v_94), (4, .int v_92), (6, .int 1), (3, .int r_5), (0, .ref (mr 0)), (1, .ref (mr 77)), (2, .int z_h)]) E.1 E.2.1 dX10_light_101 hl93 (k := 2) rfl ev_94 (by decide) rfl (fun ls hl95 => ?_)
                refine lv_goto (pc := 104) (tgt := 12) E.1 E.2.1 dX10_light_104 (by decide) ?_
                exact ih_17 v_94 v_92 g_89 _ _ _ ⟨(by show 0 ≤ v_94.toInt; omega), (by show v_94.toInt ≤ (mi 46).toInt; omega)⟩ (by omega) hw90 (lv_sub hl95 [0, 1, 3, 4, 5, 6] rfl)
  exact loop_13 (Int.toNat ((mi 46).toInt - 0) + 1) 0 0 (mf 82) _ _ _ ⟨(by show 0 ≤ (0 : Int32).toInt; have k_0 : (0 : Int32).toInt = 0 := (by decide +kernel); omega), (by show (0 : Int32).toInt ≤ (mi 46).toInt; have k_0 : (0 : Int32).toInt = 0 := (by decide +kernel); omega)⟩ (by have k_0 : (0 : Int32).toInt = 0 := (by decide +kernel); have k_1 : (0 : Int32).toInt = 0 := (by decide +kernel); omega) hw7 (lv_sub hl12 [0, 1, 2, 3, 4, 5] rfl)
set_option maxHeartbeats 4000000 in
set_option maxRecDepth 100000 in
theorem t_countOweds (l : Launch) (D : va_G) (cI cJ : ClassId) (sz : Nat) (mr : Nat → Nat) (mi : Nat → Int32) (mf : Nat → Nat → Int32) (mg : Nat → Nat → Int64)  (mv : Nat → Value) (h0 : 0 ≤ (mi 29).toInt ∧ (mi 29).toInt ≤ 10) (h1 : 0 ≤ (mi 37).toInt ∧ (mi 37).toInt ≤ 40) (h2 : 0 ≤ (mi 46).toInt ∧ (mi 46).toInt ≤ 10) : Met l yX10_countOwed (Cond.code yX10_countOwed cX10_countOwed 4 none :: GW) ({ frames := 2, cells := 0, slots := 0, locals := 61 } : Room) (va_Pc [.ref (mr 0), .ref (mr 77)] (PW D cI cJ sz (WZ_VSO cI cJ mv mr mi mf mg) xT)) (va_Qv (fun (u : (Nat → Int32)) => True) (fun u => QW D cI cJ (va_A (WZ_VSO cI cJ mv mr mi mf mg) sz) ((fun (u : (Nat → Int32)) => (WZ_VSO cI cJ mv mr mi (va_up mf 79 u) mg)) u)) (va_A (WZ_VSO cI cJ mv mr mi mf mg) sz)) 0 0 (va_A (WZ_VSO cI cJ mv mr mi mf mg) sz) := by
  refine mk_met (y := yX10_countOwed) (bytes := cX10_countOwed) (maxL := 4) (avs := [.ref (mr 0), .ref (mr 77)]) (WS := (WZ_VSO cI cJ mv mr mi mf mg)) (Qf := fun A => va_Qv (fun (u : (Nat → Int32)) => True) (fun u => QW D cI cJ A ((fun (u : (Nat → Int32)) => (WZ_VSO cI cJ mv mr mi (va_up mf 79 u) mg)) u)) A) (by decide) (Nat.le_of_ble_eq_true rfl) ?_
  intro p e s m below meth c A ls E hr hlk hnm hX hw1 hl2
  have hl3 : lv_has ls 4 [(0, .ref (mr 0)), (1, .ref (mr 77))] := hl2
  refine lv_iconst (pc := 0) (v := 0) E.1 E.2.1 dX10_countOwed_0 (by decide +kernel) ?_
  refine lv_istore_n (pc := 1) (lv' := [(2, .int 0), (0, .ref (mr 0)), (1, .ref (mr 77))]) E.1 E.2.1 dX10_countOwed_1 rfl hl3 (by decide) rfl (fun ls hl4 => ?_)
  have loop_5 : ∀ (k : Nat) (x_6 : Int32) (g_7 : Nat → Int32) (H : Heap) (locs : List Loc) (ls : Array Slot), (0 ≤ x_6.toInt) ∧ (x_6.toInt ≤ (mi 29).toInt) → (mi 29).toInt - x_6.toInt < (k : Int) → WD D A s.heap (WZ_VSO cI cJ mv mr mi (va_up mf 79 g_7) mg) H locs → lv_has ls 4 [(2, .int x_6), (0, .ref (mr 0)), (1, .ref (mr 77))] → W p l e ({ frames := 2, cells := 0, slots := 0, locals := 61 } : Room) s m ([.ref (mr 0), .ref (mr 77)] : List Value).toArray below meth c H locs 0 0 (MQ below (va_Qv (fun (u : (Nat → Int32)) => True) (fun u => QW D cI cJ A ((fun (u : (Nat → Int32)) => (WZ_VSO cI cJ mv mr mi (va_up mf 79 u) mg)) u)) A) ([.ref (mr 0), .ref (mr 77)] : List Value).toArray s 0 0 A) (F0 m 2 ls []) := by
    intro k
    induction k with
    | zero =>
      intro x_6 g_7 _ _ _ hinv hm
      obtain ⟨hi_7_0, hi_7_1⟩ := hinv
      exact absurd hm (by omega)
    | succ k ih_8 =>
      intro x_6 g_7 H locs ls hinv hm hw9 hl10
      obtain ⟨hi_7_0, hi_7_1⟩ := hinv
      refine lv_iload_n (pc := 2) E.1 E.2.1 dX10_countOwed_2 rfl (lv_at hl10 0 rfl) ?_
      refine lv_aload_n (pc := 3) E.1 E.2.1 dX10_countOwed_3 rfl (lv_at hl10 1 rfl) ?_
      refine x_get (pc := 4) (T := TX10) (N := 17) (ci := 10) (v := .ref (mr 23)) E hw9 inX10 0 1 q_460 rfl rfl (by decide) rfl rfl dX10_countOwed_4 ?_
      refine x_get (pc := 7) (T := TX1) (N := 9) (ci := 1) (v := .int (mi 29)) E hw9 inX1 12 5 q_283 rfl rfl (by decide) rfl rfl dX10_countOwed_7 ?_
      refine lv_icmp_ge (pc := 10) (tgt := 64) E.1 E.2.1 dX10_countOwed_10 (by decide) (fun c_11 => ?_) (fun c_11 => ?_)
      · skip
        have hc_11 := leE (a := (mi 29).toInt) (b := x_6.toInt) rfl rfl c_11
        exact em_v (w1 := (fun (u : (Nat → Int32)) => (WZ_VSO cI cJ mv mr mi (va_up mf 79 u) mg))) E hr hlk g_7 hw9 trivial (Nat.le_of_ble_eq_true rfl) (Nat.le_of_ble_eq_true rfl) dX10_countOwed_64
      · skip
        have hc_11 := nleE (a := (mi 29).toInt) (b := x_6.toInt) rfl rfl c_11
        refine lv_aload_n (pc := 13) E.1 E.2.1 dX10_countOwed_13 rfl (lv_at hl10 2 rfl) ?_
        refine lv_iload_n (pc := 14) E.1 E.2.1 dX10_countOwed_14 rfl (lv_at hl10 0 rfl) ?_
        refine ck_i (pc := 15) (ws' := (fun (u : Unit) => (WZ_VSO cI cJ mv mr mi (va_up mf 79 g_7) mg))) [false, false, false, false, false, false, false, false, false, false, false, false, false, false, false, false, false, false, false, false, false, false, false, false, false, false, false, false, false, false, false, false, false, false, false, false, false, false, false, false, false, false, false, false, false, false, false, false, false, false, true, true, true, true, true, true] hw9 rfl (fun hC_ => (rn_V (As := [.int x_6]) (rest := []) E hw9 (t_waited l D cI cJ _ (shf 77 mr) (shf 77 mi) (shf 77 (va_up mf 79 g_7)) (shf 77 mg) x_6 (by show 0 ≤ x_6.toInt ∧ x_6.toInt ≤ 9; omega)) (gdV q_1036 q_1037 q_1038 q_153 q_1039) hdV_X4_waited ⟨rfl, rfl⟩ ⟨(Nat.le_of_ble_eq_true rfl), (Nat.le_of_ble_eq_true rfl)⟩ ⟨(Nat.le_of_ble_eq_true rfl), (Nat.le_of_ble_eq_true rfl)⟩ xT_b xT_at 50 4 rfl rfl rfl _ hC_ (nd_T _ 0) rfl hl10.1 rfl (Nat.le_of_ble_eq_true rfl) dX10_countOwed_15)) rfl (fun _ => rfl) (fun _ => rfl) (fun r_13 u_12 H1 locs hp hw14 => ?_)
        generalize H1 = H at hw14 ⊢
        have hw15 : WD D A s.heap (WZ_VSO cI cJ mv mr mi (va_up mf 79 g_7) mg) H locs := hw14
        refine lv_istore_n (pc := 18) (lv' := [(3, .int r_13), (2, .int x_6), (0, .ref (mr 0)), (1, .ref (mr 77))]) E.1 E.2.1 dX10_countOwed_18 rfl hl10 (by decide) rfl (fun ls hl16 => ?_)
        refine lv_iload_n (pc := 19) E.1 E.2.1 dX10_countOwed_19 rfl (lv_at hl16 0 rfl) ?_
        refine lv_if_le (pc := 20) (tgt := 58) E.1 E.2.1 dX10_countOwed_20 (by decide) (fun c_17 => ?_) (fun c_17 => ?_)
        · skip
          have hc_17 := leE (a := r_13.toInt) (b := 0) rfl (by decide +kernel) c_17
          obtain ⟨v_18, ev_18⟩ : ∃ z : Int32, x_6 + Int32.ofInt (1) = z := ⟨_, rfl⟩
          have hv_18 : v_18.toInt = x_6.toInt + (1) := by rw [← ev_18]; exact incE rfl (by decide) (by omega)
          refine lv_iinc (pc := 58) (v := v_18) (lv' := [(2, .int v_18), (3, .int r_13), (0, .ref (mr 0)), (1, .ref (mr 77))]) E.1 E.2.1 dX10_countOwed_58 hl16 (k := 1) rfl ev_18 (by decide) rfl (fun ls hl19 => ?_)
          refine lv_goto (pc := 61) (tgt := 2) E.1 E.2.1 dX10_countOwed_61 (by decide) ?_
          exact ih_8 v_18 g_7 _ _ _ ⟨(by show 0 ≤ v_18.toInt; omega), (by show v_18.toInt ≤ (mi 29).toInt; omega)⟩ (by omega) hw15 (lv_sub hl19 [0, 2, 3] rfl)
        · skip
          have hc_17 := nleE (a := r_13.toInt) (b := 0) rfl (by decide +kernel) c_17
          refine lv_aload_n (pc := 23) E.1 E.2.1 dX10_countOwed_23 rfl (lv_at hl16 2 rfl) ?_
          refine x_get (pc := 24) (T := TX10) (N := 17) (ci := 10) (v := .int (mi 5)) E hw15 inX10 0 12 q_488 rfl rfl (by decide) rfl rfl dX10_countOwed_24 ?_
          refine lv_if_le (pc := 27) (tgt := 58) E.1 E.2.1 dX10_countOwed_27 (by decide) (fun c_20 => ?_) (fun c_20 => ?_)
          · skip
            have hc_20 := leE (a := (mi 5).toInt) (b := 0) rfl (by decide +kernel) c_20
            obtain ⟨v_21, ev_21⟩ : ∃ z : Int32, x_6 + Int32.ofInt (1) = z := ⟨_, rfl⟩
            have hv_21 : v_21.toInt = x_6.toInt + (1) := by rw [← ev_21]; exact incE rfl (by decide) (by omega)
            refine lv_iinc (pc := 58) (v := v_21) (lv' := [(2, .int v_21), (3, .int r_13), (0, .ref (mr 0)), (1, .ref (mr 77))]) E.1 E.2.1 dX10_countOwed_58 hl16 (k := 1) rfl ev_21 (by decide) rfl (fun ls hl22 => ?_)
            refine lv_goto (pc := 61) (tgt := 2) E.1 E.2.1 dX10_countOwed_61 (by decide) ?_
            exact ih_8 v_21 g_7 _ _ _ ⟨(by show 0 ≤ v_21.toInt; omega), (by show v_21.toInt ≤ (mi 29).toInt; omega)⟩ (by omega) hw15 (lv_sub hl22 [0, 2, 3] rfl)
          · skip
            have hc_20 := nleE (a := (mi 5).toInt) (b := 0) rfl (by decide +kernel) c_20
            refine lv_iload_n (pc := 30) E.1 E.2.1 dX10_countOwed_30 rfl (lv_at hl16 0 rfl) ?_
            refine lv_aload_n (pc := 31) E.1 E.2.1 dX10_countOwed_31 rfl (lv_at hl16 2 rfl) ?_
            refine x_get (pc := 32) (T := TX10) (N := 17) (ci := 10) (v := .int (mi 5)) E hw15 inX10 0 12 q_488 rfl rfl (by decide) rfl rfl dX10_countOwed_32 ?_
            refine lv_irem (pc := 35) E.1 E.2.1 dX10_countOwed_35 (mneE (a := (mi 5).toInt) (b := 0) rfl (by decide +kernel) (by omega)) ?_
            refine lv_topi (fun v_23 ev_23 => ?_)
            refine lv_if_ne (pc := 36) (tgt := 58) E.1 E.2.1 dX10_countOwed_36 (by decide) (fun c_24 => ?_) (fun c_24 => ?_)
            · skip
              have hc_24 := neE (a := v_23.toInt) (b := 0) rfl (by decide +kernel) c_24
              obtain ⟨v_25, ev_25⟩ : ∃ z : Int32, x_6 + Int32.ofInt (1) = z := ⟨_, rfl⟩
              have hv_25 : v_25.toInt = x_6.toInt + (1) := by rw [← ev_25]; exact incE rfl (by decide) (by omega)
              refine lv_iinc (pc := 58) (v := v_25) (lv' := [(2, .int v_25), (3, .int r_13), (0, .ref (mr 0)), (1, .ref (mr 77))]) E.1 E.2.1 dX10_countOwed_58 hl16 (k := 1) rfl ev_25 (by decide) rfl (fun ls hl26 => ?_)
              refine lv_goto (pc := 61) (tgt := 2) E.1 E.2.1 dX10_countOwed_61 (by decide) ?_
              exact ih_8 v_25 g_7 _ _ _ ⟨(by show 0 ≤ v_25.toInt; omega), (by show v_25.toInt ≤ (mi 29).toInt; omega)⟩ (by omega) hw15 (lv_sub hl26 [0, 2, 3] rfl)
            · skip
              have hc_24 := eqE (a := v_23.toInt) (b := 0) rfl (by decide +kernel) c_24
              refine lv_aload_n (pc := 39) E.1 E.2.1 dX10_countOwed_39 rfl (lv_at hl16 3 rfl) ?_
              refine x_get (pc := 40) (T := TX4) (N := 12) (ci := 4) (v := .ref (mr 79)) E hw15 inX4 50 1 q_195 rfl rfl (by decide) rfl rfl dX10_countOwed_40 ?_
              refine lv_iload_n (pc := 43) E.1 E.2.1 dX10_countOwed_43 rfl (lv_at hl16 1 rfl) ?_
              refine lv_bipush (pc := 44) (v := 99) E.1 E.2.1 dX10_countOwed_44 (by decide +kernel) ?_
              refine lv_aload_n (pc := 46) E.1 E.2.1 dX10_countOwed_46 rfl (lv_at hl16 3 rfl) ?_
              refine x_get (pc := 47) (T := TX4) (N := 12) (ci := 4) (v := .ref (mr 79)) E hw15 inX4 50 1 q_195 rfl rfl (by decide) rfl rfl dX10_countOwed_47 ?_
              refine lv_iload_n (pc := 50) E.1 E.2.1 dX10_countOwed_50 rfl (lv_at hl16 1 rfl) ?_
              refine x_iald (pc := 51) (f := g_7) E hw15 52 rfl (inbE (a := x_6.toInt) rfl (by omega)) dX10_countOwed_51 ?_
              refine lv_topi (fun v_27 ev_27 => ?_)
              refine lv_iconst (pc := 52) (v := 1) E.1 E.2.1 dX10_countOwed_52 (by decide +kernel) ?_
              refine lv_iadd (pc := 53) E.1 E.2.1 dX10_countOwed_53 ?_
              refine lv_topi (fun v_28 ev_28 => ?_)
              refine x_min (pc := 54) E hl16.1 q_1067 q_808 q_167 q_809 (Nat.le_of_ble_eq_true rfl) (Nat.le_of_ble_eq_true rfl) (Nat.le_of_ble_eq_true rfl) (Nat.le_of_ble_eq_true rfl) dX10_countOwed_54 (fun v_29 hv_29 => ?_)
              rw [show (99 : Int32).toInt = 99 from by decide +kernel] at hv_29
              have hv_29a : v_29.toInt ≤ 99 ∧ v_29.toInt ≤ v_28.toInt := by omega
              clear hv_29
              refine x_iastG (pc := 57) (f := g_7) (wf := fun g => (WZ_VSO cI cJ mv mr mi (va_up mf 79 g) mg)) E hw15 52 rfl (inbE (a := x_6.toInt) rfl (by omega)) (fun _ => rfl) dX10_countOwed_57 (fun g_30 H locs eg_30 hw31 => ?_)
              obtain ⟨v_32, ev_32⟩ : ∃ z : Int32, x_6 + Int32.ofInt (1) = z := ⟨_, rfl⟩
              have hv_32 : v_32.toInt = x_6.toInt + (1) := by rw [← ev_32]; exact incE rfl (by decide) (by omega)
              refine lv_iinc (pc := 58) (v := v_32) (lv' := [(2, .int v_32), (3, .int r_13), (0, .ref (mr 0)), (1, .ref (mr 77))]) E.1 E.2.1 dX10_countOwed_58 hl16 (k := 1) rfl ev_32 (by decide) rfl (fun ls hl33 => ?_)
              refine lv_goto (pc := 61) (tgt := 2) E.1 E.2.1 dX10_countOwed_61 (by decide) ?_
              exact ih_8 v_32 g_30 _ _ _ ⟨(by show 0 ≤ v_32.toInt; omega), (by show v_32.toInt ≤ (mi 29).toInt; omega)⟩ (by omega) hw31 (lv_sub hl33 [0, 2, 3] rfl)
  exact loop_5 (Int.toNat ((mi 29).toInt - 0) + 1) 0 (mf 79) _ _ _ ⟨(by show 0 ≤ (0 : Int32).toInt; have k_0 : (0 : Int32).toInt = 0 := (by decide +kernel); omega), (by show (0 : Int32).toInt ≤ (mi 29).toInt; have k_0 : (0 : Int32).toInt = 0 := (by decide +kernel); omega)⟩ (by have k_0 : (0 : Int32).toInt = 0 := (by decide +kernel); omega) hw1 (lv_sub hl4 [0, 1, 2] rfl)
set_option maxHeartbeats 4000000 in
set_option maxRecDepth 100000 in
theorem t_spoilNeedss (l : Launch) (D : va_G) (cI cJ : ClassId) (sz : Nat) (mr : Nat → Nat) (mi : Nat → Int32) (mf : Nat → Nat → Int32) (mg : Nat → Nat → Int64)  (mv : Nat → Value) (h0 : 0 ≤ (mi 29).toInt ∧ (mi 29).toInt ≤ 10) (h1 : 0 ≤ (mi 37).toInt ∧ (mi 37).toInt ≤ 40) (h2 : 0 ≤ (mi 46).toInt ∧ (mi 46).toInt ≤ 10) : Met l yX10_spoilNeeds (Cond.code yX10_spoilNeeds cX10_spoilNeeds 3 none :: GW) ({ frames := 1, cells := 0, slots := 0, locals := 40 } : Room) (va_Pc [.ref (mr 0), .ref (mr 77)] (PW D cI cJ sz (WZ_VSO cI cJ mv mr mi mf mg) xT)) (va_Qv (fun (u : Int32) => True) (fun u => QW D cI cJ (va_A (WZ_VSO cI cJ mv mr mi mf mg) sz) ((fun (u : Int32) => (WZ_VSO cI cJ mv mr (upd mi 83 u) mf mg)) u)) (va_A (WZ_VSO cI cJ mv mr mi mf mg) sz)) 0 0 (va_A (WZ_VSO cI cJ mv mr mi mf mg) sz) := by
  refine mk_met (y := yX10_spoilNeeds) (bytes := cX10_spoilNeeds) (maxL := 3) (avs := [.ref (mr 0), .ref (mr 77)]) (WS := (WZ_VSO cI cJ mv mr mi mf mg)) (Qf := fun A => va_Qv (fun (u : Int32) => True) (fun u => QW D cI cJ A ((fun (u : Int32) => (WZ_VSO cI cJ mv mr (upd mi 83 u) mf mg)) u)) A) (by decide) (Nat.le_of_ble_eq_true rfl) ?_
  intro p e s m below meth c A ls E hr hlk hnm hX hw1 hl2
  have hl3 : lv_has ls 3 [(0, .ref (mr 0)), (1, .ref (mr 77))] := hl2
  refine lv_iconst (pc := 0) (v := 0) E.1 E.2.1 dX10_spoilNeeds_0 (by decide +kernel) ?_
  refine lv_istore_n (pc := 1) (lv' := [(2, .int 0), (0, .ref (mr 0)), (1, .ref (mr 77))]) E.1 E.2.1 dX10_spoilNeeds_1 rfl hl3 (by decide) rfl (fun ls hl4 => ?_)
  have loop_5 : ∀ (k : Nat) (x_6 : Int32) (x_7 : Int32) (H : Heap) (locs : List Loc) (ls : Array Slot), (0 ≤ x_6.toInt) ∧ (x_6.toInt ≤ (mi 46).toInt) → (mi 46).toInt - x_6.toInt < (k : Int) → WD D A s.heap (WZ_VSO cI cJ mv mr (upd mi 83 x_7) mf mg) H locs → lv_has ls 3 [(2, .int x_6), (0, .ref (mr 0)), (1, .ref (mr 77))] → W p l e ({ frames := 1, cells := 0, slots := 0, locals := 40 } : Room) s m ([.ref (mr 0), .ref (mr 77)] : List Value).toArray below meth c H locs 0 0 (MQ below (va_Qv (fun (u : Int32) => True) (fun u => QW D cI cJ A ((fun (u : Int32) => (WZ_VSO cI cJ mv mr (upd mi 83 u) mf mg)) u)) A) ([.ref (mr 0), .ref (mr 77)] : List Value).toArray s 0 0 A) (F0 m 2 ls []) := by
    intro k
    induction k with
    | zero =>
      intro x_6 x_7 _ _ _ hinv hm
      obtain ⟨hi_7_0, hi_7_1⟩ := hinv
      exact absurd hm (by omega)
    | succ k ih_8 =>
      intro x_6 x_7 H locs ls hinv hm hw9 hl10
      obtain ⟨hi_7_0, hi_7_1⟩ := hinv
      refine lv_iload_n (pc := 2) E.1 E.2.1 dX10_spoilNeeds_2 rfl (lv_at hl10 0 rfl) ?_
      refine lv_aload_n (pc := 3) E.1 E.2.1 dX10_spoilNeeds_3 rfl (lv_at hl10 1 rfl) ?_
      refine x_get (pc := 4) (T := TX10) (N := 17) (ci := 10) (v := .ref (mr 40)) E hw9 inX10 0 3 q_467 rfl rfl (by decide) rfl rfl dX10_spoilNeeds_4 ?_
      refine x_get (pc := 7) (T := TX3) (N := 6) (ci := 3) (v := .int (mi 46)) E hw9 inX3 27 5 q_364 rfl rfl (by decide) rfl rfl dX10_spoilNeeds_7 ?_
      refine lv_icmp_ge (pc := 10) (tgt := 57) E.1 E.2.1 dX10_spoilNeeds_10 (by decide) (fun c_11 => ?_) (fun c_11 => ?_)
      · skip
        have hc_11 := leE (a := (mi 46).toInt) (b := x_6.toInt) rfl rfl c_11
        exact em_v (w1 := (fun (u : Int32) => (WZ_VSO cI cJ mv mr (upd mi 83 u) mf mg))) E hr hlk x_7 hw9 trivial (Nat.le_of_ble_eq_true rfl) (Nat.le_of_ble_eq_true rfl) dX10_spoilNeeds_57
      · skip
        have hc_11 := nleE (a := (mi 46).toInt) (b := x_6.toInt) rfl rfl c_11
        refine lv_aload_n (pc := 13) E.1 E.2.1 dX10_spoilNeeds_13 rfl (lv_at hl10 1 rfl) ?_
        refine x_get (pc := 14) (T := TX10) (N := 17) (ci := 10) (v := .ref (mr 40)) E hw9 inX10 0 3 q_467 rfl rfl (by decide) rfl rfl dX10_spoilNeeds_14 ?_
        refine x_get (pc := 17) (T := TX3) (N := 6) (ci := 3) (v := .ref (mr 44)) E hw9 inX3 27 3 q_356 rfl rfl (by decide) rfl rfl dX10_spoilNeeds_17 ?_
        refine lv_iload_n (pc := 20) E.1 E.2.1 dX10_spoilNeeds_20 rfl (lv_at hl10 0 rfl) ?_
        refine x_iald (pc := 21) (f := (mf 44)) E hw9 31 rfl (inbE (a := x_6.toInt) rfl (by omega)) dX10_spoilNeeds_21 ?_
        refine lv_topi (fun v_12 ev_12 => ?_)
        refine lv_aload_n (pc := 22) E.1 E.2.1 dX10_spoilNeeds_22 rfl (lv_at hl10 2 rfl) ?_
        refine x_get (pc := 23) (T := TX4) (N := 12) (ci := 4) (v := .int (mi 85)) E hw9 inX4 50 7 q_220 rfl rfl (by decide) rfl rfl dX10_spoilNeeds_23 ?_
        refine lv_icmp_ne (pc := 26) (tgt := 51) E.1 E.2.1 dX10_spoilNeeds_26 (by decide) (fun c_13 => ?_) (fun c_13 => ?_)
        · skip
          have hc_13 := neE (a := v_12.toInt) (b := (mi 85).toInt) rfl rfl c_13
          obtain ⟨v_14, ev_14⟩ : ∃ z : Int32, x_6 + Int32.ofInt (1) = z := ⟨_, rfl⟩
          have hv_14 : v_14.toInt = x_6.toInt + (1) := by rw [← ev_14]; exact incE rfl (by decide) (by omega)
          refine lv_iinc (pc := 51) (v := v_14) (lv' := [(2, .int v_14), (0, .ref (mr 0)), (1, .ref (mr 77))]) E.1 E.2.1 dX10_spoilNeeds_51 hl10 (k := 0) rfl ev_14 (by decide) rfl (fun ls hl15 => ?_)
          refine lv_goto (pc := 54) (tgt := 2) E.1 E.2.1 dX10_spoilNeeds_54 (by decide) ?_
          exact ih_8 v_14 x_7 _ _ _ ⟨(by show 0 ≤ v_14.toInt; omega), (by show v_14.toInt ≤ (mi 46).toInt; omega)⟩ (by omega) hw9 (lv_sub hl15 [0, 1, 2] rfl)
        · skip
          have hc_13 := eqE (a := v_12.toInt) (b := (mi 85).toInt) rfl rfl c_13
          refine lv_aload_n (pc := 29) E.1 E.2.1 dX10_spoilNeeds_29 rfl (lv_at hl10 2 rfl) ?_
          refine x_get (pc := 30) (T := TX4) (N := 12) (ci := 4) (v := .ref (mr 82)) E hw9 inX4 50 4 q_206 rfl rfl (by decide) rfl rfl dX10_spoilNeeds_30 ?_
          refine lv_iload_n (pc := 33) E.1 E.2.1 dX10_spoilNeeds_33 rfl (lv_at hl10 0 rfl) ?_
          refine x_iald (pc := 34) (f := (mf 82)) E hw9 55 rfl (inbE (a := x_6.toInt) rfl (by omega)) dX10_spoilNeeds_34 ?_
          refine lv_topi (fun v_16 ev_16 => ?_)
          refine lv_iconst (pc := 35) (v := (-1)) E.1 E.2.1 dX10_spoilNeeds_35 (by decide +kernel) ?_
          refine lv_icmp_ne (pc := 36) (tgt := 51) E.1 E.2.1 dX10_spoilNeeds_36 (by decide) (fun c_17 => ?_) (fun c_17 => ?_)
          · skip
            have hc_17 := neE (a := v_16.toInt) (b := (-1)) rfl (by decide +kernel) c_17
            obtain ⟨v_18, ev_18⟩ : ∃ z : Int32, x_6 + Int32.ofInt (1) = z := ⟨_, rfl⟩
            have hv_18 : v_18.toInt = x_6.toInt + (1) := by rw [← ev_18]; exact incE rfl (by decide) (by omega)
            refine lv_iinc (pc := 51) (v := v_18) (lv' := [(2, .int v_18), (0, .ref (mr 0)), (1, .ref (mr 77))]) E.1 E.2.1 dX10_spoilNeeds_51 hl10 (k := 0) rfl ev_18 (by decide) rfl (fun ls hl19 => ?_)
            refine lv_goto (pc := 54) (tgt := 2) E.1 E.2.1 dX10_spoilNeeds_54 (by decide) ?_
            exact ih_8 v_18 x_7 _ _ _ ⟨(by show 0 ≤ v_18.toInt; omega), (by show v_18.toInt ≤ (mi 46).toInt; omega)⟩ (by omega) hw9 (lv_sub hl19 [0, 1, 2] rfl)
          · skip
            have hc_17 := eqE (a := v_16.toInt) (b := (-1)) rfl (by decide +kernel) c_17
            refine lv_aload_n (pc := 39) E.1 E.2.1 dX10_spoilNeeds_39 rfl (lv_at hl10 2 rfl) ?_
            refine lv_dup (pc := 40) E.1 E.2.1 dX10_spoilNeeds_40 rfl ?_
            refine x_get (pc := 41) (T := TX4) (N := 12) (ci := 4) (v := .int x_7) E hw9 inX4 50 5 q_211 rfl rfl (by decide) rfl rfl dX10_spoilNeeds_41 ?_
            refine lv_iconst (pc := 44) (v := 1) E.1 E.2.1 dX10_spoilNeeds_44 (by decide +kernel) ?_
            refine lv_iload_n (pc := 45) E.1 E.2.1 dX10_spoilNeeds_45 rfl (lv_at hl10 0 rfl) ?_
            refine lv_ishl (pc := 46) E.1 E.2.1 dX10_spoilNeeds_46 ?_
            refine lv_topi (fun v_20 ev_20 => ?_)
            have hb1v_20 : 1 ≤ v_20.toInt ∧ v_20.toInt ≤ 512 := by rw [ev_20]; exact shl9 (by omega)
            refine lv_ior (pc := 47) E.1 E.2.1 dX10_spoilNeeds_47 ?_
            refine lv_topi (fun v_21 ev_21 => ?_)
            refine x_put (pc := 48) (T := TX4) (N := 12) (ci := 4) (ws' := (WZ_VSO cI cJ mv mr (upd mi 83 v_21) mf mg)) E hw9 inX4 tyX4_ok nmX4 50 5 q_211 rfl rfl (by decide) rfl rfl rfl rfl (Nat.le_of_ble_eq_true rfl) rfl dX10_spoilNeeds_48 (fun H locs hw22 => ?_)
            obtain ⟨v_23, ev_23⟩ : ∃ z : Int32, x_6 + Int32.ofInt (1) = z := ⟨_, rfl⟩
            have hv_23 : v_23.toInt = x_6.toInt + (1) := by rw [← ev_23]; exact incE rfl (by decide) (by omega)
            refine lv_iinc (pc := 51) (v := v_23) (lv' := [(2, .int v_23), (0, .ref (mr 0)), (1, .ref (mr 77))]) E.1 E.2.1 dX10_spoilNeeds_51 hl10 (k := 0) rfl ev_23 (by decide) rfl (fun ls hl24 => ?_)
            refine lv_goto (pc := 54) (tgt := 2) E.1 E.2.1 dX10_spoilNeeds_54 (by decide) ?_
            exact ih_8 v_23 v_21 _ _ _ ⟨(by show 0 ≤ v_23.toInt; omega), (by show v_23.toInt ≤ (mi 46).toInt; omega)⟩ (by omega) hw22 (lv_sub hl24 [0, 1, 2] rfl)
  exact loop_5 (Int.toNat ((mi 46).toInt - 0) + 1) 0 (mi 83) _ _ _ ⟨(by show 0 ≤ (0 : Int32).toInt; have k_0 : (0 : Int32).toInt = 0 := (by decide +kernel); omega), (by show (0 : Int32).toInt ≤ (mi 46).toInt; have k_0 : (0 : Int32).toInt = 0 := (by decide +kernel); omega)⟩ (by have k_0 : (0 : Int32).toInt = 0 := (by decide +kernel); omega) hw1 (lv_sub hl4 [0, 1, 2] rfl)
