set_option maxHeartbeats 4000000 in
set_option maxRecDepth 100000 in
theorem s_goesByU (l : Launch) (D : va_G) (cI cJ : ClassId) (sz M : Nat) (mr : Nat → Nat) (mi : Nat → Int32) (mf : Nat → Nat → Int32) (mg : Nat → Nat → Int64)  (h0 : 0 ≤ ((mf 1) 3).toInt) (h1 : ((mf 1) 3).toInt + 1 ≤ (mi 6).toInt) (h2 : (mi 6).toInt ≤ 10) (h3 : 0 ≤ ((mf 1) 2).toInt ∧ ((mf 1) 2).toInt ≤ 150) (h4 : 0 ≤ ((mf 1) 5).toInt ∧ ((mf 1) 5).toInt ≤ 200) (h5 : 0 ≤ (mi 44).toInt ∧ (mi 44).toInt ≤ 10) (h6 : 0 ≤ (mi 42).toInt ∧ (mi 42).toInt ≤ 40) (h7 : 0 ≤ ((mf 27) 0).toInt) (h8 : ((mf 27) 0).toInt ≤ 16) (h9 : 0 ≤ ((mf 27) 1).toInt) (h10 : ((mf 27) 1).toInt ≤ 16) (h11 : 0 ≤ (mi 49).toInt ∧ (mi 49).toInt ≤ 200) (h12 : (-29) ≤ (mi 15).toInt ∧ (mi 15).toInt ≤ 69) (h13 : 0 ≤ ((mf 1) 0).toInt) (h14 : ((mf 1) 0).toInt ≤ 20000) (a_paths : pathsOK (mf 43)) (lf_law0 : LW 0 0 (mf 31) (mf 32) (mf 28) (mf 29) (mf 30) ((mf 27) 0).toInt 400) (lf_law1 : LW 16 400 (mf 31) (mf 32) (mf 28) (mf 29) (mf 30) ((mf 27) 1).toInt 400) (lf_round : rndOK (mi 49).toInt (mi 6).toInt (mf 50)) : Met l yX12_goesBy (Cond.code yX12_goesBy cX12_goesBy 7 (some .boolean) :: GW) ({ frames := 7, cells := 0, slots := 0, locals := 175 } : Room) (va_Pc [.ref M] (PW D cI cJ sz (MW cI cJ M mr mi mf mg) xT)) (va_Qi (fun (r : Int32) (u : (Nat → Int32) × (Nat → Int32) × (Nat → Int32) × (Nat → Int32) × (Nat → Int32)) => (0 ≤ r.toInt) ∧ (r.toInt ≤ 1) ∧ (0 ≤ (u.1 2).toInt) ∧ ((u.1 2).toInt ≤ 150) ∧ (0 ≤ (u.1 5).toInt) ∧ ((u.1 5).toInt ≤ 200) ∧ (0 ≤ (u.1 3).toInt) ∧ ((u.1 3).toInt + 1 ≤ (mi 6).toInt) ∧ ((u.1 0).toInt = ((mf 1) 0).toInt + 1) ∧ (((mi 5).toInt = 0 → u.1 1 = fw1 (mi 12).toInt ((mf 1) 1)))) (fun u => QW D cI cJ (va_A (MW cI cJ M mr mi mf mg) sz) ((fun (u : (Nat → Int32) × (Nat → Int32) × (Nat → Int32) × (Nat → Int32) × (Nat → Int32)) => (MW cI cJ M mr mi (va_up (va_up (va_up (va_up (va_up mf 1 u.1) 55 u.2.1) 53 u.2.2.1) 54 u.2.2.2.1) 16 u.2.2.2.2) mg)) u)) (va_A (MW cI cJ M mr mi mf mg) sz)) 0 0 (va_A (MW cI cJ M mr mi mf mg) sz) := by
  refine mk_met (y := yX12_goesBy) (bytes := cX12_goesBy) (maxL := 7) (avs := [.ref M]) (WS := (MW cI cJ M mr mi mf mg)) (Qf := fun A => va_Qi (fun (r : Int32) (u : (Nat → Int32) × (Nat → Int32) × (Nat → Int32) × (Nat → Int32) × (Nat → Int32)) => (0 ≤ r.toInt) ∧ (r.toInt ≤ 1) ∧ (0 ≤ (u.1 2).toInt) ∧ ((u.1 2).toInt ≤ 150) ∧ (0 ≤ (u.1 5).toInt) ∧ ((u.1 5).toInt ≤ 200) ∧ (0 ≤ (u.1 3).toInt) ∧ ((u.1 3).toInt + 1 ≤ (mi 6).toInt) ∧ ((u.1 0).toInt = ((mf 1) 0).toInt + 1) ∧ (((mi 5).toInt = 0 → u.1 1 = fw1 (mi 12).toInt ((mf 1) 1)))) (fun u => QW D cI cJ A ((fun (u : (Nat → Int32) × (Nat → Int32) × (Nat → Int32) × (Nat → Int32) × (Nat → Int32)) => (MW cI cJ M mr mi (va_up (va_up (va_up (va_up (va_up mf 1 u.1) 55 u.2.1) 53 u.2.2.1) 54 u.2.2.2.1) 16 u.2.2.2.2) mg)) u)) A) (by decide) (Nat.le_of_ble_eq_true rfl) ?_
  intro p e s m below meth c A ls E hr hlk hnm hX hw1 hl2
  have hl3 : lv_has ls 7 [(0, .ref M)] := hl2
  have join_4 : ∀ (x_5 : Int32) (x_6 : Int32) (x_7 : Int32) (x_8 : Int32) (g_9 : Nat → Int32) (g_10 : Nat → Int32) (g_11 : Nat → Int32) (g_12 : Nat → Int32) (H : Heap) (locs : List Loc) (ls : Array Slot), (0 ≤ x_5.toInt) ∧ (x_5.toInt + 1 ≤ (mi 6).toInt) ∧ (0 ≤ x_6.toInt) ∧ (x_6.toInt ≤ 1) ∧ (0 ≤ (g_9 2).toInt) ∧ ((g_9 2).toInt ≤ 150) ∧ (0 ≤ (g_9 3).toInt) ∧ ((g_9 3).toInt + 1 ≤ (mi 6).toInt) ∧ (0 ≤ (g_9 5).toInt) ∧ ((g_9 5).toInt ≤ 200) ∧ ((g_9 0).toInt = ((mf 1) 0).toInt) ∧ ((g_9 1).toInt = ((mf 1) 1).toInt) → WD D A s.heap (MW cI cJ M mr mi (va_up (va_up (va_up (va_up mf 1 g_9) 53 g_11) 54 g_12) 55 g_10) mg) H locs → lv_has ls 7 [(0, .ref M), (1, .int x_5), (3, .int x_6), (4, .int x_7), (5, .int x_8)] → W p l e ({ frames := 7, cells := 0, slots := 0, locals := 175 } : Room) s m ([.ref M] : List Value).toArray below meth c H locs 0 0 (MQ below (va_Qi (fun (r : Int32) (u : (Nat → Int32) × (Nat → Int32) × (Nat → Int32) × (Nat → Int32) × (Nat → Int32)) => (0 ≤ r.toInt) ∧ (r.toInt ≤ 1) ∧ (0 ≤ (u.1 2).toInt) ∧ ((u.1 2).toInt ≤ 150) ∧ (0 ≤ (u.1 5).toInt) ∧ ((u.1 5).toInt ≤ 200) ∧ (0 ≤ (u.1 3).toInt) ∧ ((u.1 3).toInt + 1 ≤ (mi 6).toInt) ∧ ((u.1 0).toInt = ((mf 1) 0).toInt + 1) ∧ (((mi 5).toInt = 0 → u.1 1 = fw1 (mi 12).toInt ((mf 1) 1)))) (fun u => QW D cI cJ A ((fun (u : (Nat → Int32) × (Nat → Int32) × (Nat → Int32) × (Nat → Int32) × (Nat → Int32)) => (MW cI cJ M mr mi (va_up (va_up (va_up (va_up (va_up mf 1 u.1) 55 u.2.1) 53 u.2.2.1) 54 u.2.2.2.1) 16 u.2.2.2.2) mg)) u)) A) ([.ref M] : List Value).toArray s 0 0 A) (F0 m 220 ls []) := by
    intro x_5 x_6 x_7 x_8 g_9 g_10 g_11 g_12 H locs ls hinv hw13 hl14
    obtain ⟨hj_12_0, hj_12_1, hj_12_2, hj_12_3, hj_12_4, hj_12_5, hj_12_6, hj_12_7, hj_12_8, hj_12_9, hj_12_10, hj_12_11⟩ := hinv
    refine lv_aload_n (pc := 220) E.1 E.2.1 dX12_goesBy_220 rfl (lv_at hl14 0 rfl) ?_
    refine lv_iload_n (pc := 221) E.1 E.2.1 dX12_goesBy_221 rfl (lv_at hl14 1 rfl) ?_
    refine lv_iload_n (pc := 222) E.1 E.2.1 dX12_goesBy_222 rfl (lv_at hl14 2 rfl) ?_
    refine lv_iload (pc := 223) E.1 E.2.1 dX12_goesBy_223 (lv_at hl14 3 rfl) ?_
    refine lv_iload (pc := 225) E.1 E.2.1 dX12_goesBy_225 (lv_at hl14 4 rfl) ?_
    refine cm_v (pc := 227) hw13 (rn_M (As := [.int x_5, .int x_6, .int x_7, .int x_8]) (rest := []) E hw13 (s_notesU l D cI cJ _ M mr mi (va_up (va_up (va_up (va_up mf 1 g_9) 53 g_11) 54 g_12) 55 g_10) mg x_5 x_6 x_7 x_8 ⟨hj_12_4, hj_12_5⟩) (gdV q_1903 q_1905 q_108 q_162 q_1906) hdV_X12_notes ⟨rfl, rfl⟩ ⟨(Nat.le_of_ble_eq_true rfl), (Nat.le_of_ble_eq_true rfl)⟩ ⟨(Nat.le_of_ble_eq_true rfl), (Nat.le_of_ble_eq_true rfl)⟩ 12 rfl rfl rfl rfl hl14.1 rfl (Nat.le_of_ble_eq_true rfl) dX12_goesBy_227) (fun u_15 H1 locs hp hw17 => ?_)
    obtain ⟨gnow_18, gbook_19⟩ := u_15
    generalize H1 = H at hw17 ⊢
    have hw20 : WD D A s.heap (MW cI cJ M mr mi (va_up (va_up (va_up (va_up (va_up mf 1 gnow_18) 16 gbook_19) 53 g_11) 54 g_12) 55 g_10) mg) H locs := hw17
    obtain ⟨hp_21, hp_22, hp_23, hp_24, hp_25⟩ := hp
    have hp_21 : 0 ≤ (gnow_18 2).toInt ∧ (gnow_18 2).toInt ≤ 150 := hp_21
    have hp_22 : (gnow_18 3).toInt = (g_9 3).toInt := hp_22
    have hp_23 : (gnow_18 5).toInt = (g_9 5).toInt := hp_23
    have hp_24 : (gnow_18 0).toInt = (g_9 0).toInt := hp_24
    have hp_25 : (gnow_18 1).toInt = (g_9 1).toInt := hp_25
    refine lv_aload_n (pc := 230) E.1 E.2.1 dX12_goesBy_230 rfl (lv_at hl14 0 rfl) ?_
    refine cm_v (pc := 231) hw20 (rn_M (As := []) (rest := []) E hw20 (s_owesU l D cI cJ _ M mr mi (va_up (va_up (va_up (va_up (va_up mf 1 gnow_18) 16 gbook_19) 53 g_11) 54 g_12) 55 g_10) mg (by show 0 ≤ (mi 6).toInt ∧ (mi 6).toInt ≤ 10; omega) h12) (gdV q_1907 q_1909 q_109 q_162 q_1910) hdV_X12_owes ⟨rfl, rfl⟩ ⟨(Nat.le_of_ble_eq_true rfl), (Nat.le_of_ble_eq_true rfl)⟩ ⟨(Nat.le_of_ble_eq_true rfl), (Nat.le_of_ble_eq_true rfl)⟩ 12 rfl rfl rfl rfl hl14.1 rfl (Nat.le_of_ble_eq_true rfl) dX12_goesBy_231) (fun u_26 H1 locs hp hw28 => ?_)
    obtain ⟨gnow_29, rfl⟩ : ∃ z, z = u_26 := ⟨_, rfl⟩
    generalize H1 = H at hw28 ⊢
    have hw30 : WD D A s.heap (MW cI cJ M mr mi (va_up (va_up (va_up (va_up (va_up mf 1 gnow_29) 16 gbook_19) 53 g_11) 54 g_12) 55 g_10) mg) H locs := hw28
    obtain ⟨hp_31, hp_32, hp_33, hp_34, hp_35⟩ := hp
    have hp_31 : (gnow_29 2).toInt = (gnow_18 2).toInt := hp_31
    have hp_32 : (gnow_29 3).toInt = (gnow_18 3).toInt := hp_32
    have hp_33 : (gnow_29 5).toInt = (gnow_18 5).toInt := hp_33
    have hp_34 : (gnow_29 0).toInt = (gnow_18 0).toInt := hp_34
    have hp_35 : (gnow_29 1).toInt = (gnow_18 1).toInt := hp_35
    refine lv_aload_n (pc := 234) E.1 E.2.1 dX12_goesBy_234 rfl (lv_at hl14 0 rfl) ?_
    refine cm_v (pc := 235) hw30 (rn_M (As := []) (rest := []) E hw30 (s_spoilsU l D cI cJ _ M mr mi (va_up (va_up (va_up (va_up (va_up mf 1 gnow_29) 16 gbook_19) 53 g_11) 54 g_12) 55 g_10) mg h5) (gdV q_1915 q_1917 q_111 q_162 q_1918) hdV_X12_spoils ⟨rfl, rfl⟩ ⟨(Nat.le_of_ble_eq_true rfl), (Nat.le_of_ble_eq_true rfl)⟩ ⟨(Nat.le_of_ble_eq_true rfl), (Nat.le_of_ble_eq_true rfl)⟩ 12 rfl rfl rfl rfl hl14.1 rfl (Nat.le_of_ble_eq_true rfl) dX12_goesBy_235) (fun u_36 H1 locs hp hw38 => ?_)
    obtain ⟨gnow_39, rfl⟩ : ∃ z, z = u_36 := ⟨_, rfl⟩
    generalize H1 = H at hw38 ⊢
    have hw40 : WD D A s.heap (MW cI cJ M mr mi (va_up (va_up (va_up (va_up (va_up mf 1 gnow_39) 16 gbook_19) 53 g_11) 54 g_12) 55 g_10) mg) H locs := hw38
    obtain ⟨hp_41, hp_42, hp_43, hp_44, hp_45⟩ := hp
    have hp_41 : (gnow_39 2).toInt = (gnow_29 2).toInt := hp_41
    have hp_42 : (gnow_39 3).toInt = (gnow_29 3).toInt := hp_42
    have hp_43 : (gnow_39 5).toInt = (gnow_29 5).toInt := hp_43
    have hp_44 : (gnow_39 0).toInt = (gnow_29 0).toInt := hp_44
    have hp_45 : (gnow_39 1).toInt = (gnow_29 1).toInt := hp_45
    refine lv_aload_n (pc := 238) E.1 E.2.1 dX12_goesBy_238 rfl (lv_at hl14 0 rfl) ?_
    refine cm_v (pc := 239) hw40 (rn_M (As := []) (rest := []) E hw40 (s_snowsU l D cI cJ _ M mr mi (va_up (va_up (va_up (va_up (va_up mf 1 gnow_39) 16 gbook_19) 53 g_11) 54 g_12) 55 g_10) mg ) (gdV q_1919 q_1921 q_112 q_162 q_1922) hdV_X12_snows ⟨rfl, rfl⟩ ⟨(Nat.le_of_ble_eq_true rfl), (Nat.le_of_ble_eq_true rfl)⟩ ⟨(Nat.le_of_ble_eq_true rfl), (Nat.le_of_ble_eq_true rfl)⟩ 12 rfl rfl rfl rfl hl14.1 rfl (Nat.le_of_ble_eq_true rfl) dX12_goesBy_239) (fun u_46 H1 locs hp hw48 => ?_)
    obtain ⟨gnow_49, rfl⟩ : ∃ z, z = u_46 := ⟨_, rfl⟩
    generalize H1 = H at hw48 ⊢
    have hw50 : WD D A s.heap (MW cI cJ M mr mi (va_up (va_up (va_up (va_up (va_up mf 1 gnow_49) 16 gbook_19) 53 g_11) 54 g_12) 55 g_10) mg) H locs := hw48
    obtain ⟨hp_51, hp_52, hp_53, hp_54, hp_55⟩ := hp
    have hp_51 : (gnow_49 2).toInt = (gnow_39 2).toInt := hp_51
    have hp_52 : (gnow_49 3).toInt = (gnow_39 3).toInt := hp_52
    have hp_53 : (gnow_49 5).toInt = (gnow_39 5).toInt := hp_53
    have hp_54 : (gnow_49 0).toInt = (gnow_39 0).toInt := hp_54
    have hp_55 : ((mi 5).toInt = 0 → gnow_49 1 = fw1 (mi 12).toInt (gnow_39 1)) := hp_55
    refine lv_aload_n (pc := 242) E.1 E.2.1 dX12_goesBy_242 rfl (lv_at hl14 0 rfl) ?_
    refine x_get (pc := 243) (T := TX12) (N := 70) (ci := 12) (v := .ref (mr 1)) E hw50 inX12 0 1 q_1400 rfl rfl (by decide) rfl rfl dX12_goesBy_243 ?_
    refine lv_iconst (pc := 246) (v := 0) E.1 E.2.1 dX12_goesBy_246 (by decide +kernel) ?_
    refine lv_aload_n (pc := 247) E.1 E.2.1 dX12_goesBy_247 rfl (lv_at hl14 0 rfl) ?_
    refine x_get (pc := 248) (T := TX12) (N := 70) (ci := 12) (v := .ref (mr 1)) E hw50 inX12 0 1 q_1400 rfl rfl (by decide) rfl rfl dX12_goesBy_248 ?_
    refine lv_iconst (pc := 251) (v := 0) E.1 E.2.1 dX12_goesBy_251 (by decide +kernel) ?_
    refine x_iald (pc := 252) (f := gnow_49) E hw50 1 rfl (inbE (a := 0) (by decide +kernel) (by omega)) dX12_goesBy_252 ?_
    refine lv_topi (fun v_56 ev_56 => ?_)
    have hv_56 : v_56.toInt = (gnow_49 0).toInt := by rw [ev_56]; rfl
    refine lv_iconst (pc := 253) (v := 1) E.1 E.2.1 dX12_goesBy_253 (by decide +kernel) ?_
    refine lv_iadd (pc := 254) E.1 E.2.1 dX12_goesBy_254 ?_
    refine lv_topi (fun v_57 ev_57 => ?_)
    have hv_57 : v_57.toInt = v_56.toInt + 1 := by rw [ev_57]; exact addE rfl (by decide +kernel) (by omega)
    refine x_iastG (pc := 255) (f := gnow_49) (wf := fun g => (MW cI cJ M mr mi (va_up (va_up (va_up (va_up (va_up mf 1 g) 16 gbook_19) 53 g_11) 54 g_12) 55 g_10) mg)) E hw50 1 rfl (inbE (a := 0) (by decide +kernel) (by omega)) (fun _ => rfl) dX12_goesBy_255 (fun g_58 H locs eg_58 hw59 => ?_)
    have ht_60 : (g_58 0).toInt = (v_57 : Int32).toInt := by rw [eg_58]; rfl
    have ht_61 : (g_58 1).toInt = (gnow_49 1).toInt := by rw [eg_58]; rfl
    have ht_62 : (g_58 2).toInt = (gnow_49 2).toInt := by rw [eg_58]; rfl
    have ht_63 : (g_58 3).toInt = (gnow_49 3).toInt := by rw [eg_58]; rfl
    have ht_64 : (g_58 5).toInt = (gnow_49 5).toInt := by rw [eg_58]; rfl
    refine lv_iload_n (pc := 256) E.1 E.2.1 dX12_goesBy_256 rfl (lv_at hl14 2 rfl) ?_
    exact em_z (w1 := (fun (u : (Nat → Int32) × (Nat → Int32) × (Nat → Int32) × (Nat → Int32) × (Nat → Int32)) => (MW cI cJ M mr mi (va_up (va_up (va_up (va_up (va_up mf 1 u.1) 55 u.2.1) 53 u.2.2.1) 54 u.2.2.2.1) 16 u.2.2.2.2) mg))) E hr hlk (g_58, g_10, g_11, g_12, gbook_19) hw59 ⟨hj_12_2, hj_12_3, (by show 0 ≤ (g_58 2).toInt; omega), (by show (g_58 2).toInt ≤ 150; omega), (by show 0 ≤ (g_58 5).toInt; omega), (by show (g_58 5).toInt ≤ 200; omega), (by show 0 ≤ (g_58 3).toInt; omega), (by show (g_58 3).toInt + 1 ≤ (mi 6).toInt; omega), (by show (g_58 0).toInt = ((mf 1) 0).toInt + 1; omega), (show ((mi 5).toInt = 0 → g_58 1 = fw1 (mi 12).toInt ((mf 1) 1)) from (fun h => fw1_c (hp_55 (by omega)) (Int32.toInt_inj.mp (by omega)) (Int32.toInt_inj.mp (by omega)) rfl))⟩ (bool_nar (by omega)) (Nat.le_of_ble_eq_true rfl) (Nat.le_of_ble_eq_true rfl) dX12_goesBy_257
  have join_65 : ∀ (x_66 : Int32) (x_67 : Int32) (x_68 : Int32) (x_69 : Int32) (x_70 : Int32) (x_71 : Int32) (g_72 : Nat → Int32) (g_73 : Nat → Int32) (g_74 : Nat → Int32) (g_75 : Nat → Int32) (H : Heap) (locs : List Loc) (ls : Array Slot), (0 ≤ x_66.toInt) ∧ (x_66.toInt + 1 ≤ (mi 6).toInt) ∧ (0 ≤ x_68.toInt) ∧ (x_68.toInt ≤ 1) ∧ (0 ≤ (g_72 2).toInt) ∧ ((g_72 2).toInt ≤ 150) ∧ (0 ≤ (g_72 3).toInt) ∧ ((g_72 3).toInt + 1 ≤ (mi 6).toInt) ∧ (0 ≤ (g_72 5).toInt) ∧ ((g_72 5).toInt ≤ 200) ∧ ((g_72 0).toInt = ((mf 1) 0).toInt) ∧ ((g_72 1).toInt = ((mf 1) 1).toInt) → WD D A s.heap (MW cI cJ M mr mi (va_up (va_up (va_up (va_up mf 1 g_72) 53 g_74) 54 g_75) 55 g_73) mg) H locs → lv_has ls 7 [(0, .ref M), (1, .int x_66), (2, .int x_67), (3, .int x_68), (4, .int x_69), (5, .int x_70), (6, .int x_71)] → W p l e ({ frames := 7, cells := 0, slots := 0, locals := 175 } : Room) s m ([.ref M] : List Value).toArray below meth c H locs 0 0 (MQ below (va_Qi (fun (r : Int32) (u : (Nat → Int32) × (Nat → Int32) × (Nat → Int32) × (Nat → Int32) × (Nat → Int32)) => (0 ≤ r.toInt) ∧ (r.toInt ≤ 1) ∧ (0 ≤ (u.1 2).toInt) ∧ ((u.1 2).toInt ≤ 150) ∧ (0 ≤ (u.1 5).toInt) ∧ ((u.1 5).toInt ≤ 200) ∧ (0 ≤ (u.1 3).toInt) ∧ ((u.1 3).toInt + 1 ≤ (mi 6).toInt) ∧ ((u.1 0).toInt = ((mf 1) 0).toInt + 1) ∧ (((mi 5).toInt = 0 → u.1 1 = fw1 (mi 12).toInt ((mf 1) 1)))) (fun u => QW D cI cJ A ((fun (u : (Nat → Int32) × (Nat → Int32) × (Nat → Int32) × (Nat → Int32) × (Nat → Int32)) => (MW cI cJ M mr mi (va_up (va_up (va_up (va_up (va_up mf 1 u.1) 55 u.2.1) 53 u.2.2.1) 54 u.2.2.2.1) 16 u.2.2.2.2) mg)) u)) A) ([.ref M] : List Value).toArray s 0 0 A) (F0 m 147 ls []) := by
    intro x_66 x_67 x_68 x_69 x_70 x_71 g_72 g_73 g_74 g_75 H locs ls hinv hw76 hl77
    obtain ⟨hj_75_0, hj_75_1, hj_75_2, hj_75_3, hj_75_4, hj_75_5, hj_75_6, hj_75_7, hj_75_8, hj_75_9, hj_75_10, hj_75_11⟩ := hinv
    refine lv_aload_n (pc := 147) E.1 E.2.1 dX12_goesBy_147 rfl (lv_at hl77 0 rfl) ?_
    refine x_get (pc := 148) (T := TX12) (N := 70) (ci := 12) (v := .ref (mr 1)) E hw76 inX12 0 1 q_1400 rfl rfl (by decide) rfl rfl dX12_goesBy_148 ?_
    refine lv_bipush (pc := 151) (v := 26) E.1 E.2.1 dX12_goesBy_151 (by decide +kernel) ?_
    refine lv_iload_n (pc := 153) E.1 E.2.1 dX12_goesBy_153 rfl (lv_at hl77 1 rfl) ?_
    refine lv_iadd (pc := 154) E.1 E.2.1 dX12_goesBy_154 ?_
    refine lv_topi (fun v_78 ev_78 => ?_)
    have hv_78 : v_78.toInt = 26 + x_66.toInt := by rw [ev_78]; exact addE (by decide +kernel) rfl (by omega)
    refine lv_aload_n (pc := 155) E.1 E.2.1 dX12_goesBy_155 rfl (lv_at hl77 0 rfl) ?_
    refine x_get (pc := 156) (T := TX12) (N := 70) (ci := 12) (v := .ref (mr 1)) E hw76 inX12 0 1 q_1400 rfl rfl (by decide) rfl rfl dX12_goesBy_156 ?_
    refine lv_bipush (pc := 159) (v := 26) E.1 E.2.1 dX12_goesBy_159 (by decide +kernel) ?_
    refine lv_iload_n (pc := 161) E.1 E.2.1 dX12_goesBy_161 rfl (lv_at hl77 1 rfl) ?_
    refine lv_iadd (pc := 162) E.1 E.2.1 dX12_goesBy_162 ?_
    refine lv_topi (fun v_79 ev_79 => ?_)
    have hv_79 : v_79.toInt = 26 + x_66.toInt := by rw [ev_79]; exact addE (by decide +kernel) rfl (by omega)
    refine x_iald (pc := 163) (f := g_72) E hw76 1 rfl (inbE (a := v_79.toInt) rfl (by omega)) dX12_goesBy_163 ?_
    refine lv_topi (fun v_80 ev_80 => ?_)
    refine lv_iconst (pc := 164) (v := 1) E.1 E.2.1 dX12_goesBy_164 (by decide +kernel) ?_
    refine lv_iadd (pc := 165) E.1 E.2.1 dX12_goesBy_165 ?_
    refine lv_topi (fun v_81 ev_81 => ?_)
    refine x_iastG (pc := 166) (f := g_72) (wf := fun g => (MW cI cJ M mr mi (va_up (va_up (va_up (va_up mf 1 g) 53 g_74) 54 g_75) 55 g_73) mg)) E hw76 1 rfl (inbE (a := v_78.toInt) rfl (by omega)) (fun _ => rfl) dX12_goesBy_166 (fun g_82 H locs eg_82 hw83 => ?_)
    have ht_84 : (g_82 0).toInt = (g_72 0).toInt := by rw [eg_82, pk_un (by have q9 := idxI (x := v_78) (by omega); omega)]
    have ht_85 : (g_82 1).toInt = (g_72 1).toInt := by rw [eg_82, pk_un (by have q9 := idxI (x := v_78) (by omega); omega)]
    have ht_86 : (g_82 2).toInt = (g_72 2).toInt := by rw [eg_82, pk_un (by have q9 := idxI (x := v_78) (by omega); omega)]
    have ht_87 : (g_82 3).toInt = (g_72 3).toInt := by rw [eg_82, pk_un (by have q9 := idxI (x := v_78) (by omega); omega)]
    have ht_88 : (g_82 5).toInt = (g_72 5).toInt := by rw [eg_82, pk_un (by have q9 := idxI (x := v_78) (by omega); omega)]
    refine lv_aload_n (pc := 167) E.1 E.2.1 dX12_goesBy_167 rfl (lv_at hl77 0 rfl) ?_
    refine x_get (pc := 168) (T := TX12) (N := 70) (ci := 12) (v := .ref (mr 1)) E hw83 inX12 0 1 q_1400 rfl rfl (by decide) rfl rfl dX12_goesBy_168 ?_
    refine lv_bipush (pc := 171) (v := 36) E.1 E.2.1 dX12_goesBy_171 (by decide +kernel) ?_
    refine lv_iload_n (pc := 173) E.1 E.2.1 dX12_goesBy_173 rfl (lv_at hl77 1 rfl) ?_
    refine lv_iadd (pc := 174) E.1 E.2.1 dX12_goesBy_174 ?_
    refine lv_topi (fun v_89 ev_89 => ?_)
    have hv_89 : v_89.toInt = 36 + x_66.toInt := by rw [ev_89]; exact addE (by decide +kernel) rfl (by omega)
    refine lv_aload_n (pc := 175) E.1 E.2.1 dX12_goesBy_175 rfl (lv_at hl77 0 rfl) ?_
    refine x_get (pc := 176) (T := TX12) (N := 70) (ci := 12) (v := .ref (mr 1)) E hw83 inX12 0 1 q_1400 rfl rfl (by decide) rfl rfl dX12_goesBy_176 ?_
    refine lv_iconst (pc := 179) (v := 0) E.1 E.2.1 dX12_goesBy_179 (by decide +kernel) ?_
    refine x_iald (pc := 180) (f := g_82) E hw83 1 rfl (inbE (a := 0) (by decide +kernel) (by omega)) dX12_goesBy_180 ?_
    refine lv_topi (fun v_90 ev_90 => ?_)
    have hv_90 : v_90.toInt = (g_82 0).toInt := by rw [ev_90]; rfl
    refine lv_iconst (pc := 181) (v := 1) E.1 E.2.1 dX12_goesBy_181 (by decide +kernel) ?_
    refine lv_iadd (pc := 182) E.1 E.2.1 dX12_goesBy_182 ?_
    refine lv_topi (fun v_91 ev_91 => ?_)
    have hv_91 : v_91.toInt = v_90.toInt + 1 := by rw [ev_91]; exact addE rfl (by decide +kernel) (by omega)
    refine x_iastG (pc := 183) (f := g_82) (wf := fun g => (MW cI cJ M mr mi (va_up (va_up (va_up (va_up mf 1 g) 53 g_74) 54 g_75) 55 g_73) mg)) E hw83 1 rfl (inbE (a := v_89.toInt) rfl (by omega)) (fun _ => rfl) dX12_goesBy_183 (fun g_92 H locs eg_92 hw93 => ?_)
    have ht_94 : (g_92 0).toInt = (g_82 0).toInt := by rw [eg_92, pk_un (by have q9 := idxI (x := v_89) (by omega); omega)]
    have ht_95 : (g_92 1).toInt = (g_82 1).toInt := by rw [eg_92, pk_un (by have q9 := idxI (x := v_89) (by omega); omega)]
    have ht_96 : (g_92 2).toInt = (g_82 2).toInt := by rw [eg_92, pk_un (by have q9 := idxI (x := v_89) (by omega); omega)]
    have ht_97 : (g_92 3).toInt = (g_82 3).toInt := by rw [eg_92, pk_un (by have q9 := idxI (x := v_89) (by omega); omega)]
    have ht_98 : (g_92 5).toInt = (g_82 5).toInt := by rw [eg_92, pk_un (by have q9 := idxI (x := v_89) (by omega); omega)]
    refine lv_aload_n (pc := 184) E.1 E.2.1 dX12_goesBy_184 rfl (lv_at hl77 0 rfl) ?_
    refine x_get (pc := 185) (T := TX12) (N := 70) (ci := 12) (v := .ref (mr 1)) E hw93 inX12 0 1 q_1400 rfl rfl (by decide) rfl rfl dX12_goesBy_185 ?_
    refine lv_bipush (pc := 188) (v := 16) E.1 E.2.1 dX12_goesBy_188 (by decide +kernel) ?_
    refine lv_iload_n (pc := 190) E.1 E.2.1 dX12_goesBy_190 rfl (lv_at hl77 1 rfl) ?_
    refine lv_iadd (pc := 191) E.1 E.2.1 dX12_goesBy_191 ?_
    refine lv_topi (fun v_99 ev_99 => ?_)
    have hv_99 : v_99.toInt = 16 + x_66.toInt := by rw [ev_99]; exact addE (by decide +kernel) rfl (by omega)
    refine lv_aload_n (pc := 192) E.1 E.2.1 dX12_goesBy_192 rfl (lv_at hl77 0 rfl) ?_
    refine lv_aload_n (pc := 193) E.1 E.2.1 dX12_goesBy_193 rfl (lv_at hl77 0 rfl) ?_
    refine x_get (pc := 194) (T := TX12) (N := 70) (ci := 12) (v := .ref (mr 1)) E hw93 inX12 0 1 q_1400 rfl rfl (by decide) rfl rfl dX12_goesBy_194 ?_
    refine lv_bipush (pc := 197) (v := 16) E.1 E.2.1 dX12_goesBy_197 (by decide +kernel) ?_
    refine lv_iload_n (pc := 199) E.1 E.2.1 dX12_goesBy_199 rfl (lv_at hl77 1 rfl) ?_
    refine lv_iadd (pc := 200) E.1 E.2.1 dX12_goesBy_200 ?_
    refine lv_topi (fun v_100 ev_100 => ?_)
    have hv_100 : v_100.toInt = 16 + x_66.toInt := by rw [ev_100]; exact addE (by decide +kernel) rfl (by omega)
    refine x_iald (pc := 201) (f := g_92) E hw93 1 rfl (inbE (a := v_100.toInt) rfl (by omega)) dX12_goesBy_201 ?_
    refine lv_topi (fun v_101 ev_101 => ?_)
    refine lv_iconst (pc := 202) (v := 1) E.1 E.2.1 dX12_goesBy_202 (by decide +kernel) ?_
    refine lv_isub (pc := 203) E.1 E.2.1 dX12_goesBy_203 ?_
    refine lv_topi (fun v_102 ev_102 => ?_)
    refine lv_iconst (pc := 204) (v := 0) E.1 E.2.1 dX12_goesBy_204 (by decide +kernel) ?_
    refine lv_bipush (pc := 205) (v := 99) E.1 E.2.1 dX12_goesBy_205 (by decide +kernel) ?_
    refine cm_i (pc := 207) hw93 (rn_M (As := [.int v_102, .int 0, .int 99]) (rest := [.int v_99, .ref (mr 1)]) E hw93 (s_held l D cI cJ _ M mr mi (va_up (va_up (va_up (va_up mf 1 g_92) 53 g_74) 54 g_75) 55 g_73) mg v_102 0 99 (by show (0 : Int32).toInt ≤ (99 : Int32).toInt; have k_0 : (0 : Int32).toInt = 0 := (by decide +kernel); have k_1 : (99 : Int32).toInt = 99 := (by decide +kernel); omega)) (gdV q_1895 q_1897 q_106 q_162 q_1898) hdV_X12_held ⟨rfl, rfl⟩ ⟨(Nat.le_of_ble_eq_true rfl), (Nat.le_of_ble_eq_true rfl)⟩ ⟨(Nat.le_of_ble_eq_true rfl), (Nat.le_of_ble_eq_true rfl)⟩ 12 rfl rfl rfl rfl hl77.1 rfl (Nat.le_of_ble_eq_true rfl) dX12_goesBy_207) (fun r_104 u_103 H1 locs hp hw105 => ?_)
    generalize H1 = H at hw105 ⊢
    have hw106 : WD D A s.heap (MW cI cJ M mr mi (va_up (va_up (va_up (va_up mf 1 g_92) 53 g_74) 54 g_75) 55 g_73) mg) H locs := hw105
    have hp_107 := hp
    have hp_107 : (0 : Int32).toInt ≤ r_104.toInt ∧ r_104.toInt ≤ (99 : Int32).toInt := hp_107
    rw [show (0 : Int32).toInt = 0 from by decide +kernel] at hp_107
    rw [show (99 : Int32).toInt = 99 from by decide +kernel] at hp_107
    refine x_iastG (pc := 210) (f := g_92) (wf := fun g => (MW cI cJ M mr mi (va_up (va_up (va_up (va_up mf 1 g) 53 g_74) 54 g_75) 55 g_73) mg)) E hw106 1 rfl (inbE (a := v_99.toInt) rfl (by omega)) (fun _ => rfl) dX12_goesBy_210 (fun g_108 H locs eg_108 hw109 => ?_)
    have ht_110 : (g_108 0).toInt = (g_92 0).toInt := by rw [eg_108, pk_un (by have q9 := idxI (x := v_99) (by omega); omega)]
    have ht_111 : (g_108 1).toInt = (g_92 1).toInt := by rw [eg_108, pk_un (by have q9 := idxI (x := v_99) (by omega); omega)]
    have ht_112 : (g_108 2).toInt = (g_92 2).toInt := by rw [eg_108, pk_un (by have q9 := idxI (x := v_99) (by omega); omega)]
    have ht_113 : (g_108 3).toInt = (g_92 3).toInt := by rw [eg_108, pk_un (by have q9 := idxI (x := v_99) (by omega); omega)]
    have ht_114 : (g_108 5).toInt = (g_92 5).toInt := by rw [eg_108, pk_un (by have q9 := idxI (x := v_99) (by omega); omega)]
    refine lv_aload_n (pc := 211) E.1 E.2.1 dX12_goesBy_211 rfl (lv_at hl77 0 rfl) ?_
    refine lv_iload_n (pc := 212) E.1 E.2.1 dX12_goesBy_212 rfl (lv_at hl77 1 rfl) ?_
    refine lv_iload (pc := 213) E.1 E.2.1 dX12_goesBy_213 (lv_at hl77 6 rfl) ?_
    refine cm_i (pc := 215) hw109 (rn_M (As := [.int x_66, .int x_71]) (rest := []) E hw109 (s_doesNeedsU l D cI cJ _ M mr mi (va_up (va_up (va_up (va_up mf 1 g_108) 53 g_74) 54 g_75) 55 g_73) mg x_66 x_71 h5) (gdV q_1899 q_1901 q_107 q_162 q_1902) hdV_X12_doesNeeds ⟨rfl, rfl⟩ ⟨(Nat.le_of_ble_eq_true rfl), (Nat.le_of_ble_eq_true rfl)⟩ ⟨(Nat.le_of_ble_eq_true rfl), (Nat.le_of_ble_eq_true rfl)⟩ 12 rfl rfl rfl rfl hl77.1 rfl (Nat.le_of_ble_eq_true rfl) dX12_goesBy_215) (fun r_116 u_115 H1 locs hp hw117 => ?_)
    obtain ⟨gnow_118, rfl⟩ : ∃ z, z = u_115 := ⟨_, rfl⟩
    generalize H1 = H at hw117 ⊢
    have hw119 : WD D A s.heap (MW cI cJ M mr mi (va_up (va_up (va_up (va_up mf 1 gnow_118) 53 g_74) 54 g_75) 55 g_73) mg) H locs := hw117
    obtain ⟨hp_120, hp_121, hp_122, hp_123, hp_124⟩ := hp
    have hp_120 : (gnow_118 2).toInt = (g_108 2).toInt := hp_120
    have hp_121 : (gnow_118 3).toInt = (g_108 3).toInt := hp_121
    have hp_122 : (gnow_118 5).toInt = (g_108 5).toInt := hp_122
    have hp_123 : (gnow_118 0).toInt = (g_108 0).toInt := hp_123
    have hp_124 : (gnow_118 1).toInt = (g_108 1).toInt := hp_124
    refine lv_istore (pc := 218) (lv' := [(5, .int r_116), (0, .ref M), (1, .int x_66), (2, .int x_67), (3, .int x_68), (4, .int x_69), (6, .int x_71)]) E.1 E.2.1 dX12_goesBy_218 hl77 (by decide) rfl (fun ls hl125 => ?_)
    exact join_4 x_66 x_68 x_69 r_116 gnow_118 g_73 g_74 g_75 _ _ _ ⟨hj_75_0, hj_75_1, hj_75_2, hj_75_3, (by show 0 ≤ (gnow_118 2).toInt; omega), (by show (gnow_118 2).toInt ≤ 150; omega), (by show 0 ≤ (gnow_118 3).toInt; omega), (by show (gnow_118 3).toInt + 1 ≤ (mi 6).toInt; omega), (by show 0 ≤ (gnow_118 5).toInt; omega), (by show (gnow_118 5).toInt ≤ 200; omega), (by show (gnow_118 0).toInt = ((mf 1) 0).toInt; omega), (by show (gnow_118 1).toInt = ((mf 1) 1).toInt; omega)⟩ hw119 (lv_sub hl125 [1, 2, 4, 5, 0] rfl)
  have join_126 : ∀ (x_127 : Int32) (x_128 : Int32) (x_129 : Int32) (x_130 : Int32) (g_131 : Nat → Int32) (g_132 : Nat → Int32) (g_133 : Nat → Int32) (g_134 : Nat → Int32) (H : Heap) (locs : List Loc) (ls : Array Slot), (0 ≤ x_127.toInt) ∧ (x_127.toInt + 1 ≤ (mi 6).toInt) ∧ (0 ≤ x_129.toInt) ∧ (x_129.toInt ≤ 1) ∧ (0 ≤ (g_131 2).toInt) ∧ ((g_131 2).toInt ≤ 150) ∧ (0 ≤ (g_131 3).toInt) ∧ ((g_131 3).toInt + 1 ≤ (mi 6).toInt) ∧ (0 ≤ (g_131 5).toInt) ∧ ((g_131 5).toInt ≤ 200) ∧ ((g_131 0).toInt = ((mf 1) 0).toInt) ∧ ((g_131 1).toInt = ((mf 1) 1).toInt) → WD D A s.heap (MW cI cJ M mr mi (va_up (va_up (va_up (va_up mf 1 g_131) 53 g_133) 54 g_134) 55 g_132) mg) H locs → lv_has ls 7 [(0, .ref M), (1, .int x_127), (2, .int x_128), (3, .int x_129), (4, .int x_130)] → W p l e ({ frames := 7, cells := 0, slots := 0, locals := 175 } : Room) s m ([.ref M] : List Value).toArray below meth c H locs 0 0 (MQ below (va_Qi (fun (r : Int32) (u : (Nat → Int32) × (Nat → Int32) × (Nat → Int32) × (Nat → Int32) × (Nat → Int32)) => (0 ≤ r.toInt) ∧ (r.toInt ≤ 1) ∧ (0 ≤ (u.1 2).toInt) ∧ ((u.1 2).toInt ≤ 150) ∧ (0 ≤ (u.1 5).toInt) ∧ ((u.1 5).toInt ≤ 200) ∧ (0 ≤ (u.1 3).toInt) ∧ ((u.1 3).toInt + 1 ≤ (mi 6).toInt) ∧ ((u.1 0).toInt = ((mf 1) 0).toInt + 1) ∧ (((mi 5).toInt = 0 → u.1 1 = fw1 (mi 12).toInt ((mf 1) 1)))) (fun u => QW D cI cJ A ((fun (u : (Nat → Int32) × (Nat → Int32) × (Nat → Int32) × (Nat → Int32) × (Nat → Int32)) => (MW cI cJ M mr mi (va_up (va_up (va_up (va_up (va_up mf 1 u.1) 55 u.2.1) 53 u.2.2.1) 54 u.2.2.2.1) 16 u.2.2.2.2) mg)) u)) A) ([.ref M] : List Value).toArray s 0 0 A) (F0 m 112 ls []) := by
    intro x_127 x_128 x_129 x_130 g_131 g_132 g_133 g_134 H locs ls hinv hw135 hl136
    obtain ⟨hj_134_0, hj_134_1, hj_134_2, hj_134_3, hj_134_4, hj_134_5, hj_134_6, hj_134_7, hj_134_8, hj_134_9, hj_134_10, hj_134_11⟩ := hinv
    refine lv_iconst (pc := 112) (v := 0) E.1 E.2.1 dX12_goesBy_112 (by decide +kernel) ?_
    refine lv_istore (pc := 113) (lv' := [(5, .int 0), (0, .ref M), (1, .int x_127), (2, .int x_128), (3, .int x_129), (4, .int x_130)]) E.1 E.2.1 dX12_goesBy_113 hl136 (by decide) rfl (fun ls hl137 => ?_)
    refine lv_iload_n (pc := 115) E.1 E.2.1 dX12_goesBy_115 rfl (lv_at hl137 4 rfl) ?_
    refine lv_if_eq (pc := 116) (tgt := 220) E.1 E.2.1 dX12_goesBy_116 (by decide) (fun c_138 => ?_) (fun c_138 => ?_)
    · skip
      have hc_138 := eqE (a := x_129.toInt) (b := 0) rfl (by decide +kernel) c_138
      exact join_4 x_127 x_129 x_130 0 g_131 g_132 g_133 g_134 _ _ _ ⟨hj_134_0, hj_134_1, hj_134_2, hj_134_3, hj_134_4, hj_134_5, hj_134_6, hj_134_7, hj_134_8, hj_134_9, hj_134_10, hj_134_11⟩ hw135 (lv_sub hl137 [1, 2, 4, 5, 0] rfl)
    · skip
      have hc_138 := neE (a := x_129.toInt) (b := 0) rfl (by decide +kernel) c_138
      refine lv_aload_n (pc := 119) E.1 E.2.1 dX12_goesBy_119 rfl (lv_at hl137 1 rfl) ?_
      refine x_get (pc := 120) (T := TX12) (N := 70) (ci := 12) (v := .ref (mr 1)) E hw135 inX12 0 1 q_1400 rfl rfl (by decide) rfl rfl dX12_goesBy_120 ?_
      refine lv_bipush (pc := 123) (v := 36) E.1 E.2.1 dX12_goesBy_123 (by decide +kernel) ?_
      refine lv_iload_n (pc := 125) E.1 E.2.1 dX12_goesBy_125 rfl (lv_at hl137 2 rfl) ?_
      refine lv_iadd (pc := 126) E.1 E.2.1 dX12_goesBy_126 ?_
      refine lv_topi (fun v_139 ev_139 => ?_)
      have hv_139 : v_139.toInt = 36 + x_127.toInt := by rw [ev_139]; exact addE (by decide +kernel) rfl (by omega)
      refine x_iald (pc := 127) (f := g_131) E hw135 1 rfl (inbE (a := v_139.toInt) rfl (by omega)) dX12_goesBy_127 ?_
      refine lv_topi (fun v_140 ev_140 => ?_)
      refine lv_if_le (pc := 128) (tgt := 144) E.1 E.2.1 dX12_goesBy_128 (by decide) (fun c_141 => ?_) (fun c_141 => ?_)
      · skip
        have hc_141 := leE (a := v_140.toInt) (b := 0) rfl (by decide +kernel) c_141
        refine lv_iconst (pc := 144) (v := 0) E.1 E.2.1 dX12_goesBy_144 (by decide +kernel) ?_
        refine lv_istore (pc := 145) (lv' := [(6, .int 0), (5, .int 0), (0, .ref M), (1, .int x_127), (2, .int x_128), (3, .int x_129), (4, .int x_130)]) E.1 E.2.1 dX12_goesBy_145 hl137 (by decide) rfl (fun ls hl142 => ?_)
        exact join_65 x_127 x_128 x_129 x_130 0 0 g_131 g_132 g_133 g_134 _ _ _ ⟨hj_134_0, hj_134_1, hj_134_2, hj_134_3, hj_134_4, hj_134_5, hj_134_6, hj_134_7, hj_134_8, hj_134_9, hj_134_10, hj_134_11⟩ hw135 (lv_sub hl142 [2, 3, 4, 5, 6, 1, 0] rfl)
      · skip
        have hc_141 := nleE (a := v_140.toInt) (b := 0) rfl (by decide +kernel) c_141
        refine lv_aload_n (pc := 131) E.1 E.2.1 dX12_goesBy_131 rfl (lv_at hl137 1 rfl) ?_
        refine lv_iload_n (pc := 132) E.1 E.2.1 dX12_goesBy_132 rfl (lv_at hl137 2 rfl) ?_
        refine cm_i (pc := 133) hw135 (rn_M (As := [.int x_127]) (rest := []) E hw135 (s_sinceLast l D cI cJ _ M mr mi (va_up (va_up (va_up (va_up mf 1 g_131) 53 g_133) 54 g_134) 55 g_132) mg x_127 (by show 0 ≤ x_127.toInt ∧ x_127.toInt ≤ 9; omega)) (gdV q_1863 q_1865 q_98 q_162 q_1866) hdV_X12_sinceLast ⟨rfl, rfl⟩ ⟨(Nat.le_of_ble_eq_true rfl), (Nat.le_of_ble_eq_true rfl)⟩ ⟨(Nat.le_of_ble_eq_true rfl), (Nat.le_of_ble_eq_true rfl)⟩ 12 rfl rfl rfl rfl hl137.1 rfl (Nat.le_of_ble_eq_true rfl) dX12_goesBy_133) (fun r_144 u_143 H1 locs hp hw145 => ?_)
        generalize H1 = H at hw145 ⊢
        have hw146 : WD D A s.heap (MW cI cJ M mr mi (va_up (va_up (va_up (va_up mf 1 g_131) 53 g_133) 54 g_134) 55 g_132) mg) H locs := hw145
        refine lv_iconst (pc := 136) (v := 1) E.1 E.2.1 dX12_goesBy_136 (by decide +kernel) ?_
        refine lv_icmp_ne (pc := 137) (tgt := 144) E.1 E.2.1 dX12_goesBy_137 (by decide) (fun c_147 => ?_) (fun c_147 => ?_)
        · skip
          have hc_147 := neE (a := r_144.toInt) (b := 1) rfl (by decide +kernel) c_147
          refine lv_iconst (pc := 144) (v := 0) E.1 E.2.1 dX12_goesBy_144 (by decide +kernel) ?_
          refine lv_istore (pc := 145) (lv' := [(6, .int 0), (5, .int 0), (0, .ref M), (1, .int x_127), (2, .int x_128), (3, .int x_129), (4, .int x_130)]) E.1 E.2.1 dX12_goesBy_145 hl137 (by decide) rfl (fun ls hl148 => ?_)
          exact join_65 x_127 x_128 x_129 x_130 0 0 g_131 g_132 g_133 g_134 _ _ _ ⟨hj_134_0, hj_134_1, hj_134_2, hj_134_3, hj_134_4, hj_134_5, hj_134_6, hj_134_7, hj_134_8, hj_134_9, hj_134_10, hj_134_11⟩ hw146 (lv_sub hl148 [2, 3, 4, 5, 6, 1, 0] rfl)
        · skip
          have hc_147 := eqE (a := r_144.toInt) (b := 1) rfl (by decide +kernel) c_147
          refine lv_iconst (pc := 140) (v := 1) E.1 E.2.1 dX12_goesBy_140 (by decide +kernel) ?_
          refine lv_goto (pc := 141) (tgt := 145) E.1 E.2.1 dX12_goesBy_141 (by decide) ?_
          refine lv_istore (pc := 145) (lv' := [(6, .int 1), (5, .int 0), (0, .ref M), (1, .int x_127), (2, .int x_128), (3, .int x_129), (4, .int x_130)]) E.1 E.2.1 dX12_goesBy_145 hl137 (by decide) rfl (fun ls hl149 => ?_)
          exact join_65 x_127 x_128 x_129 x_130 0 1 g_131 g_132 g_133 g_134 _ _ _ ⟨hj_134_0, hj_134_1, hj_134_2, hj_134_3, hj_134_4, hj_134_5, hj_134_6, hj_134_7, hj_134_8, hj_134_9, hj_134_10, hj_134_11⟩ hw146 (lv_sub hl149 [2, 3, 4, 5, 6, 1, 0] rfl)
  have join_150 : ∀ (g_151 : Nat → Int32) (g_152 : Nat → Int32) (g_153 : Nat → Int32) (g_154 : Nat → Int32) (H : Heap) (locs : List Loc) (ls : Array Slot), (0 ≤ (g_151 2).toInt) ∧ ((g_151 2).toInt ≤ 150) ∧ (0 ≤ (g_151 3).toInt) ∧ ((g_151 3).toInt + 1 ≤ (mi 6).toInt) ∧ (0 ≤ (g_151 5).toInt) ∧ ((g_151 5).toInt ≤ 200) ∧ ((g_151 0).toInt = ((mf 1) 0).toInt) ∧ ((g_151 1).toInt = ((mf 1) 1).toInt) → WD D A s.heap (MW cI cJ M mr mi (va_up (va_up (va_up (va_up mf 1 g_151) 53 g_153) 54 g_154) 55 g_152) mg) H locs → lv_has ls 7 [(0, .ref M)] → W p l e ({ frames := 7, cells := 0, slots := 0, locals := 175 } : Room) s m ([.ref M] : List Value).toArray below meth c H locs 0 0 (MQ below (va_Qi (fun (r : Int32) (u : (Nat → Int32) × (Nat → Int32) × (Nat → Int32) × (Nat → Int32) × (Nat → Int32)) => (0 ≤ r.toInt) ∧ (r.toInt ≤ 1) ∧ (0 ≤ (u.1 2).toInt) ∧ ((u.1 2).toInt ≤ 150) ∧ (0 ≤ (u.1 5).toInt) ∧ ((u.1 5).toInt ≤ 200) ∧ (0 ≤ (u.1 3).toInt) ∧ ((u.1 3).toInt + 1 ≤ (mi 6).toInt) ∧ ((u.1 0).toInt = ((mf 1) 0).toInt + 1) ∧ (((mi 5).toInt = 0 → u.1 1 = fw1 (mi 12).toInt ((mf 1) 1)))) (fun u => QW D cI cJ A ((fun (u : (Nat → Int32) × (Nat → Int32) × (Nat → Int32) × (Nat → Int32) × (Nat → Int32)) => (MW cI cJ M mr mi (va_up (va_up (va_up (va_up (va_up mf 1 u.1) 55 u.2.1) 53 u.2.2.1) 54 u.2.2.2.1) 16 u.2.2.2.2) mg)) u)) A) ([.ref M] : List Value).toArray s 0 0 A) (F0 m 40 ls []) := by
    intro g_151 g_152 g_153 g_154 H locs ls hinv hw155 hl156
    obtain ⟨hj_154_0, hj_154_1, hj_154_2, hj_154_3, hj_154_4, hj_154_5, hj_154_6, hj_154_7⟩ := hinv
    refine lv_aload_n (pc := 40) E.1 E.2.1 dX12_goesBy_40 rfl (lv_at hl156 0 rfl) ?_
    refine x_get (pc := 41) (T := TX12) (N := 70) (ci := 12) (v := .ref (mr 1)) E hw155 inX12 0 1 q_1400 rfl rfl (by decide) rfl rfl dX12_goesBy_41 ?_
    refine lv_iconst (pc := 44) (v := 3) E.1 E.2.1 dX12_goesBy_44 (by decide +kernel) ?_
    refine x_iald (pc := 45) (f := g_151) E hw155 1 rfl (inbE (a := 3) (by decide +kernel) (by omega)) dX12_goesBy_45 ?_
    refine lv_topi (fun v_157 ev_157 => ?_)
    have hv_157 : v_157.toInt = (g_151 3).toInt := by rw [ev_157]; rfl
    refine lv_istore_n (pc := 46) (lv' := [(1, .int v_157), (0, .ref M)]) E.1 E.2.1 dX12_goesBy_46 rfl hl156 (by decide) rfl (fun ls hl158 => ?_)
    refine lv_aload_n (pc := 47) E.1 E.2.1 dX12_goesBy_47 rfl (lv_at hl158 1 rfl) ?_
    refine lv_iload_n (pc := 48) E.1 E.2.1 dX12_goesBy_48 rfl (lv_at hl158 0 rfl) ?_
    refine cm_i (pc := 49) hw155 (rn_M (As := [.int v_157]) (rest := []) E hw155 (s_burnOf l D cI cJ _ M mr mi (va_up (va_up (va_up (va_up mf 1 g_151) 53 g_153) 54 g_154) 55 g_152) mg v_157 (by show 0 ≤ v_157.toInt ∧ v_157.toInt ≤ 9; omega) h5 h7 h8 h9 h10 (show LW 16 400 (mf 31) (mf 32) (mf 28) (mf 29) (mf 30) ((mf 27) 1).toInt 400 from lf_law1)) (gdV q_1891 q_1893 q_105 q_162 q_1894) hdV_X12_burnOf ⟨rfl, rfl⟩ ⟨(Nat.le_of_ble_eq_true rfl), (Nat.le_of_ble_eq_true rfl)⟩ ⟨(Nat.le_of_ble_eq_true rfl), (Nat.le_of_ble_eq_true rfl)⟩ 12 rfl rfl rfl rfl hl158.1 rfl (Nat.le_of_ble_eq_true rfl) dX12_goesBy_49) (fun r_160 u_159 H1 locs hp hw161 => ?_)
    obtain ⟨gasked_162, gstack_163⟩ := u_159
    generalize H1 = H at hw161 ⊢
    have hw164 : WD D A s.heap (MW cI cJ M mr mi (va_up (va_up (va_up (va_up mf 1 g_151) 53 gasked_162) 54 gstack_163) 55 g_152) mg) H locs := hw161
    obtain ⟨hp_165, hp_166⟩ := hp
    have hp_165 : 0 ≤ r_160.toInt := hp_165
    have hp_166 : r_160.toInt ≤ 99 := hp_166
    refine lv_istore_n (pc := 52) (lv' := [(2, .int r_160), (1, .int v_157), (0, .ref M)]) E.1 E.2.1 dX12_goesBy_52 rfl hl158 (by decide) rfl (fun ls hl167 => ?_)
    refine lv_aload_n (pc := 53) E.1 E.2.1 dX12_goesBy_53 rfl (lv_at hl167 2 rfl) ?_
    refine x_get (pc := 54) (T := TX12) (N := 70) (ci := 12) (v := .ref (mr 1)) E hw164 inX12 0 1 q_1400 rfl rfl (by decide) rfl rfl dX12_goesBy_54 ?_
    refine lv_bipush (pc := 57) (v := 6) E.1 E.2.1 dX12_goesBy_57 (by decide +kernel) ?_
    refine lv_iload_n (pc := 59) E.1 E.2.1 dX12_goesBy_59 rfl (lv_at hl167 1 rfl) ?_
    refine lv_iadd (pc := 60) E.1 E.2.1 dX12_goesBy_60 ?_
    refine lv_topi (fun v_168 ev_168 => ?_)
    have hv_168 : v_168.toInt = 6 + v_157.toInt := by rw [ev_168]; exact addE (by decide +kernel) rfl (by omega)
    refine x_iald (pc := 61) (f := g_151) E hw164 1 rfl (inbE (a := v_168.toInt) rfl (by omega)) dX12_goesBy_61 ?_
    refine lv_topi (fun v_169 ev_169 => ?_)
    refine lv_iload_n (pc := 62) E.1 E.2.1 dX12_goesBy_62 rfl (lv_at hl167 0 rfl) ?_
    refine lv_icmp_lt (pc := 63) (tgt := 70) E.1 E.2.1 dX12_goesBy_63 (by decide) (fun c_170 => ?_) (fun c_170 => ?_)
    · skip
      have hc_170 := ltE (a := v_169.toInt) (b := r_160.toInt) rfl rfl c_170
      refine lv_iconst (pc := 70) (v := 0) E.1 E.2.1 dX12_goesBy_70 (by decide +kernel) ?_
      refine lv_istore_n (pc := 71) (lv' := [(3, .int 0), (2, .int r_160), (1, .int v_157), (0, .ref M)]) E.1 E.2.1 dX12_goesBy_71 rfl hl167 (by decide) rfl (fun ls hl171 => ?_)
      refine lv_iload_n (pc := 72) E.1 E.2.1 dX12_goesBy_72 rfl (lv_at hl171 0 rfl) ?_
      refine lv_if_eq (pc := 73) (tgt := 80) E.1 E.2.1 dX12_goesBy_73 (by decide) (fun _ => ?_) (fun c_172 => absurd (meqE (a := 0) (b := 0) (by decide +kernel) (by decide +kernel) (by omega)) c_172)
      refine lv_aload_n (pc := 80) E.1 E.2.1 dX12_goesBy_80 rfl (lv_at hl171 3 rfl) ?_
      refine x_get (pc := 81) (T := TX12) (N := 70) (ci := 12) (v := .ref (mr 1)) E hw164 inX12 0 1 q_1400 rfl rfl (by decide) rfl rfl dX12_goesBy_81 ?_
      refine lv_bipush (pc := 84) (v := 6) E.1 E.2.1 dX12_goesBy_84 (by decide +kernel) ?_
      refine lv_iload_n (pc := 86) E.1 E.2.1 dX12_goesBy_86 rfl (lv_at hl171 2 rfl) ?_
      refine lv_iadd (pc := 87) E.1 E.2.1 dX12_goesBy_87 ?_
      refine lv_topi (fun v_173 ev_173 => ?_)
      have hv_173 : v_173.toInt = 6 + v_157.toInt := by rw [ev_173]; exact addE (by decide +kernel) rfl (by omega)
      refine x_iald (pc := 88) (f := g_151) E hw164 1 rfl (inbE (a := v_173.toInt) rfl (by omega)) dX12_goesBy_88 ?_
      refine lv_topi (fun v_174 ev_174 => ?_)
      refine lv_istore (pc := 89) (lv' := [(4, .int v_174), (3, .int 0), (2, .int r_160), (1, .int v_157), (0, .ref M)]) E.1 E.2.1 dX12_goesBy_89 hl171 (by decide) rfl (fun ls hl175 => ?_)
      refine lv_aload_n (pc := 91) E.1 E.2.1 dX12_goesBy_91 rfl (lv_at hl175 4 rfl) ?_
      refine x_get (pc := 92) (T := TX12) (N := 70) (ci := 12) (v := .ref (mr 1)) E hw164 inX12 0 1 q_1400 rfl rfl (by decide) rfl rfl dX12_goesBy_92 ?_
      refine lv_bipush (pc := 95) (v := 6) E.1 E.2.1 dX12_goesBy_95 (by decide +kernel) ?_
      refine lv_iload_n (pc := 97) E.1 E.2.1 dX12_goesBy_97 rfl (lv_at hl175 3 rfl) ?_
      refine lv_iadd (pc := 98) E.1 E.2.1 dX12_goesBy_98 ?_
      refine lv_topi (fun v_176 ev_176 => ?_)
      have hv_176 : v_176.toInt = 6 + v_157.toInt := by rw [ev_176]; exact addE (by decide +kernel) rfl (by omega)
      refine lv_aload_n (pc := 99) E.1 E.2.1 dX12_goesBy_99 rfl (lv_at hl175 4 rfl) ?_
      refine x_get (pc := 100) (T := TX12) (N := 70) (ci := 12) (v := .ref (mr 1)) E hw164 inX12 0 1 q_1400 rfl rfl (by decide) rfl rfl dX12_goesBy_100 ?_
      refine lv_bipush (pc := 103) (v := 6) E.1 E.2.1 dX12_goesBy_103 (by decide +kernel) ?_
      refine lv_iload_n (pc := 105) E.1 E.2.1 dX12_goesBy_105 rfl (lv_at hl175 3 rfl) ?_
      refine lv_iadd (pc := 106) E.1 E.2.1 dX12_goesBy_106 ?_
      refine lv_topi (fun v_177 ev_177 => ?_)
      have hv_177 : v_177.toInt = 6 + v_157.toInt := by rw [ev_177]; exact addE (by decide +kernel) rfl (by omega)
      refine x_iald (pc := 107) (f := g_151) E hw164 1 rfl (inbE (a := v_177.toInt) rfl (by omega)) dX12_goesBy_107 ?_
      refine lv_topi (fun v_178 ev_178 => ?_)
      refine lv_iload (pc := 108) E.1 E.2.1 dX12_goesBy_108 (lv_at hl175 0 rfl) ?_
      refine lv_isub (pc := 110) E.1 E.2.1 dX12_goesBy_110 ?_
      refine lv_topi (fun v_179 ev_179 => ?_)
      refine x_iastG (pc := 111) (f := g_151) (wf := fun g => (MW cI cJ M mr mi (va_up (va_up (va_up (va_up mf 1 g) 53 gasked_162) 54 gstack_163) 55 g_152) mg)) E hw164 1 rfl (inbE (a := v_176.toInt) rfl (by omega)) (fun _ => rfl) dX12_goesBy_111 (fun g_180 H locs eg_180 hw181 => ?_)
      have ht_182 : (g_180 0).toInt = (g_151 0).toInt := by rw [eg_180, pk_un (by have q9 := idxI (x := v_176) (by omega); omega)]
      have ht_183 : (g_180 1).toInt = (g_151 1).toInt := by rw [eg_180, pk_un (by have q9 := idxI (x := v_176) (by omega); omega)]
      have ht_184 : (g_180 2).toInt = (g_151 2).toInt := by rw [eg_180, pk_un (by have q9 := idxI (x := v_176) (by omega); omega)]
      have ht_185 : (g_180 3).toInt = (g_151 3).toInt := by rw [eg_180, pk_un (by have q9 := idxI (x := v_176) (by omega); omega)]
      have ht_186 : (g_180 5).toInt = (g_151 5).toInt := by rw [eg_180, pk_un (by have q9 := idxI (x := v_176) (by omega); omega)]
      exact join_126 v_157 r_160 0 v_174 g_180 g_152 gasked_162 gstack_163 _ _ _ ⟨(by show 0 ≤ v_157.toInt; omega), (by show v_157.toInt + 1 ≤ (mi 6).toInt; omega), (by show 0 ≤ (0 : Int32).toInt; have k_0 : (0 : Int32).toInt = 0 := (by decide +kernel); omega), (by show (0 : Int32).toInt ≤ 1; have k_0 : (0 : Int32).toInt = 0 := (by decide +kernel); omega), (by show 0 ≤ (g_180 2).toInt; omega), (by show (g_180 2).toInt ≤ 150; omega), (by show 0 ≤ (g_180 3).toInt; omega), (by show (g_180 3).toInt + 1 ≤ (mi 6).toInt; omega), (by show 0 ≤ (g_180 5).toInt; omega), (by show (g_180 5).toInt ≤ 200; omega), (by show (g_180 0).toInt = ((mf 1) 0).toInt; omega), (by show (g_180 1).toInt = ((mf 1) 1).toInt; omega)⟩ hw181 (lv_sub hl175 [4, 3, 2, 1, 0] rfl)
    · skip
      have hc_170 := nltE (a := v_169.toInt) (b := r_160.toInt) rfl rfl c_170
      refine lv_iconst (pc := 66) (v := 1) E.1 E.2.1 dX12_goesBy_66 (by decide +kernel) ?_
      refine lv_goto (pc := 67) (tgt := 71) E.1 E.2.1 dX12_goesBy_67 (by decide) ?_
      refine lv_istore_n (pc := 71) (lv' := [(3, .int 1), (2, .int r_160), (1, .int v_157), (0, .ref M)]) E.1 E.2.1 dX12_goesBy_71 rfl hl167 (by decide) rfl (fun ls hl187 => ?_)
      refine lv_iload_n (pc := 72) E.1 E.2.1 dX12_goesBy_72 rfl (lv_at hl187 0 rfl) ?_
      refine lv_if_eq (pc := 73) (tgt := 80) E.1 E.2.1 dX12_goesBy_73 (by decide) (fun c_188 => absurd c_188 (mneE (a := 1) (b := 0) (by decide +kernel) (by decide +kernel) (by omega))) (fun _ => ?_)
      refine lv_iload_n (pc := 76) E.1 E.2.1 dX12_goesBy_76 rfl (lv_at hl187 1 rfl) ?_
      refine lv_goto (pc := 77) (tgt := 89) E.1 E.2.1 dX12_goesBy_77 (by decide) ?_
      refine lv_istore (pc := 89) (lv' := [(4, .int r_160), (3, .int 1), (2, .int r_160), (1, .int v_157), (0, .ref M)]) E.1 E.2.1 dX12_goesBy_89 hl187 (by decide) rfl (fun ls hl189 => ?_)
      refine lv_aload_n (pc := 91) E.1 E.2.1 dX12_goesBy_91 rfl (lv_at hl189 4 rfl) ?_
      refine x_get (pc := 92) (T := TX12) (N := 70) (ci := 12) (v := .ref (mr 1)) E hw164 inX12 0 1 q_1400 rfl rfl (by decide) rfl rfl dX12_goesBy_92 ?_
      refine lv_bipush (pc := 95) (v := 6) E.1 E.2.1 dX12_goesBy_95 (by decide +kernel) ?_
      refine lv_iload_n (pc := 97) E.1 E.2.1 dX12_goesBy_97 rfl (lv_at hl189 3 rfl) ?_
      refine lv_iadd (pc := 98) E.1 E.2.1 dX12_goesBy_98 ?_
      refine lv_topi (fun v_190 ev_190 => ?_)
      have hv_190 : v_190.toInt = 6 + v_157.toInt := by rw [ev_190]; exact addE (by decide +kernel) rfl (by omega)
      refine lv_aload_n (pc := 99) E.1 E.2.1 dX12_goesBy_99 rfl (lv_at hl189 4 rfl) ?_
      refine x_get (pc := 100) (T := TX12) (N := 70) (ci := 12) (v := .ref (mr 1)) E hw164 inX12 0 1 q_1400 rfl rfl (by decide) rfl rfl dX12_goesBy_100 ?_
      refine lv_bipush (pc := 103) (v := 6) E.1 E.2.1 dX12_goesBy_103 (by decide +kernel) ?_
      refine lv_iload_n (pc := 105) E.1 E.2.1 dX12_goesBy_105 rfl (lv_at hl189 3 rfl) ?_
      refine lv_iadd (pc := 106) E.1 E.2.1 dX12_goesBy_106 ?_
      refine lv_topi (fun v_191 ev_191 => ?_)
      have hv_191 : v_191.toInt = 6 + v_157.toInt := by rw [ev_191]; exact addE (by decide +kernel) rfl (by omega)
      refine x_iald (pc := 107) (f := g_151) E hw164 1 rfl (inbE (a := v_191.toInt) rfl (by omega)) dX12_goesBy_107 ?_
      refine lv_topi (fun v_192 ev_192 => ?_)
      refine lv_iload (pc := 108) E.1 E.2.1 dX12_goesBy_108 (lv_at hl189 0 rfl) ?_
      refine lv_isub (pc := 110) E.1 E.2.1 dX12_goesBy_110 ?_
      refine lv_topi (fun v_193 ev_193 => ?_)
      refine x_iastG (pc := 111) (f := g_151) (wf := fun g => (MW cI cJ M mr mi (va_up (va_up (va_up (va_up mf 1 g) 53 gasked_162) 54 gstack_163) 55 g_152) mg)) E hw164 1 rfl (inbE (a := v_190.toInt) rfl (by omega)) (fun _ => rfl) dX12_goesBy_111 (fun g_194 H locs eg_194 hw195 => ?_)
      have ht_196 : (g_194 0).toInt = (g_151 0).toInt := by rw [eg_194, pk_un (by have q9 := idxI (x := v_190) (by omega); omega)]
      have ht_197 : (g_194 1).toInt = (g_151 1).toInt := by rw [eg_194, pk_un (by have q9 := idxI (x := v_190) (by omega); omega)]
      have ht_198 : (g_194 2).toInt = (g_151 2).toInt := by rw [eg_194, pk_un (by have q9 := idxI (x := v_190) (by omega); omega)]
      have ht_199 : (g_194 3).toInt = (g_151 3).toInt := by rw [eg_194, pk_un (by have q9 := idxI (x := v_190) (by omega); omega)]
      have ht_200 : (g_194 5).toInt = (g_151 5).toInt := by rw [eg_194, pk_un (by have q9 := idxI (x := v_190) (by omega); omega)]
      exact join_126 v_157 r_160 1 r_160 g_194 g_152 gasked_162 gstack_163 _ _ _ ⟨(by show 0 ≤ v_157.toInt; omega), (by show v_157.toInt + 1 ≤ (mi 6).toInt; omega), (by show 0 ≤ (1 : Int32).toInt; have k_0 : (1 : Int32).toInt = 1 := (by decide +kernel); omega), (by show (1 : Int32).toInt ≤ 1; have k_0 : (1 : Int32).toInt = 1 := (by decide +kernel); omega), (by show 0 ≤ (g_194 2).toInt; omega), (by show (g_194 2).toInt ≤ 150; omega), (by show 0 ≤ (g_194 3).toInt; omega), (by show (g_194 3).toInt + 1 ≤ (mi 6).toInt; omega), (by show 0 ≤ (g_194 5).toInt; omega), (by show (g_194 5).toInt ≤ 200; omega), (by show (g_194 0).toInt = ((mf 1) 0).toInt; omega), (by show (g_194 1).toInt = ((mf 1) 1).toInt; omega)⟩ hw195 (lv_sub hl189 [4, 3, 2, 1, 0] rfl)
  refine lv_aload_n (pc := 0) E.1 E.2.1 dX12_goesBy_0 rfl (lv_at hl3 0 rfl) ?_
  refine lv_aload_n (pc := 1) E.1 E.2.1 dX12_goesBy_1 rfl (lv_at hl3 0 rfl) ?_
  refine x_get (pc := 2) (T := TX12) (N := 70) (ci := 12) (v := .ref (mr 1)) E hw1 inX12 0 1 q_1400 rfl rfl (by decide) rfl rfl dX12_goesBy_2 ?_
  refine lv_iconst (pc := 5) (v := 4) E.1 E.2.1 dX12_goesBy_5 (by decide +kernel) ?_
  refine x_iald (pc := 6) (f := (mf 1)) E hw1 1 rfl (inbE (a := 4) (by decide +kernel) (by omega)) dX12_goesBy_6 ?_
  refine lv_topi (fun v_201 ev_201 => ?_)
  refine cm_v (pc := 7) hw1 (rn_M (As := [.int v_201]) (rest := []) E hw1 (s_findsFar l D cI cJ _ M mr mi mf mg v_201 (by show 0 ≤ (mi 6).toInt ∧ (mi 6).toInt ≤ 10; omega) h6 a_paths) (gdV q_1822 q_1824 q_89 q_162 q_1825) hdV_X12_findsFar ⟨rfl, rfl⟩ ⟨(Nat.le_of_ble_eq_true rfl), (Nat.le_of_ble_eq_true rfl)⟩ ⟨(Nat.le_of_ble_eq_true rfl), (Nat.le_of_ble_eq_true rfl)⟩ 12 rfl rfl rfl rfl hl3.1 rfl (Nat.le_of_ble_eq_true rfl) dX12_goesBy_7) (fun u_202 H1 locs hp hw204 => ?_)
  obtain ⟨gfarOf_205, rfl⟩ : ∃ z, z = u_202 := ⟨_, rfl⟩
  generalize H1 = H at hw204 ⊢
  have hw206 : WD D A s.heap (MW cI cJ M mr mi (va_up mf 55 gfarOf_205) mg) H locs := hw204
  refine lv_aload_n (pc := 10) E.1 E.2.1 dX12_goesBy_10 rfl (lv_at hl3 0 rfl) ?_
  refine x_get (pc := 11) (T := TX12) (N := 70) (ci := 12) (v := .ref (mr 1)) E hw206 inX12 0 1 q_1400 rfl rfl (by decide) rfl rfl dX12_goesBy_11 ?_
  refine lv_iconst (pc := 14) (v := 3) E.1 E.2.1 dX12_goesBy_14 (by decide +kernel) ?_
  refine lv_aload_n (pc := 15) E.1 E.2.1 dX12_goesBy_15 rfl (lv_at hl3 0 rfl) ?_
  refine x_get (pc := 16) (T := TX12) (N := 70) (ci := 12) (v := .ref (mr 1)) E hw206 inX12 0 1 q_1400 rfl rfl (by decide) rfl rfl dX12_goesBy_16 ?_
  refine lv_iconst (pc := 19) (v := 5) E.1 E.2.1 dX12_goesBy_19 (by decide +kernel) ?_
  refine x_iald (pc := 20) (f := (mf 1)) E hw206 1 rfl (inbE (a := 5) (by decide +kernel) (by omega)) dX12_goesBy_20 ?_
  refine lv_topi (fun v_207 ev_207 => ?_)
  have hv_207 : v_207.toInt = ((mf 1) 5).toInt := by rw [ev_207]; rfl
  refine lv_aload_n (pc := 21) E.1 E.2.1 dX12_goesBy_21 rfl (lv_at hl3 0 rfl) ?_
  refine x_get (pc := 22) (T := TX12) (N := 70) (ci := 12) (v := .int (mi 49)) E hw206 inX12 0 49 q_1448 rfl rfl (by decide) rfl rfl dX12_goesBy_22 ?_
  refine lv_icmp_ge (pc := 25) (tgt := 35) E.1 E.2.1 dX12_goesBy_25 (by decide) (fun c_208 => ?_) (fun c_208 => ?_)
  · skip
    have hc_208 := leE (a := (mi 49).toInt) (b := v_207.toInt) rfl rfl c_208
    refine lv_aload_n (pc := 35) E.1 E.2.1 dX12_goesBy_35 rfl (lv_at hl3 0 rfl) ?_
    refine cm_i (pc := 36) hw206 (rn_M (As := []) (rest := [.int 3, .ref (mr 1)]) E hw206 (s_nextByLaw l D cI cJ _ M mr mi (va_up mf 55 gfarOf_205) mg h0 h1 h2 h5 h7 h8 h9 h10 (show LW 0 0 (mf 31) (mf 32) (mf 28) (mf 29) (mf 30) ((mf 27) 0).toInt 400 from lf_law0)) (gdV q_1851 q_1853 q_95 q_162 q_1854) hdV_X12_nextByLaw ⟨rfl, rfl⟩ ⟨(Nat.le_of_ble_eq_true rfl), (Nat.le_of_ble_eq_true rfl)⟩ ⟨(Nat.le_of_ble_eq_true rfl), (Nat.le_of_ble_eq_true rfl)⟩ 12 rfl rfl rfl rfl hl3.1 rfl (Nat.le_of_ble_eq_true rfl) dX12_goesBy_36) (fun r_210 u_209 H1 locs hp hw211 => ?_)
    obtain ⟨gasked_212, gstack_213⟩ := u_209
    generalize H1 = H at hw211 ⊢
    have hw214 : WD D A s.heap (MW cI cJ M mr mi (va_up (va_up (va_up mf 53 gasked_212) 54 gstack_213) 55 gfarOf_205) mg) H locs := hw211
    obtain ⟨hp_215, hp_216⟩ := hp
    have hp_215 : 0 ≤ r_210.toInt := hp_215
    have hp_216 : r_210.toInt + 1 ≤ (mi 6).toInt := hp_216
    refine x_iastG (pc := 39) (f := (mf 1)) (wf := fun g => (MW cI cJ M mr mi (va_up (va_up (va_up (va_up mf 1 g) 53 gasked_212) 54 gstack_213) 55 gfarOf_205) mg)) E hw214 1 rfl (inbE (a := 3) (by decide +kernel) (by omega)) (fun _ => rfl) dX12_goesBy_39 (fun g_217 H locs eg_217 hw218 => ?_)
    have ht_219 : (g_217 0).toInt = ((mf 1) 0).toInt := by rw [eg_217]; rfl
    have ht_220 : (g_217 1).toInt = ((mf 1) 1).toInt := by rw [eg_217]; rfl
    have ht_221 : (g_217 2).toInt = ((mf 1) 2).toInt := by rw [eg_217]; rfl
    have ht_222 : (g_217 3).toInt = (r_210 : Int32).toInt := by rw [eg_217]; rfl
    have ht_223 : (g_217 5).toInt = ((mf 1) 5).toInt := by rw [eg_217]; rfl
    exact join_150 g_217 gfarOf_205 gasked_212 gstack_213 _ _ _ ⟨(by show 0 ≤ (g_217 2).toInt; omega), (by show (g_217 2).toInt ≤ 150; omega), (by show 0 ≤ (g_217 3).toInt; omega), (by show (g_217 3).toInt + 1 ≤ (mi 6).toInt; omega), (by show 0 ≤ (g_217 5).toInt; omega), (by show (g_217 5).toInt ≤ 200; omega), (by show (g_217 0).toInt = ((mf 1) 0).toInt; omega), (by show (g_217 1).toInt = ((mf 1) 1).toInt; omega)⟩ hw218 (lv_sub hl3 [0] rfl)
  · skip
    have hc_208 := nleE (a := (mi 49).toInt) (b := v_207.toInt) rfl rfl c_208
    refine lv_aload_n (pc := 28) E.1 E.2.1 dX12_goesBy_28 rfl (lv_at hl3 0 rfl) ?_
    refine cm_i (pc := 29) hw206 (rn_M (As := []) (rest := [.int 3, .ref (mr 1)]) E hw206 (s_nextByRoundU l D cI cJ _ M mr mi (va_up mf 55 gfarOf_205) mg h0 h1 h2 h4.1 (by show ((mf 1) 5).toInt + 1 ≤ (mi 49).toInt; omega) h11.2 (show rndOK (mi 49).toInt (mi 6).toInt (mf 50) from lf_round)) (gdV q_1839 q_1841 q_92 q_162 q_1842) hdV_X12_nextByRound ⟨rfl, rfl⟩ ⟨(Nat.le_of_ble_eq_true rfl), (Nat.le_of_ble_eq_true rfl)⟩ ⟨(Nat.le_of_ble_eq_true rfl), (Nat.le_of_ble_eq_true rfl)⟩ 12 rfl rfl rfl rfl hl3.1 rfl (Nat.le_of_ble_eq_true rfl) dX12_goesBy_29) (fun r_225 u_224 H1 locs hp hw226 => ?_)
    obtain ⟨gnow_227, rfl⟩ : ∃ z, z = u_224 := ⟨_, rfl⟩
    generalize H1 = H at hw226 ⊢
    have hw228 : WD D A s.heap (MW cI cJ M mr mi (va_up (va_up mf 1 gnow_227) 55 gfarOf_205) mg) H locs := hw226
    obtain ⟨hp_229, hp_230, hp_231, hp_232, hp_233, hp_234, hp_235⟩ := hp
    have hp_229 : 0 ≤ r_225.toInt := hp_229
    have hp_230 : r_225.toInt + 1 ≤ (mi 6).toInt := hp_230
    have hp_231 : (gnow_227 2).toInt = ((mf 1) 2).toInt := hp_231
    have hp_232 : (gnow_227 3).toInt = ((mf 1) 3).toInt := hp_232
    have hp_233 : (gnow_227 5).toInt = ((mf 1) 5).toInt + 1 := hp_233
    have hp_234 : (gnow_227 0).toInt = ((mf 1) 0).toInt := hp_234
    have hp_235 : (gnow_227 1).toInt = ((mf 1) 1).toInt := hp_235
    refine lv_goto (pc := 32) (tgt := 39) E.1 E.2.1 dX12_goesBy_32 (by decide) ?_
    refine x_iastG (pc := 39) (f := gnow_227) (wf := fun g => (MW cI cJ M mr mi (va_up (va_up mf 1 g) 55 gfarOf_205) mg)) E hw228 1 rfl (inbE (a := 3) (by decide +kernel) (by omega)) (fun _ => rfl) dX12_goesBy_39 (fun g_236 H locs eg_236 hw237 => ?_)
    have ht_238 : (g_236 0).toInt = (gnow_227 0).toInt := by rw [eg_236]; rfl
    have ht_239 : (g_236 1).toInt = (gnow_227 1).toInt := by rw [eg_236]; rfl
    have ht_240 : (g_236 2).toInt = (gnow_227 2).toInt := by rw [eg_236]; rfl
    have ht_241 : (g_236 3).toInt = (r_225 : Int32).toInt := by rw [eg_236]; rfl
    have ht_242 : (g_236 5).toInt = (gnow_227 5).toInt := by rw [eg_236]; rfl
    exact join_150 g_236 gfarOf_205 (mf 53) (mf 54) _ _ _ ⟨(by show 0 ≤ (g_236 2).toInt; omega), (by show (g_236 2).toInt ≤ 150; omega), (by show 0 ≤ (g_236 3).toInt; omega), (by show (g_236 3).toInt + 1 ≤ (mi 6).toInt; omega), (by show 0 ≤ (g_236 5).toInt; omega), (by show (g_236 5).toInt ≤ 200; omega), (by show (g_236 0).toInt = ((mf 1) 0).toInt; omega), (by show (g_236 1).toInt = ((mf 1) 1).toInt; omega)⟩ hw237 (lv_sub hl3 [0] rfl)
