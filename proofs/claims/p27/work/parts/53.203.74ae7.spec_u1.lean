set_option maxHeartbeats 4000000 in
set_option maxRecDepth 100000 in
theorem s_goesByU (l : Launch) (D : va_G) (cI cJ : ClassId) (sz M : Nat) (mr : Nat → Nat) (mi : Nat → Int32) (mf : Nat → Nat → Int32) (mg : Nat → Nat → Int64)  (h0 : 0 ≤ ((mf 1) 3).toInt) (h1 : ((mf 1) 3).toInt + 1 ≤ (mi 6).toInt) (h2 : (mi 6).toInt ≤ 10) (h3 : 0 ≤ ((mf 1) 2).toInt ∧ ((mf 1) 2).toInt ≤ 150) (h4 : 0 ≤ ((mf 1) 5).toInt ∧ ((mf 1) 5).toInt ≤ 200) (h5 : 0 ≤ (mi 44).toInt ∧ (mi 44).toInt ≤ 10) (h6 : 0 ≤ (mi 42).toInt ∧ (mi 42).toInt ≤ 40) (h7 : 0 ≤ ((mf 27) 0).toInt) (h8 : ((mf 27) 0).toInt ≤ 16) (h9 : 0 ≤ ((mf 27) 1).toInt) (h10 : ((mf 27) 1).toInt ≤ 16) (h11 : 0 ≤ (mi 49).toInt ∧ (mi 49).toInt ≤ 200) (h12 : (-29) ≤ (mi 15).toInt ∧ (mi 15).toInt ≤ 69) (h13 : 0 ≤ ((mf 1) 0).toInt) (h14 : ((mf 1) 0).toInt ≤ 20000) (a_paths : pathsOK (mf 43)) (lf_law0 : LW 0 0 (mf 31) (mf 32) (mf 28) (mf 29) (mf 30) ((mf 27) 0).toInt 400) (lf_law1 : LW 16 400 (mf 31) (mf 32) (mf 28) (mf 29) (mf 30) ((mf 27) 1).toInt 400) (lf_round : rndOK (mi 49).toInt (mi 6).toInt (mf 50)) : Met l yX12_goesBy (Cond.code yX12_goesBy cX12_goesBy 7 (some .boolean) :: GW) ({ frames := 7, cells := 0, slots := 0, locals := 175 } : Room) (va_Pc [.ref M] (PW D cI cJ sz (MW cI cJ M mr mi mf mg) xT)) (va_Qi (fun (r : Int32) (u : (Nat → Int32) × (Nat → Int32) × (Nat → Int32) × (Nat → Int32) × (Nat → Int32)) => (0 ≤ r.toInt) ∧ (r.toInt ≤ 1) ∧ (0 ≤ (u.1 2).toInt) ∧ ((u.1 2).toInt ≤ 150) ∧ (0 ≤ (u.1 5).toInt) ∧ ((u.1 5).toInt ≤ 200) ∧ (0 ≤ (u.1 3).toInt) ∧ ((u.1 3).toInt + 1 ≤ (mi 6).toInt) ∧ ((u.1 0).toInt = ((mf 1) 0).toInt + 1)) (fun u => QW D cI cJ (va_A (MW cI cJ M mr mi mf mg) sz) ((fun (u : (Nat → Int32) × (Nat → Int32) × (Nat → Int32) × (Nat → Int32) × (Nat → Int32)) => (MW cI cJ M mr mi (va_up (va_up (va_up (va_up (va_up mf 1 u.1) 55 u.2.1) 53 u.2.2.1) 54 u.2.2.2.1) 16 u.2.2.2.2) mg)) u)) (va_A (MW cI cJ M mr mi mf mg) sz)) 0 0 (va_A (MW cI cJ M mr mi mf mg) sz) := by
  refine mk_met (y := yX12_goesBy) (bytes := cX12_goesBy) (maxL := 7) (avs := [.ref M]) (WS := (MW cI cJ M mr mi mf mg)) (Qf := fun A => va_Qi (fun (r : Int32) (u : (Nat → Int32) × (Nat → Int32) × (Nat → Int32) × (Nat → Int32) × (Nat → Int32)) => (0 ≤ r.toInt) ∧ (r.toInt ≤ 1) ∧ (0 ≤ (u.1 2).toInt) ∧ ((u.1 2).toInt ≤ 150) ∧ (0 ≤ (u.1 5).toInt) ∧ ((u.1 5).toInt ≤ 200) ∧ (0 ≤ (u.1 3).toInt) ∧ ((u.1 3).toInt + 1 ≤ (mi 6).toInt) ∧ ((u.1 0).toInt = ((mf 1) 0).toInt + 1)) (fun u => QW D cI cJ A ((fun (u : (Nat → Int32) × (Nat → Int32) × (Nat → Int32) × (Nat → Int32) × (Nat → Int32)) => (MW cI cJ M mr mi (va_up (va_up (va_up (va_up (va_up mf 1 u.1) 55 u.2.1) 53 u.2.2.1) 54 u.2.2.2.1) 16 u.2.2.2.2) mg)) u)) A) (by decide) (Nat.le_of_ble_eq_true rfl) ?_
  intro p e s m below meth c A ls E hr hlk hnm hX hw1 hl2
  have hl3 : lv_has ls 7 [(0, .ref M)] := hl2
  have join_4 : ∀ (x_5 : Int32) (x_6 : Int32) (x_7 : Int32) (x_8 : Int32) (g_9 : Nat → Int32) (g_10 : Nat → Int32) (g_11 : Nat → Int32) (g_12 : Nat → Int32) (H : Heap) (locs : List Loc) (ls : Array Slot), (0 ≤ x_5.toInt) ∧ (x_5.toInt + 1 ≤ (mi 6).toInt) ∧ (0 ≤ x_6.toInt) ∧ (x_6.toInt ≤ 1) ∧ (0 ≤ (g_9 2).toInt) ∧ ((g_9 2).toInt ≤ 150) ∧ (0 ≤ (g_9 3).toInt) ∧ ((g_9 3).toInt + 1 ≤ (mi 6).toInt) ∧ (0 ≤ (g_9 5).toInt) ∧ ((g_9 5).toInt ≤ 200) ∧ ((g_9 0).toInt = ((mf 1) 0).toInt) → WD D A s.heap (MW cI cJ M mr mi (va_up (va_up (va_up (va_up mf 1 g_9) 53 g_11) 54 g_12) 55 g_10) mg) H locs → lv_has ls 7 [(0, .ref M), (1, .int x_5), (3, .int x_6), (4, .int x_7), (5, .int x_8)] → W p l e ({ frames := 7, cells := 0, slots := 0, locals := 175 } : Room) s m ([.ref M] : List Value).toArray below meth c H locs 0 0 (MQ below (va_Qi (fun (r : Int32) (u : (Nat → Int32) × (Nat → Int32) × (Nat → Int32) × (Nat → Int32) × (Nat → Int32)) => (0 ≤ r.toInt) ∧ (r.toInt ≤ 1) ∧ (0 ≤ (u.1 2).toInt) ∧ ((u.1 2).toInt ≤ 150) ∧ (0 ≤ (u.1 5).toInt) ∧ ((u.1 5).toInt ≤ 200) ∧ (0 ≤ (u.1 3).toInt) ∧ ((u.1 3).toInt + 1 ≤ (mi 6).toInt) ∧ ((u.1 0).toInt = ((mf 1) 0).toInt + 1)) (fun u => QW D cI cJ A ((fun (u : (Nat → Int32) × (Nat → Int32) × (Nat → Int32) × (Nat → Int32) × (Nat → Int32)) => (MW cI cJ M mr mi (va_up (va_up (va_up (va_up (va_up mf 1 u.1) 55 u.2.1) 53 u.2.2.1) 54 u.2.2.2.1) 16 u.2.2.2.2) mg)) u)) A) ([.ref M] : List Value).toArray s 0 0 A) (F0 m 220 ls []) := by
    intro x_5 x_6 x_7 x_8 g_9 g_10 g_11 g_12 H locs ls hinv hw13 hl14
    obtain ⟨hj_12_0, hj_12_1, hj_12_2, hj_12_3, hj_12_4, hj_12_5, hj_12_6, hj_12_7, hj_12_8, hj_12_9, hj_12_10⟩ := hinv
    refine lv_aload_n (pc := 220) E.1 E.2.1 dX12_goesBy_220 rfl (lv_at hl14 0 rfl) ?_
    refine lv_iload_n (pc := 221) E.1 E.2.1 dX12_goesBy_221 rfl (lv_at hl14 1 rfl) ?_
    refine lv_iload_n (pc := 222) E.1 E.2.1 dX12_goesBy_222 rfl (lv_at hl14 2 rfl) ?_
    refine lv_iload (pc := 223) E.1 E.2.1 dX12_goesBy_223 (lv_at hl14 3 rfl) ?_
    refine lv_iload (pc := 225) E.1 E.2.1 dX12_goesBy_225 (lv_at hl14 4 rfl) ?_
    refine cm_v (pc := 227) hw13 (rn_M (As := [.int x_5, .int x_6, .int x_7, .int x_8]) (rest := []) E hw13 (s_notesU l D cI cJ _ M mr mi (va_up (va_up (va_up (va_up mf 1 g_9) 53 g_11) 54 g_12) 55 g_10) mg x_5 x_6 x_7 x_8 (by show 0 ≤ (g_9 2).toInt ∧ (g_9 2).toInt ≤ 150; omega)) (gdV q_1903 q_1905 q_108 q_162 q_1906) hdV_X12_notes ⟨rfl, rfl⟩ ⟨(Nat.le_of_ble_eq_true rfl), (Nat.le_of_ble_eq_true rfl)⟩ ⟨(Nat.le_of_ble_eq_true rfl), (Nat.le_of_ble_eq_true rfl)⟩ 12 rfl rfl rfl rfl hl14.1 rfl (Nat.le_of_ble_eq_true rfl) dX12_goesBy_227) (fun u_15 H1 locs hp hw17 => ?_)
    obtain ⟨gnow_18, gbook_19⟩ := u_15
    generalize H1 = H at hw17 ⊢
    have hw20 : WD D A s.heap (MW cI cJ M mr mi (va_up (va_up (va_up (va_up (va_up mf 1 gnow_18) 16 gbook_19) 53 g_11) 54 g_12) 55 g_10) mg) H locs := hw17
    obtain ⟨hp_21, hp_22, hp_23, hp_24⟩ := hp
    have hp_21 : 0 ≤ (gnow_18 2).toInt ∧ (gnow_18 2).toInt ≤ 150 := hp_21
    have hp_22 : (gnow_18 3).toInt = (g_9 3).toInt := hp_22
    have hp_23 : (gnow_18 5).toInt = (g_9 5).toInt := hp_23
    have hp_24 : (gnow_18 0).toInt = (g_9 0).toInt := hp_24
    refine lv_aload_n (pc := 230) E.1 E.2.1 dX12_goesBy_230 rfl (lv_at hl14 0 rfl) ?_
    refine cm_v (pc := 231) hw20 (rn_M (As := []) (rest := []) E hw20 (s_owesU l D cI cJ _ M mr mi (va_up (va_up (va_up (va_up (va_up mf 1 gnow_18) 16 gbook_19) 53 g_11) 54 g_12) 55 g_10) mg (by show 0 ≤ (mi 6).toInt ∧ (mi 6).toInt ≤ 10; omega) (by show (-29) ≤ (mi 15).toInt ∧ (mi 15).toInt ≤ 69; omega)) (gdV q_1907 q_1909 q_109 q_162 q_1910) hdV_X12_owes ⟨rfl, rfl⟩ ⟨(Nat.le_of_ble_eq_true rfl), (Nat.le_of_ble_eq_true rfl)⟩ ⟨(Nat.le_of_ble_eq_true rfl), (Nat.le_of_ble_eq_true rfl)⟩ 12 rfl rfl rfl rfl hl14.1 rfl (Nat.le_of_ble_eq_true rfl) dX12_goesBy_231) (fun u_25 H1 locs hp hw27 => ?_)
    obtain ⟨gnow_28, rfl⟩ : ∃ z, z = u_25 := ⟨_, rfl⟩
    generalize H1 = H at hw27 ⊢
    have hw29 : WD D A s.heap (MW cI cJ M mr mi (va_up (va_up (va_up (va_up (va_up mf 1 gnow_28) 16 gbook_19) 53 g_11) 54 g_12) 55 g_10) mg) H locs := hw27
    obtain ⟨hp_30, hp_31, hp_32, hp_33⟩ := hp
    have hp_30 : (gnow_28 2).toInt = (gnow_18 2).toInt := hp_30
    have hp_31 : (gnow_28 3).toInt = (gnow_18 3).toInt := hp_31
    have hp_32 : (gnow_28 5).toInt = (gnow_18 5).toInt := hp_32
    have hp_33 : (gnow_28 0).toInt = (gnow_18 0).toInt := hp_33
    refine lv_aload_n (pc := 234) E.1 E.2.1 dX12_goesBy_234 rfl (lv_at hl14 0 rfl) ?_
    refine cm_v (pc := 235) hw29 (rn_M (As := []) (rest := []) E hw29 (s_spoilsU l D cI cJ _ M mr mi (va_up (va_up (va_up (va_up (va_up mf 1 gnow_28) 16 gbook_19) 53 g_11) 54 g_12) 55 g_10) mg (by show 0 ≤ (mi 44).toInt ∧ (mi 44).toInt ≤ 10; omega)) (gdV q_1915 q_1917 q_111 q_162 q_1918) hdV_X12_spoils ⟨rfl, rfl⟩ ⟨(Nat.le_of_ble_eq_true rfl), (Nat.le_of_ble_eq_true rfl)⟩ ⟨(Nat.le_of_ble_eq_true rfl), (Nat.le_of_ble_eq_true rfl)⟩ 12 rfl rfl rfl rfl hl14.1 rfl (Nat.le_of_ble_eq_true rfl) dX12_goesBy_235) (fun u_34 H1 locs hp hw36 => ?_)
    obtain ⟨gnow_37, rfl⟩ : ∃ z, z = u_34 := ⟨_, rfl⟩
    generalize H1 = H at hw36 ⊢
    have hw38 : WD D A s.heap (MW cI cJ M mr mi (va_up (va_up (va_up (va_up (va_up mf 1 gnow_37) 16 gbook_19) 53 g_11) 54 g_12) 55 g_10) mg) H locs := hw36
    obtain ⟨hp_39, hp_40, hp_41, hp_42⟩ := hp
    have hp_39 : (gnow_37 2).toInt = (gnow_28 2).toInt := hp_39
    have hp_40 : (gnow_37 3).toInt = (gnow_28 3).toInt := hp_40
    have hp_41 : (gnow_37 5).toInt = (gnow_28 5).toInt := hp_41
    have hp_42 : (gnow_37 0).toInt = (gnow_28 0).toInt := hp_42
    refine lv_aload_n (pc := 238) E.1 E.2.1 dX12_goesBy_238 rfl (lv_at hl14 0 rfl) ?_
    refine cm_v (pc := 239) hw38 (rn_M (As := []) (rest := []) E hw38 (s_snowsU l D cI cJ _ M mr mi (va_up (va_up (va_up (va_up (va_up mf 1 gnow_37) 16 gbook_19) 53 g_11) 54 g_12) 55 g_10) mg ) (gdV q_1919 q_1921 q_112 q_162 q_1922) hdV_X12_snows ⟨rfl, rfl⟩ ⟨(Nat.le_of_ble_eq_true rfl), (Nat.le_of_ble_eq_true rfl)⟩ ⟨(Nat.le_of_ble_eq_true rfl), (Nat.le_of_ble_eq_true rfl)⟩ 12 rfl rfl rfl rfl hl14.1 rfl (Nat.le_of_ble_eq_true rfl) dX12_goesBy_239) (fun u_43 H1 locs hp hw45 => ?_)
    obtain ⟨gnow_46, rfl⟩ : ∃ z, z = u_43 := ⟨_, rfl⟩
    generalize H1 = H at hw45 ⊢
    have hw47 : WD D A s.heap (MW cI cJ M mr mi (va_up (va_up (va_up (va_up (va_up mf 1 gnow_46) 16 gbook_19) 53 g_11) 54 g_12) 55 g_10) mg) H locs := hw45
    obtain ⟨hp_48, hp_49, hp_50, hp_51⟩ := hp
    have hp_48 : (gnow_46 2).toInt = (gnow_37 2).toInt := hp_48
    have hp_49 : (gnow_46 3).toInt = (gnow_37 3).toInt := hp_49
    have hp_50 : (gnow_46 5).toInt = (gnow_37 5).toInt := hp_50
    have hp_51 : (gnow_46 0).toInt = (gnow_37 0).toInt := hp_51
    refine lv_aload_n (pc := 242) E.1 E.2.1 dX12_goesBy_242 rfl (lv_at hl14 0 rfl) ?_
    refine x_get (pc := 243) (T := TX12) (N := 70) (ci := 12) (v := .ref (mr 1)) E hw47 inX12 0 1 q_1400 rfl rfl (by decide) rfl rfl dX12_goesBy_243 ?_
    refine lv_iconst (pc := 246) (v := 0) E.1 E.2.1 dX12_goesBy_246 (by decide +kernel) ?_
    refine lv_aload_n (pc := 247) E.1 E.2.1 dX12_goesBy_247 rfl (lv_at hl14 0 rfl) ?_
    refine x_get (pc := 248) (T := TX12) (N := 70) (ci := 12) (v := .ref (mr 1)) E hw47 inX12 0 1 q_1400 rfl rfl (by decide) rfl rfl dX12_goesBy_248 ?_
    refine lv_iconst (pc := 251) (v := 0) E.1 E.2.1 dX12_goesBy_251 (by decide +kernel) ?_
    refine x_iald (pc := 252) (f := gnow_46) E hw47 1 rfl (inbE (a := 0) (by decide +kernel) (by omega)) dX12_goesBy_252 ?_
    refine lv_topi (fun v_52 ev_52 => ?_)
    have hv_52 : v_52.toInt = (gnow_46 0).toInt := by rw [ev_52]; rfl
    refine lv_iconst (pc := 253) (v := 1) E.1 E.2.1 dX12_goesBy_253 (by decide +kernel) ?_
    refine lv_iadd (pc := 254) E.1 E.2.1 dX12_goesBy_254 ?_
    refine lv_topi (fun v_53 ev_53 => ?_)
    have hv_53 : v_53.toInt = v_52.toInt + 1 := by rw [ev_53]; exact addE rfl (by decide +kernel) (by omega)
    refine x_iastG (pc := 255) (f := gnow_46) (wf := fun g => (MW cI cJ M mr mi (va_up (va_up (va_up (va_up (va_up mf 1 g) 16 gbook_19) 53 g_11) 54 g_12) 55 g_10) mg)) E hw47 1 rfl (inbE (a := 0) (by decide +kernel) (by omega)) (fun _ => rfl) dX12_goesBy_255 (fun g_54 H locs eg_54 hw55 => ?_)
    have ht_56 : (g_54 0).toInt = (v_53 : Int32).toInt := by rw [eg_54]; rfl
    have ht_57 : (g_54 2).toInt = (gnow_46 2).toInt := by rw [eg_54]; rfl
    have ht_58 : (g_54 3).toInt = (gnow_46 3).toInt := by rw [eg_54]; rfl
    have ht_59 : (g_54 5).toInt = (gnow_46 5).toInt := by rw [eg_54]; rfl
    refine lv_iload_n (pc := 256) E.1 E.2.1 dX12_goesBy_256 rfl (lv_at hl14 2 rfl) ?_
    exact em_z (w1 := (fun (u : (Nat → Int32) × (Nat → Int32) × (Nat → Int32) × (Nat → Int32) × (Nat → Int32)) => (MW cI cJ M mr mi (va_up (va_up (va_up (va_up (va_up mf 1 u.1) 55 u.2.1) 53 u.2.2.1) 54 u.2.2.2.1) 16 u.2.2.2.2) mg))) E hr hlk (g_54, g_10, g_11, g_12, gbook_19) hw55 ⟨(by show 0 ≤ x_6.toInt; omega), (by show x_6.toInt ≤ 1; omega), (by show 0 ≤ (g_54 2).toInt; omega), (by show (g_54 2).toInt ≤ 150; omega), (by show 0 ≤ (g_54 5).toInt; omega), (by show (g_54 5).toInt ≤ 200; omega), (by show 0 ≤ (g_54 3).toInt; omega), (by show (g_54 3).toInt + 1 ≤ (mi 6).toInt; omega), (by show (g_54 0).toInt = ((mf 1) 0).toInt + 1; omega)⟩ (bool_nar (by omega)) (Nat.le_of_ble_eq_true rfl) (Nat.le_of_ble_eq_true rfl) dX12_goesBy_257
  have join_60 : ∀ (x_61 : Int32) (x_62 : Int32) (x_63 : Int32) (x_64 : Int32) (x_65 : Int32) (x_66 : Int32) (g_67 : Nat → Int32) (g_68 : Nat → Int32) (g_69 : Nat → Int32) (g_70 : Nat → Int32) (H : Heap) (locs : List Loc) (ls : Array Slot), (0 ≤ x_61.toInt) ∧ (x_61.toInt + 1 ≤ (mi 6).toInt) ∧ (0 ≤ x_63.toInt) ∧ (x_63.toInt ≤ 1) ∧ (0 ≤ (g_67 2).toInt) ∧ ((g_67 2).toInt ≤ 150) ∧ (0 ≤ (g_67 3).toInt) ∧ ((g_67 3).toInt + 1 ≤ (mi 6).toInt) ∧ (0 ≤ (g_67 5).toInt) ∧ ((g_67 5).toInt ≤ 200) ∧ ((g_67 0).toInt = ((mf 1) 0).toInt) → WD D A s.heap (MW cI cJ M mr mi (va_up (va_up (va_up (va_up mf 1 g_67) 53 g_69) 54 g_70) 55 g_68) mg) H locs → lv_has ls 7 [(0, .ref M), (1, .int x_61), (2, .int x_62), (3, .int x_63), (4, .int x_64), (5, .int x_65), (6, .int x_66)] → W p l e ({ frames := 7, cells := 0, slots := 0, locals := 175 } : Room) s m ([.ref M] : List Value).toArray below meth c H locs 0 0 (MQ below (va_Qi (fun (r : Int32) (u : (Nat → Int32) × (Nat → Int32) × (Nat → Int32) × (Nat → Int32) × (Nat → Int32)) => (0 ≤ r.toInt) ∧ (r.toInt ≤ 1) ∧ (0 ≤ (u.1 2).toInt) ∧ ((u.1 2).toInt ≤ 150) ∧ (0 ≤ (u.1 5).toInt) ∧ ((u.1 5).toInt ≤ 200) ∧ (0 ≤ (u.1 3).toInt) ∧ ((u.1 3).toInt + 1 ≤ (mi 6).toInt) ∧ ((u.1 0).toInt = ((mf 1) 0).toInt + 1)) (fun u => QW D cI cJ A ((fun (u : (Nat → Int32) × (Nat → Int32) × (Nat → Int32) × (Nat → Int32) × (Nat → Int32)) => (MW cI cJ M mr mi (va_up (va_up (va_up (va_up (va_up mf 1 u.1) 55 u.2.1) 53 u.2.2.1) 54 u.2.2.2.1) 16 u.2.2.2.2) mg)) u)) A) ([.ref M] : List Value).toArray s 0 0 A) (F0 m 147 ls []) := by
    intro x_61 x_62 x_63 x_64 x_65 x_66 g_67 g_68 g_69 g_70 H locs ls hinv hw71 hl72
    obtain ⟨hj_70_0, hj_70_1, hj_70_2, hj_70_3, hj_70_4, hj_70_5, hj_70_6, hj_70_7, hj_70_8, hj_70_9, hj_70_10⟩ := hinv
    refine lv_aload_n (pc := 147) E.1 E.2.1 dX12_goesBy_147 rfl (lv_at hl72 0 rfl) ?_
    refine x_get (pc := 148) (T := TX12) (N := 70) (ci := 12) (v := .ref (mr 1)) E hw71 inX12 0 1 q_1400 rfl rfl (by decide) rfl rfl dX12_goesBy_148 ?_
    refine lv_bipush (pc := 151) (v := 26) E.1 E.2.1 dX12_goesBy_151 (by decide +kernel) ?_
    refine lv_iload_n (pc := 153) E.1 E.2.1 dX12_goesBy_153 rfl (lv_at hl72 1 rfl) ?_
    refine lv_iadd (pc := 154) E.1 E.2.1 dX12_goesBy_154 ?_
    refine lv_topi (fun v_73 ev_73 => ?_)
    have hv_73 : v_73.toInt = 26 + x_61.toInt := by rw [ev_73]; exact addE (by decide +kernel) rfl (by omega)
    refine lv_aload_n (pc := 155) E.1 E.2.1 dX12_goesBy_155 rfl (lv_at hl72 0 rfl) ?_
    refine x_get (pc := 156) (T := TX12) (N := 70) (ci := 12) (v := .ref (mr 1)) E hw71 inX12 0 1 q_1400 rfl rfl (by decide) rfl rfl dX12_goesBy_156 ?_
    refine lv_bipush (pc := 159) (v := 26) E.1 E.2.1 dX12_goesBy_159 (by decide +kernel) ?_
    refine lv_iload_n (pc := 161) E.1 E.2.1 dX12_goesBy_161 rfl (lv_at hl72 1 rfl) ?_
    refine lv_iadd (pc := 162) E.1 E.2.1 dX12_goesBy_162 ?_
    refine lv_topi (fun v_74 ev_74 => ?_)
    have hv_74 : v_74.toInt = 26 + x_61.toInt := by rw [ev_74]; exact addE (by decide +kernel) rfl (by omega)
    refine x_iald (pc := 163) (f := g_67) E hw71 1 rfl (inbE (a := v_74.toInt) rfl (by omega)) dX12_goesBy_163 ?_
    refine lv_topi (fun v_75 ev_75 => ?_)
    refine lv_iconst (pc := 164) (v := 1) E.1 E.2.1 dX12_goesBy_164 (by decide +kernel) ?_
    refine lv_iadd (pc := 165) E.1 E.2.1 dX12_goesBy_165 ?_
    refine lv_topi (fun v_76 ev_76 => ?_)
    refine x_iastG (pc := 166) (f := g_67) (wf := fun g => (MW cI cJ M mr mi (va_up (va_up (va_up (va_up mf 1 g) 53 g_69) 54 g_70) 55 g_68) mg)) E hw71 1 rfl (inbE (a := v_73.toInt) rfl (by omega)) (fun _ => rfl) dX12_goesBy_166 (fun g_77 H locs eg_77 hw78 => ?_)
    have ht_79 : (g_77 0).toInt = (g_67 0).toInt := by rw [eg_77, pk_un (by have q9 := idxI (x := v_73) (by omega); omega)]
    have ht_80 : (g_77 2).toInt = (g_67 2).toInt := by rw [eg_77, pk_un (by have q9 := idxI (x := v_73) (by omega); omega)]
    have ht_81 : (g_77 3).toInt = (g_67 3).toInt := by rw [eg_77, pk_un (by have q9 := idxI (x := v_73) (by omega); omega)]
    have ht_82 : (g_77 5).toInt = (g_67 5).toInt := by rw [eg_77, pk_un (by have q9 := idxI (x := v_73) (by omega); omega)]
    refine lv_aload_n (pc := 167) E.1 E.2.1 dX12_goesBy_167 rfl (lv_at hl72 0 rfl) ?_
    refine x_get (pc := 168) (T := TX12) (N := 70) (ci := 12) (v := .ref (mr 1)) E hw78 inX12 0 1 q_1400 rfl rfl (by decide) rfl rfl dX12_goesBy_168 ?_
    refine lv_bipush (pc := 171) (v := 36) E.1 E.2.1 dX12_goesBy_171 (by decide +kernel) ?_
    refine lv_iload_n (pc := 173) E.1 E.2.1 dX12_goesBy_173 rfl (lv_at hl72 1 rfl) ?_
    refine lv_iadd (pc := 174) E.1 E.2.1 dX12_goesBy_174 ?_
    refine lv_topi (fun v_83 ev_83 => ?_)
    have hv_83 : v_83.toInt = 36 + x_61.toInt := by rw [ev_83]; exact addE (by decide +kernel) rfl (by omega)
    refine lv_aload_n (pc := 175) E.1 E.2.1 dX12_goesBy_175 rfl (lv_at hl72 0 rfl) ?_
    refine x_get (pc := 176) (T := TX12) (N := 70) (ci := 12) (v := .ref (mr 1)) E hw78 inX12 0 1 q_1400 rfl rfl (by decide) rfl rfl dX12_goesBy_176 ?_
    refine lv_iconst (pc := 179) (v := 0) E.1 E.2.1 dX12_goesBy_179 (by decide +kernel) ?_
    refine x_iald (pc := 180) (f := g_77) E hw78 1 rfl (inbE (a := 0) (by decide +kernel) (by omega)) dX12_goesBy_180 ?_
    refine lv_topi (fun v_84 ev_84 => ?_)
    have hv_84 : v_84.toInt = (g_77 0).toInt := by rw [ev_84]; rfl
    refine lv_iconst (pc := 181) (v := 1) E.1 E.2.1 dX12_goesBy_181 (by decide +kernel) ?_
    refine lv_iadd (pc := 182) E.1 E.2.1 dX12_goesBy_182 ?_
    refine lv_topi (fun v_85 ev_85 => ?_)
    have hv_85 : v_85.toInt = v_84.toInt + 1 := by rw [ev_85]; exact addE rfl (by decide +kernel) (by omega)
    refine x_iastG (pc := 183) (f := g_77) (wf := fun g => (MW cI cJ M mr mi (va_up (va_up (va_up (va_up mf 1 g) 53 g_69) 54 g_70) 55 g_68) mg)) E hw78 1 rfl (inbE (a := v_83.toInt) rfl (by omega)) (fun _ => rfl) dX12_goesBy_183 (fun g_86 H locs eg_86 hw87 => ?_)
    have ht_88 : (g_86 0).toInt = (g_77 0).toInt := by rw [eg_86, pk_un (by have q9 := idxI (x := v_83) (by omega); omega)]
    have ht_89 : (g_86 2).toInt = (g_77 2).toInt := by rw [eg_86, pk_un (by have q9 := idxI (x := v_83) (by omega); omega)]
    have ht_90 : (g_86 3).toInt = (g_77 3).toInt := by rw [eg_86, pk_un (by have q9 := idxI (x := v_83) (by omega); omega)]
    have ht_91 : (g_86 5).toInt = (g_77 5).toInt := by rw [eg_86, pk_un (by have q9 := idxI (x := v_83) (by omega); omega)]
    refine lv_aload_n (pc := 184) E.1 E.2.1 dX12_goesBy_184 rfl (lv_at hl72 0 rfl) ?_
    refine x_get (pc := 185) (T := TX12) (N := 70) (ci := 12) (v := .ref (mr 1)) E hw87 inX12 0 1 q_1400 rfl rfl (by decide) rfl rfl dX12_goesBy_185 ?_
    refine lv_bipush (pc := 188) (v := 16) E.1 E.2.1 dX12_goesBy_188 (by decide +kernel) ?_
    refine lv_iload_n (pc := 190) E.1 E.2.1 dX12_goesBy_190 rfl (lv_at hl72 1 rfl) ?_
    refine lv_iadd (pc := 191) E.1 E.2.1 dX12_goesBy_191 ?_
    refine lv_topi (fun v_92 ev_92 => ?_)
    have hv_92 : v_92.toInt = 16 + x_61.toInt := by rw [ev_92]; exact addE (by decide +kernel) rfl (by omega)
    refine lv_aload_n (pc := 192) E.1 E.2.1 dX12_goesBy_192 rfl (lv_at hl72 0 rfl) ?_
    refine lv_aload_n (pc := 193) E.1 E.2.1 dX12_goesBy_193 rfl (lv_at hl72 0 rfl) ?_
    refine x_get (pc := 194) (T := TX12) (N := 70) (ci := 12) (v := .ref (mr 1)) E hw87 inX12 0 1 q_1400 rfl rfl (by decide) rfl rfl dX12_goesBy_194 ?_
    refine lv_bipush (pc := 197) (v := 16) E.1 E.2.1 dX12_goesBy_197 (by decide +kernel) ?_
    refine lv_iload_n (pc := 199) E.1 E.2.1 dX12_goesBy_199 rfl (lv_at hl72 1 rfl) ?_
    refine lv_iadd (pc := 200) E.1 E.2.1 dX12_goesBy_200 ?_
    refine lv_topi (fun v_93 ev_93 => ?_)
    have hv_93 : v_93.toInt = 16 + x_61.toInt := by rw [ev_93]; exact addE (by decide +kernel) rfl (by omega)
    refine x_iald (pc := 201) (f := g_86) E hw87 1 rfl (inbE (a := v_93.toInt) rfl (by omega)) dX12_goesBy_201 ?_
    refine lv_topi (fun v_94 ev_94 => ?_)
    refine lv_iconst (pc := 202) (v := 1) E.1 E.2.1 dX12_goesBy_202 (by decide +kernel) ?_
    refine lv_isub (pc := 203) E.1 E.2.1 dX12_goesBy_203 ?_
    refine lv_topi (fun v_95 ev_95 => ?_)
    refine lv_iconst (pc := 204) (v := 0) E.1 E.2.1 dX12_goesBy_204 (by decide +kernel) ?_
    refine lv_bipush (pc := 205) (v := 99) E.1 E.2.1 dX12_goesBy_205 (by decide +kernel) ?_
    refine cm_i (pc := 207) hw87 (rn_M (As := [.int v_95, .int 0, .int 99]) (rest := [.int v_92, .ref (mr 1)]) E hw87 (s_held l D cI cJ _ M mr mi (va_up (va_up (va_up (va_up mf 1 g_86) 53 g_69) 54 g_70) 55 g_68) mg v_95 0 99 (by show (0 : Int32).toInt ≤ (99 : Int32).toInt; have k_0 : (0 : Int32).toInt = 0 := (by decide +kernel); have k_1 : (99 : Int32).toInt = 99 := (by decide +kernel); omega)) (gdV q_1895 q_1897 q_106 q_162 q_1898) hdV_X12_held ⟨rfl, rfl⟩ ⟨(Nat.le_of_ble_eq_true rfl), (Nat.le_of_ble_eq_true rfl)⟩ ⟨(Nat.le_of_ble_eq_true rfl), (Nat.le_of_ble_eq_true rfl)⟩ 12 rfl rfl rfl rfl hl72.1 rfl (Nat.le_of_ble_eq_true rfl) dX12_goesBy_207) (fun r_97 u_96 H1 locs hp hw98 => ?_)
    generalize H1 = H at hw98 ⊢
    have hw99 : WD D A s.heap (MW cI cJ M mr mi (va_up (va_up (va_up (va_up mf 1 g_86) 53 g_69) 54 g_70) 55 g_68) mg) H locs := hw98
    have hp_100 := hp
    have hp_100 : (0 : Int32).toInt ≤ r_97.toInt ∧ r_97.toInt ≤ (99 : Int32).toInt := hp_100
    rw [show (0 : Int32).toInt = 0 from by decide +kernel] at hp_100
    rw [show (99 : Int32).toInt = 99 from by decide +kernel] at hp_100
    refine x_iastG (pc := 210) (f := g_86) (wf := fun g => (MW cI cJ M mr mi (va_up (va_up (va_up (va_up mf 1 g) 53 g_69) 54 g_70) 55 g_68) mg)) E hw99 1 rfl (inbE (a := v_92.toInt) rfl (by omega)) (fun _ => rfl) dX12_goesBy_210 (fun g_101 H locs eg_101 hw102 => ?_)
    have ht_103 : (g_101 0).toInt = (g_86 0).toInt := by rw [eg_101, pk_un (by have q9 := idxI (x := v_92) (by omega); omega)]
    have ht_104 : (g_101 2).toInt = (g_86 2).toInt := by rw [eg_101, pk_un (by have q9 := idxI (x := v_92) (by omega); omega)]
    have ht_105 : (g_101 3).toInt = (g_86 3).toInt := by rw [eg_101, pk_un (by have q9 := idxI (x := v_92) (by omega); omega)]
    have ht_106 : (g_101 5).toInt = (g_86 5).toInt := by rw [eg_101, pk_un (by have q9 := idxI (x := v_92) (by omega); omega)]
    refine lv_aload_n (pc := 211) E.1 E.2.1 dX12_goesBy_211 rfl (lv_at hl72 0 rfl) ?_
    refine lv_iload_n (pc := 212) E.1 E.2.1 dX12_goesBy_212 rfl (lv_at hl72 1 rfl) ?_
    refine lv_iload (pc := 213) E.1 E.2.1 dX12_goesBy_213 (lv_at hl72 6 rfl) ?_
    refine cm_i (pc := 215) hw102 (rn_M (As := [.int x_61, .int x_66]) (rest := []) E hw102 (s_doesNeedsU l D cI cJ _ M mr mi (va_up (va_up (va_up (va_up mf 1 g_101) 53 g_69) 54 g_70) 55 g_68) mg x_61 x_66 (by show 0 ≤ (mi 44).toInt ∧ (mi 44).toInt ≤ 10; omega)) (gdV q_1899 q_1901 q_107 q_162 q_1902) hdV_X12_doesNeeds ⟨rfl, rfl⟩ ⟨(Nat.le_of_ble_eq_true rfl), (Nat.le_of_ble_eq_true rfl)⟩ ⟨(Nat.le_of_ble_eq_true rfl), (Nat.le_of_ble_eq_true rfl)⟩ 12 rfl rfl rfl rfl hl72.1 rfl (Nat.le_of_ble_eq_true rfl) dX12_goesBy_215) (fun r_108 u_107 H1 locs hp hw109 => ?_)
    obtain ⟨gnow_110, rfl⟩ : ∃ z, z = u_107 := ⟨_, rfl⟩
    generalize H1 = H at hw109 ⊢
    have hw111 : WD D A s.heap (MW cI cJ M mr mi (va_up (va_up (va_up (va_up mf 1 gnow_110) 53 g_69) 54 g_70) 55 g_68) mg) H locs := hw109
    obtain ⟨hp_112, hp_113, hp_114, hp_115⟩ := hp
    have hp_112 : (gnow_110 2).toInt = (g_101 2).toInt := hp_112
    have hp_113 : (gnow_110 3).toInt = (g_101 3).toInt := hp_113
    have hp_114 : (gnow_110 5).toInt = (g_101 5).toInt := hp_114
    have hp_115 : (gnow_110 0).toInt = (g_101 0).toInt := hp_115
    refine lv_istore (pc := 218) (lv' := [(5, .int r_108), (0, .ref M), (1, .int x_61), (2, .int x_62), (3, .int x_63), (4, .int x_64), (6, .int x_66)]) E.1 E.2.1 dX12_goesBy_218 hl72 (by decide) rfl (fun ls hl116 => ?_)
    exact join_4 x_61 x_63 x_64 r_108 gnow_110 g_68 g_69 g_70 _ _ _ ⟨(by show 0 ≤ x_61.toInt; omega), (by show x_61.toInt + 1 ≤ (mi 6).toInt; omega), (by show 0 ≤ x_63.toInt; omega), (by show x_63.toInt ≤ 1; omega), (by show 0 ≤ (gnow_110 2).toInt; omega), (by show (gnow_110 2).toInt ≤ 150; omega), (by show 0 ≤ (gnow_110 3).toInt; omega), (by show (gnow_110 3).toInt + 1 ≤ (mi 6).toInt; omega), (by show 0 ≤ (gnow_110 5).toInt; omega), (by show (gnow_110 5).toInt ≤ 200; omega), (by show (gnow_110 0).toInt = ((mf 1) 0).toInt; omega)⟩ hw111 (lv_sub hl116 [1, 2, 4, 5, 0] rfl)
  have join_117 : ∀ (x_118 : Int32) (x_119 : Int32) (x_120 : Int32) (x_121 : Int32) (g_122 : Nat → Int32) (g_123 : Nat → Int32) (g_124 : Nat → Int32) (g_125 : Nat → Int32) (H : Heap) (locs : List Loc) (ls : Array Slot), (0 ≤ x_118.toInt) ∧ (x_118.toInt + 1 ≤ (mi 6).toInt) ∧ (0 ≤ x_120.toInt) ∧ (x_120.toInt ≤ 1) ∧ (0 ≤ (g_122 2).toInt) ∧ ((g_122 2).toInt ≤ 150) ∧ (0 ≤ (g_122 3).toInt) ∧ ((g_122 3).toInt + 1 ≤ (mi 6).toInt) ∧ (0 ≤ (g_122 5).toInt) ∧ ((g_122 5).toInt ≤ 200) ∧ ((g_122 0).toInt = ((mf 1) 0).toInt) → WD D A s.heap (MW cI cJ M mr mi (va_up (va_up (va_up (va_up mf 1 g_122) 53 g_124) 54 g_125) 55 g_123) mg) H locs → lv_has ls 7 [(0, .ref M), (1, .int x_118), (2, .int x_119), (3, .int x_120), (4, .int x_121)] → W p l e ({ frames := 7, cells := 0, slots := 0, locals := 175 } : Room) s m ([.ref M] : List Value).toArray below meth c H locs 0 0 (MQ below (va_Qi (fun (r : Int32) (u : (Nat → Int32) × (Nat → Int32) × (Nat → Int32) × (Nat → Int32) × (Nat → Int32)) => (0 ≤ r.toInt) ∧ (r.toInt ≤ 1) ∧ (0 ≤ (u.1 2).toInt) ∧ ((u.1 2).toInt ≤ 150) ∧ (0 ≤ (u.1 5).toInt) ∧ ((u.1 5).toInt ≤ 200) ∧ (0 ≤ (u.1 3).toInt) ∧ ((u.1 3).toInt + 1 ≤ (mi 6).toInt) ∧ ((u.1 0).toInt = ((mf 1) 0).toInt + 1)) (fun u => QW D cI cJ A ((fun (u : (Nat → Int32) × (Nat → Int32) × (Nat → Int32) × (Nat → Int32) × (Nat → Int32)) => (MW cI cJ M mr mi (va_up (va_up (va_up (va_up (va_up mf 1 u.1) 55 u.2.1) 53 u.2.2.1) 54 u.2.2.2.1) 16 u.2.2.2.2) mg)) u)) A) ([.ref M] : List Value).toArray s 0 0 A) (F0 m 112 ls []) := by
    intro x_118 x_119 x_120 x_121 g_122 g_123 g_124 g_125 H locs ls hinv hw126 hl127
    obtain ⟨hj_125_0, hj_125_1, hj_125_2, hj_125_3, hj_125_4, hj_125_5, hj_125_6, hj_125_7, hj_125_8, hj_125_9, hj_125_10⟩ := hinv
    refine lv_iconst (pc := 112) (v := 0) E.1 E.2.1 dX12_goesBy_112 (by decide +kernel) ?_
    refine lv_istore (pc := 113) (lv' := [(5, .int 0), (0, .ref M), (1, .int x_118), (2, .int x_119), (3, .int x_120), (4, .int x_121)]) E.1 E.2.1 dX12_goesBy_113 hl127 (by decide) rfl (fun ls hl128 => ?_)
    refine lv_iload_n (pc := 115) E.1 E.2.1 dX12_goesBy_115 rfl (lv_at hl128 4 rfl) ?_
    refine lv_if_eq (pc := 116) (tgt := 220) E.1 E.2.1 dX12_goesBy_116 (by decide) (fun c_129 => ?_) (fun c_129 => ?_)
    · skip
      have hc_129 := eqE (a := x_120.toInt) (b := 0) rfl (by decide +kernel) c_129
      exact join_4 x_118 x_120 x_121 0 g_122 g_123 g_124 g_125 _ _ _ ⟨(by show 0 ≤ x_118.toInt; omega), (by show x_118.toInt + 1 ≤ (mi 6).toInt; omega), (by show 0 ≤ x_120.toInt; omega), (by show x_120.toInt ≤ 1; omega), (by show 0 ≤ (g_122 2).toInt; omega), (by show (g_122 2).toInt ≤ 150; omega), (by show 0 ≤ (g_122 3).toInt; omega), (by show (g_122 3).toInt + 1 ≤ (mi 6).toInt; omega), (by show 0 ≤ (g_122 5).toInt; omega), (by show (g_122 5).toInt ≤ 200; omega), (by show (g_122 0).toInt = ((mf 1) 0).toInt; omega)⟩ hw126 (lv_sub hl128 [1, 2, 4, 5, 0] rfl)
    · skip
      have hc_129 := neE (a := x_120.toInt) (b := 0) rfl (by decide +kernel) c_129
      refine lv_aload_n (pc := 119) E.1 E.2.1 dX12_goesBy_119 rfl (lv_at hl128 1 rfl) ?_
      refine x_get (pc := 120) (T := TX12) (N := 70) (ci := 12) (v := .ref (mr 1)) E hw126 inX12 0 1 q_1400 rfl rfl (by decide) rfl rfl dX12_goesBy_120 ?_
      refine lv_bipush (pc := 123) (v := 36) E.1 E.2.1 dX12_goesBy_123 (by decide +kernel) ?_
      refine lv_iload_n (pc := 125) E.1 E.2.1 dX12_goesBy_125 rfl (lv_at hl128 2 rfl) ?_
      refine lv_iadd (pc := 126) E.1 E.2.1 dX12_goesBy_126 ?_
      refine lv_topi (fun v_130 ev_130 => ?_)
      have hv_130 : v_130.toInt = 36 + x_118.toInt := by rw [ev_130]; exact addE (by decide +kernel) rfl (by omega)
      refine x_iald (pc := 127) (f := g_122) E hw126 1 rfl (inbE (a := v_130.toInt) rfl (by omega)) dX12_goesBy_127 ?_
      refine lv_topi (fun v_131 ev_131 => ?_)
      refine lv_if_le (pc := 128) (tgt := 144) E.1 E.2.1 dX12_goesBy_128 (by decide) (fun c_132 => ?_) (fun c_132 => ?_)
      · skip
        have hc_132 := leE (a := v_131.toInt) (b := 0) rfl (by decide +kernel) c_132
        refine lv_iconst (pc := 144) (v := 0) E.1 E.2.1 dX12_goesBy_144 (by decide +kernel) ?_
        refine lv_istore (pc := 145) (lv' := [(6, .int 0), (5, .int 0), (0, .ref M), (1, .int x_118), (2, .int x_119), (3, .int x_120), (4, .int x_121)]) E.1 E.2.1 dX12_goesBy_145 hl128 (by decide) rfl (fun ls hl133 => ?_)
        exact join_60 x_118 x_119 x_120 x_121 0 0 g_122 g_123 g_124 g_125 _ _ _ ⟨(by show 0 ≤ x_118.toInt; omega), (by show x_118.toInt + 1 ≤ (mi 6).toInt; omega), (by show 0 ≤ x_120.toInt; omega), (by show x_120.toInt ≤ 1; omega), (by show 0 ≤ (g_122 2).toInt; omega), (by show (g_122 2).toInt ≤ 150; omega), (by show 0 ≤ (g_122 3).toInt; omega), (by show (g_122 3).toInt + 1 ≤ (mi 6).toInt; omega), (by show 0 ≤ (g_122 5).toInt; omega), (by show (g_122 5).toInt ≤ 200; omega), (by show (g_122 0).toInt = ((mf 1) 0).toInt; omega)⟩ hw126 (lv_sub hl133 [2, 3, 4, 5, 6, 1, 0] rfl)
      · skip
        have hc_132 := nleE (a := v_131.toInt) (b := 0) rfl (by decide +kernel) c_132
        refine lv_aload_n (pc := 131) E.1 E.2.1 dX12_goesBy_131 rfl (lv_at hl128 1 rfl) ?_
        refine lv_iload_n (pc := 132) E.1 E.2.1 dX12_goesBy_132 rfl (lv_at hl128 2 rfl) ?_
        refine cm_i (pc := 133) hw126 (rn_M (As := [.int x_118]) (rest := []) E hw126 (s_sinceLast l D cI cJ _ M mr mi (va_up (va_up (va_up (va_up mf 1 g_122) 53 g_124) 54 g_125) 55 g_123) mg x_118 (by show 0 ≤ x_118.toInt ∧ x_118.toInt ≤ 9; omega)) (gdV q_1863 q_1865 q_98 q_162 q_1866) hdV_X12_sinceLast ⟨rfl, rfl⟩ ⟨(Nat.le_of_ble_eq_true rfl), (Nat.le_of_ble_eq_true rfl)⟩ ⟨(Nat.le_of_ble_eq_true rfl), (Nat.le_of_ble_eq_true rfl)⟩ 12 rfl rfl rfl rfl hl128.1 rfl (Nat.le_of_ble_eq_true rfl) dX12_goesBy_133) (fun r_135 u_134 H1 locs hp hw136 => ?_)
        generalize H1 = H at hw136 ⊢
        have hw137 : WD D A s.heap (MW cI cJ M mr mi (va_up (va_up (va_up (va_up mf 1 g_122) 53 g_124) 54 g_125) 55 g_123) mg) H locs := hw136
        refine lv_iconst (pc := 136) (v := 1) E.1 E.2.1 dX12_goesBy_136 (by decide +kernel) ?_
        refine lv_icmp_ne (pc := 137) (tgt := 144) E.1 E.2.1 dX12_goesBy_137 (by decide) (fun c_138 => ?_) (fun c_138 => ?_)
        · skip
          have hc_138 := neE (a := r_135.toInt) (b := 1) rfl (by decide +kernel) c_138
          refine lv_iconst (pc := 144) (v := 0) E.1 E.2.1 dX12_goesBy_144 (by decide +kernel) ?_
          refine lv_istore (pc := 145) (lv' := [(6, .int 0), (5, .int 0), (0, .ref M), (1, .int x_118), (2, .int x_119), (3, .int x_120), (4, .int x_121)]) E.1 E.2.1 dX12_goesBy_145 hl128 (by decide) rfl (fun ls hl139 => ?_)
          exact join_60 x_118 x_119 x_120 x_121 0 0 g_122 g_123 g_124 g_125 _ _ _ ⟨(by show 0 ≤ x_118.toInt; omega), (by show x_118.toInt + 1 ≤ (mi 6).toInt; omega), (by show 0 ≤ x_120.toInt; omega), (by show x_120.toInt ≤ 1; omega), (by show 0 ≤ (g_122 2).toInt; omega), (by show (g_122 2).toInt ≤ 150; omega), (by show 0 ≤ (g_122 3).toInt; omega), (by show (g_122 3).toInt + 1 ≤ (mi 6).toInt; omega), (by show 0 ≤ (g_122 5).toInt; omega), (by show (g_122 5).toInt ≤ 200; omega), (by show (g_122 0).toInt = ((mf 1) 0).toInt; omega)⟩ hw137 (lv_sub hl139 [2, 3, 4, 5, 6, 1, 0] rfl)
        · skip
          have hc_138 := eqE (a := r_135.toInt) (b := 1) rfl (by decide +kernel) c_138
          refine lv_iconst (pc := 140) (v := 1) E.1 E.2.1 dX12_goesBy_140 (by decide +kernel) ?_
          refine lv_goto (pc := 141) (tgt := 145) E.1 E.2.1 dX12_goesBy_141 (by decide) ?_
          refine lv_istore (pc := 145) (lv' := [(6, .int 1), (5, .int 0), (0, .ref M), (1, .int x_118), (2, .int x_119), (3, .int x_120), (4, .int x_121)]) E.1 E.2.1 dX12_goesBy_145 hl128 (by decide) rfl (fun ls hl140 => ?_)
          exact join_60 x_118 x_119 x_120 x_121 0 1 g_122 g_123 g_124 g_125 _ _ _ ⟨(by show 0 ≤ x_118.toInt; omega), (by show x_118.toInt + 1 ≤ (mi 6).toInt; omega), (by show 0 ≤ x_120.toInt; omega), (by show x_120.toInt ≤ 1; omega), (by show 0 ≤ (g_122 2).toInt; omega), (by show (g_122 2).toInt ≤ 150; omega), (by show 0 ≤ (g_122 3).toInt; omega), (by show (g_122 3).toInt + 1 ≤ (mi 6).toInt; omega), (by show 0 ≤ (g_122 5).toInt; omega), (by show (g_122 5).toInt ≤ 200; omega), (by show (g_122 0).toInt = ((mf 1) 0).toInt; omega)⟩ hw137 (lv_sub hl140 [2, 3, 4, 5, 6, 1, 0] rfl)
  have join_141 : ∀ (g_142 : Nat → Int32) (g_143 : Nat → Int32) (g_144 : Nat → Int32) (g_145 : Nat → Int32) (H : Heap) (locs : List Loc) (ls : Array Slot), (0 ≤ (g_142 2).toInt) ∧ ((g_142 2).toInt ≤ 150) ∧ (0 ≤ (g_142 3).toInt) ∧ ((g_142 3).toInt + 1 ≤ (mi 6).toInt) ∧ (0 ≤ (g_142 5).toInt) ∧ ((g_142 5).toInt ≤ 200) ∧ ((g_142 0).toInt = ((mf 1) 0).toInt) → WD D A s.heap (MW cI cJ M mr mi (va_up (va_up (va_up (va_up mf 1 g_142) 53 g_144) 54 g_145) 55 g_143) mg) H locs → lv_has ls 7 [(0, .ref M)] → W p l e ({ frames := 7, cells := 0, slots := 0, locals := 175 } : Room) s m ([.ref M] : List Value).toArray below meth c H locs 0 0 (MQ below (va_Qi (fun (r : Int32) (u : (Nat → Int32) × (Nat → Int32) × (Nat → Int32) × (Nat → Int32) × (Nat → Int32)) => (0 ≤ r.toInt) ∧ (r.toInt ≤ 1) ∧ (0 ≤ (u.1 2).toInt) ∧ ((u.1 2).toInt ≤ 150) ∧ (0 ≤ (u.1 5).toInt) ∧ ((u.1 5).toInt ≤ 200) ∧ (0 ≤ (u.1 3).toInt) ∧ ((u.1 3).toInt + 1 ≤ (mi 6).toInt) ∧ ((u.1 0).toInt = ((mf 1) 0).toInt + 1)) (fun u => QW D cI cJ A ((fun (u : (Nat → Int32) × (Nat → Int32) × (Nat → Int32) × (Nat → Int32) × (Nat → Int32)) => (MW cI cJ M mr mi (va_up (va_up (va_up (va_up (va_up mf 1 u.1) 55 u.2.1) 53 u.2.2.1) 54 u.2.2.2.1) 16 u.2.2.2.2) mg)) u)) A) ([.ref M] : List Value).toArray s 0 0 A) (F0 m 40 ls []) := by
    intro g_142 g_143 g_144 g_145 H locs ls hinv hw146 hl147
    obtain ⟨hj_145_0, hj_145_1, hj_145_2, hj_145_3, hj_145_4, hj_145_5, hj_145_6⟩ := hinv
    refine lv_aload_n (pc := 40) E.1 E.2.1 dX12_goesBy_40 rfl (lv_at hl147 0 rfl) ?_
    refine x_get (pc := 41) (T := TX12) (N := 70) (ci := 12) (v := .ref (mr 1)) E hw146 inX12 0 1 q_1400 rfl rfl (by decide) rfl rfl dX12_goesBy_41 ?_
    refine lv_iconst (pc := 44) (v := 3) E.1 E.2.1 dX12_goesBy_44 (by decide +kernel) ?_
    refine x_iald (pc := 45) (f := g_142) E hw146 1 rfl (inbE (a := 3) (by decide +kernel) (by omega)) dX12_goesBy_45 ?_
    refine lv_topi (fun v_148 ev_148 => ?_)
    have hv_148 : v_148.toInt = (g_142 3).toInt := by rw [ev_148]; rfl
    refine lv_istore_n (pc := 46) (lv' := [(1, .int v_148), (0, .ref M)]) E.1 E.2.1 dX12_goesBy_46 rfl hl147 (by decide) rfl (fun ls hl149 => ?_)
    refine lv_aload_n (pc := 47) E.1 E.2.1 dX12_goesBy_47 rfl (lv_at hl149 1 rfl) ?_
    refine lv_iload_n (pc := 48) E.1 E.2.1 dX12_goesBy_48 rfl (lv_at hl149 0 rfl) ?_
    refine cm_i (pc := 49) hw146 (rn_M (As := [.int v_148]) (rest := []) E hw146 (s_burnOf l D cI cJ _ M mr mi (va_up (va_up (va_up (va_up mf 1 g_142) 53 g_144) 54 g_145) 55 g_143) mg v_148 (by show 0 ≤ v_148.toInt ∧ v_148.toInt ≤ 9; omega) (by show 0 ≤ (mi 44).toInt ∧ (mi 44).toInt ≤ 10; omega) (by show 0 ≤ ((mf 27) 0).toInt; omega) (by show ((mf 27) 0).toInt ≤ 16; omega) (by show 0 ≤ ((mf 27) 1).toInt; omega) (by show ((mf 27) 1).toInt ≤ 16; omega) (show LW 16 400 (mf 31) (mf 32) (mf 28) (mf 29) (mf 30) ((mf 27) 1).toInt 400 from lf_law1)) (gdV q_1891 q_1893 q_105 q_162 q_1894) hdV_X12_burnOf ⟨rfl, rfl⟩ ⟨(Nat.le_of_ble_eq_true rfl), (Nat.le_of_ble_eq_true rfl)⟩ ⟨(Nat.le_of_ble_eq_true rfl), (Nat.le_of_ble_eq_true rfl)⟩ 12 rfl rfl rfl rfl hl149.1 rfl (Nat.le_of_ble_eq_true rfl) dX12_goesBy_49) (fun r_151 u_150 H1 locs hp hw152 => ?_)
    obtain ⟨gasked_153, gstack_154⟩ := u_150
    generalize H1 = H at hw152 ⊢
    have hw155 : WD D A s.heap (MW cI cJ M mr mi (va_up (va_up (va_up (va_up mf 1 g_142) 53 gasked_153) 54 gstack_154) 55 g_143) mg) H locs := hw152
    obtain ⟨hp_156, hp_157⟩ := hp
    have hp_156 : 0 ≤ r_151.toInt := hp_156
    have hp_157 : r_151.toInt ≤ 99 := hp_157
    refine lv_istore_n (pc := 52) (lv' := [(2, .int r_151), (1, .int v_148), (0, .ref M)]) E.1 E.2.1 dX12_goesBy_52 rfl hl149 (by decide) rfl (fun ls hl158 => ?_)
    refine lv_aload_n (pc := 53) E.1 E.2.1 dX12_goesBy_53 rfl (lv_at hl158 2 rfl) ?_
    refine x_get (pc := 54) (T := TX12) (N := 70) (ci := 12) (v := .ref (mr 1)) E hw155 inX12 0 1 q_1400 rfl rfl (by decide) rfl rfl dX12_goesBy_54 ?_
    refine lv_bipush (pc := 57) (v := 6) E.1 E.2.1 dX12_goesBy_57 (by decide +kernel) ?_
    refine lv_iload_n (pc := 59) E.1 E.2.1 dX12_goesBy_59 rfl (lv_at hl158 1 rfl) ?_
    refine lv_iadd (pc := 60) E.1 E.2.1 dX12_goesBy_60 ?_
    refine lv_topi (fun v_159 ev_159 => ?_)
    have hv_159 : v_159.toInt = 6 + v_148.toInt := by rw [ev_159]; exact addE (by decide +kernel) rfl (by omega)
    refine x_iald (pc := 61) (f := g_142) E hw155 1 rfl (inbE (a := v_159.toInt) rfl (by omega)) dX12_goesBy_61 ?_
    refine lv_topi (fun v_160 ev_160 => ?_)
    refine lv_iload_n (pc := 62) E.1 E.2.1 dX12_goesBy_62 rfl (lv_at hl158 0 rfl) ?_
    refine lv_icmp_lt (pc := 63) (tgt := 70) E.1 E.2.1 dX12_goesBy_63 (by decide) (fun c_161 => ?_) (fun c_161 => ?_)
    · skip
      have hc_161 := ltE (a := v_160.toInt) (b := r_151.toInt) rfl rfl c_161
      refine lv_iconst (pc := 70) (v := 0) E.1 E.2.1 dX12_goesBy_70 (by decide +kernel) ?_
      refine lv_istore_n (pc := 71) (lv' := [(3, .int 0), (2, .int r_151), (1, .int v_148), (0, .ref M)]) E.1 E.2.1 dX12_goesBy_71 rfl hl158 (by decide) rfl (fun ls hl162 => ?_)
      refine lv_iload_n (pc := 72) E.1 E.2.1 dX12_goesBy_72 rfl (lv_at hl162 0 rfl) ?_
      refine lv_if_eq (pc := 73) (tgt := 80) E.1 E.2.1 dX12_goesBy_73 (by decide) (fun _ => ?_) (fun c_163 => absurd (meqE (a := 0) (b := 0) (by decide +kernel) (by decide +kernel) (by omega)) c_163)
      refine lv_aload_n (pc := 80) E.1 E.2.1 dX12_goesBy_80 rfl (lv_at hl162 3 rfl) ?_
      refine x_get (pc := 81) (T := TX12) (N := 70) (ci := 12) (v := .ref (mr 1)) E hw155 inX12 0 1 q_1400 rfl rfl (by decide) rfl rfl dX12_goesBy_81 ?_
      refine lv_bipush (pc := 84) (v := 6) E.1 E.2.1 dX12_goesBy_84 (by decide +kernel) ?_
      refine lv_iload_n (pc := 86) E.1 E.2.1 dX12_goesBy_86 rfl (lv_at hl162 2 rfl) ?_
      refine lv_iadd (pc := 87) E.1 E.2.1 dX12_goesBy_87 ?_
      refine lv_topi (fun v_164 ev_164 => ?_)
      have hv_164 : v_164.toInt = 6 + v_148.toInt := by rw [ev_164]; exact addE (by decide +kernel) rfl (by omega)
      refine x_iald (pc := 88) (f := g_142) E hw155 1 rfl (inbE (a := v_164.toInt) rfl (by omega)) dX12_goesBy_88 ?_
      refine lv_topi (fun v_165 ev_165 => ?_)
      refine lv_istore (pc := 89) (lv' := [(4, .int v_165), (3, .int 0), (2, .int r_151), (1, .int v_148), (0, .ref M)]) E.1 E.2.1 dX12_goesBy_89 hl162 (by decide) rfl (fun ls hl166 => ?_)
      refine lv_aload_n (pc := 91) E.1 E.2.1 dX12_goesBy_91 rfl (lv_at hl166 4 rfl) ?_
      refine x_get (pc := 92) (T := TX12) (N := 70) (ci := 12) (v := .ref (mr 1)) E hw155 inX12 0 1 q_1400 rfl rfl (by decide) rfl rfl dX12_goesBy_92 ?_
      refine lv_bipush (pc := 95) (v := 6) E.1 E.2.1 dX12_goesBy_95 (by decide +kernel) ?_
      refine lv_iload_n (pc := 97) E.1 E.2.1 dX12_goesBy_97 rfl (lv_at hl166 3 rfl) ?_
      refine lv_iadd (pc := 98) E.1 E.2.1 dX12_goesBy_98 ?_
      refine lv_topi (fun v_167 ev_167 => ?_)
      have hv_167 : v_167.toInt = 6 + v_148.toInt := by rw [ev_167]; exact addE (by decide +kernel) rfl (by omega)
      refine lv_aload_n (pc := 99) E.1 E.2.1 dX12_goesBy_99 rfl (lv_at hl166 4 rfl) ?_
      refine x_get (pc := 100) (T := TX12) (N := 70) (ci := 12) (v := .ref (mr 1)) E hw155 inX12 0 1 q_1400 rfl rfl (by decide) rfl rfl dX12_goesBy_100 ?_
      refine lv_bipush (pc := 103) (v := 6) E.1 E.2.1 dX12_goesBy_103 (by decide +kernel) ?_
      refine lv_iload_n (pc := 105) E.1 E.2.1 dX12_goesBy_105 rfl (lv_at hl166 3 rfl) ?_
      refine lv_iadd (pc := 106) E.1 E.2.1 dX12_goesBy_106 ?_
      refine lv_topi (fun v_168 ev_168 => ?_)
      have hv_168 : v_168.toInt = 6 + v_148.toInt := by rw [ev_168]; exact addE (by decide +kernel) rfl (by omega)
      refine x_iald (pc := 107) (f := g_142) E hw155 1 rfl (inbE (a := v_168.toInt) rfl (by omega)) dX12_goesBy_107 ?_
      refine lv_topi (fun v_169 ev_169 => ?_)
      refine lv_iload (pc := 108) E.1 E.2.1 dX12_goesBy_108 (lv_at hl166 0 rfl) ?_
      refine lv_isub (pc := 110) E.1 E.2.1 dX12_goesBy_110 ?_
      refine lv_topi (fun v_170 ev_170 => ?_)
      refine x_iastG (pc := 111) (f := g_142) (wf := fun g => (MW cI cJ M mr mi (va_up (va_up (va_up (va_up mf 1 g) 53 gasked_153) 54 gstack_154) 55 g_143) mg)) E hw155 1 rfl (inbE (a := v_167.toInt) rfl (by omega)) (fun _ => rfl) dX12_goesBy_111 (fun g_171 H locs eg_171 hw172 => ?_)
      have ht_173 : (g_171 0).toInt = (g_142 0).toInt := by rw [eg_171, pk_un (by have q9 := idxI (x := v_167) (by omega); omega)]
      have ht_174 : (g_171 2).toInt = (g_142 2).toInt := by rw [eg_171, pk_un (by have q9 := idxI (x := v_167) (by omega); omega)]
      have ht_175 : (g_171 3).toInt = (g_142 3).toInt := by rw [eg_171, pk_un (by have q9 := idxI (x := v_167) (by omega); omega)]
      have ht_176 : (g_171 5).toInt = (g_142 5).toInt := by rw [eg_171, pk_un (by have q9 := idxI (x := v_167) (by omega); omega)]
      exact join_117 v_148 r_151 0 v_165 g_171 g_143 gasked_153 gstack_154 _ _ _ ⟨(by show 0 ≤ v_148.toInt; omega), (by show v_148.toInt + 1 ≤ (mi 6).toInt; omega), (by show 0 ≤ (0 : Int32).toInt; have k_0 : (0 : Int32).toInt = 0 := (by decide +kernel); omega), (by show (0 : Int32).toInt ≤ 1; have k_0 : (0 : Int32).toInt = 0 := (by decide +kernel); omega), (by show 0 ≤ (g_171 2).toInt; omega), (by show (g_171 2).toInt ≤ 150; omega), (by show 0 ≤ (g_171 3).toInt; omega), (by show (g_171 3).toInt + 1 ≤ (mi 6).toInt; omega), (by show 0 ≤ (g_171 5).toInt; omega), (by show (g_171 5).toInt ≤ 200; omega), (by show (g_171 0).toInt = ((mf 1) 0).toInt; omega)⟩ hw172 (lv_sub hl166 [4, 3, 2, 1, 0] rfl)
    · skip
      have hc_161 := nltE (a := v_160.toInt) (b := r_151.toInt) rfl rfl c_161
      refine lv_iconst (pc := 66) (v := 1) E.1 E.2.1 dX12_goesBy_66 (by decide +kernel) ?_
      refine lv_goto (pc := 67) (tgt := 71) E.1 E.2.1 dX12_goesBy_67 (by decide) ?_
      refine lv_istore_n (pc := 71) (lv' := [(3, .int 1), (2, .int r_151), (1, .int v_148), (0, .ref M)]) E.1 E.2.1 dX12_goesBy_71 rfl hl158 (by decide) rfl (fun ls hl177 => ?_)
      refine lv_iload_n (pc := 72) E.1 E.2.1 dX12_goesBy_72 rfl (lv_at hl177 0 rfl) ?_
      refine lv_if_eq (pc := 73) (tgt := 80) E.1 E.2.1 dX12_goesBy_73 (by decide) (fun c_178 => absurd c_178 (mneE (a := 1) (b := 0) (by decide +kernel) (by decide +kernel) (by omega))) (fun _ => ?_)
      refine lv_iload_n (pc := 76) E.1 E.2.1 dX12_goesBy_76 rfl (lv_at hl177 1 rfl) ?_
      refine lv_goto (pc := 77) (tgt := 89) E.1 E.2.1 dX12_goesBy_77 (by decide) ?_
      refine lv_istore (pc := 89) (lv' := [(4, .int r_151), (3, .int 1), (2, .int r_151), (1, .int v_148), (0, .ref M)]) E.1 E.2.1 dX12_goesBy_89 hl177 (by decide) rfl (fun ls hl179 => ?_)
      refine lv_aload_n (pc := 91) E.1 E.2.1 dX12_goesBy_91 rfl (lv_at hl179 4 rfl) ?_
      refine x_get (pc := 92) (T := TX12) (N := 70) (ci := 12) (v := .ref (mr 1)) E hw155 inX12 0 1 q_1400 rfl rfl (by decide) rfl rfl dX12_goesBy_92 ?_
      refine lv_bipush (pc := 95) (v := 6) E.1 E.2.1 dX12_goesBy_95 (by decide +kernel) ?_
      refine lv_iload_n (pc := 97) E.1 E.2.1 dX12_goesBy_97 rfl (lv_at hl179 3 rfl) ?_
      refine lv_iadd (pc := 98) E.1 E.2.1 dX12_goesBy_98 ?_
      refine lv_topi (fun v_180 ev_180 => ?_)
      have hv_180 : v_180.toInt = 6 + v_148.toInt := by rw [ev_180]; exact addE (by decide +kernel) rfl (by omega)
      refine lv_aload_n (pc := 99) E.1 E.2.1 dX12_goesBy_99 rfl (lv_at hl179 4 rfl) ?_
      refine x_get (pc := 100) (T := TX12) (N := 70) (ci := 12) (v := .ref (mr 1)) E hw155 inX12 0 1 q_1400 rfl rfl (by decide) rfl rfl dX12_goesBy_100 ?_
      refine lv_bipush (pc := 103) (v := 6) E.1 E.2.1 dX12_goesBy_103 (by decide +kernel) ?_
      refine lv_iload_n (pc := 105) E.1 E.2.1 dX12_goesBy_105 rfl (lv_at hl179 3 rfl) ?_
      refine lv_iadd (pc := 106) E.1 E.2.1 dX12_goesBy_106 ?_
      refine lv_topi (fun v_181 ev_181 => ?_)
      have hv_181 : v_181.toInt = 6 + v_148.toInt := by rw [ev_181]; exact addE (by decide +kernel) rfl (by omega)
      refine x_iald (pc := 107) (f := g_142) E hw155 1 rfl (inbE (a := v_181.toInt) rfl (by omega)) dX12_goesBy_107 ?_
      refine lv_topi (fun v_182 ev_182 => ?_)
      refine lv_iload (pc := 108) E.1 E.2.1 dX12_goesBy_108 (lv_at hl179 0 rfl) ?_
      refine lv_isub (pc := 110) E.1 E.2.1 dX12_goesBy_110 ?_
      refine lv_topi (fun v_183 ev_183 => ?_)
      refine x_iastG (pc := 111) (f := g_142) (wf := fun g => (MW cI cJ M mr mi (va_up (va_up (va_up (va_up mf 1 g) 53 gasked_153) 54 gstack_154) 55 g_143) mg)) E hw155 1 rfl (inbE (a := v_180.toInt) rfl (by omega)) (fun _ => rfl) dX12_goesBy_111 (fun g_184 H locs eg_184 hw185 => ?_)
      have ht_186 : (g_184 0).toInt = (g_142 0).toInt := by rw [eg_184, pk_un (by have q9 := idxI (x := v_180) (by omega); omega)]
      have ht_187 : (g_184 2).toInt = (g_142 2).toInt := by rw [eg_184, pk_un (by have q9 := idxI (x := v_180) (by omega); omega)]
      have ht_188 : (g_184 3).toInt = (g_142 3).toInt := by rw [eg_184, pk_un (by have q9 := idxI (x := v_180) (by omega); omega)]
      have ht_189 : (g_184 5).toInt = (g_142 5).toInt := by rw [eg_184, pk_un (by have q9 := idxI (x := v_180) (by omega); omega)]
      exact join_117 v_148 r_151 1 r_151 g_184 g_143 gasked_153 gstack_154 _ _ _ ⟨(by show 0 ≤ v_148.toInt; omega), (by show v_148.toInt + 1 ≤ (mi 6).toInt; omega), (by show 0 ≤ (1 : Int32).toInt; have k_0 : (1 : Int32).toInt = 1 := (by decide +kernel); omega), (by show (1 : Int32).toInt ≤ 1; have k_0 : (1 : Int32).toInt = 1 := (by decide +kernel); omega), (by show 0 ≤ (g_184 2).toInt; omega), (by show (g_184 2).toInt ≤ 150; omega), (by show 0 ≤ (g_184 3).toInt; omega), (by show (g_184 3).toInt + 1 ≤ (mi 6).toInt; omega), (by show 0 ≤ (g_184 5).toInt; omega), (by show (g_184 5).toInt ≤ 200; omega), (by show (g_184 0).toInt = ((mf 1) 0).toInt; omega)⟩ hw185 (lv_sub hl179 [4, 3, 2, 1, 0] rfl)
  refine lv_aload_n (pc := 0) E.1 E.2.1 dX12_goesBy_0 rfl (lv_at hl3 0 rfl) ?_
  refine lv_aload_n (pc := 1) E.1 E.2.1 dX12_goesBy_1 rfl (lv_at hl3 0 rfl) ?_
  refine x_get (pc := 2) (T := TX12) (N := 70) (ci := 12) (v := .ref (mr 1)) E hw1 inX12 0 1 q_1400 rfl rfl (by decide) rfl rfl dX12_goesBy_2 ?_
  refine lv_iconst (pc := 5) (v := 4) E.1 E.2.1 dX12_goesBy_5 (by decide +kernel) ?_
  refine x_iald (pc := 6) (f := (mf 1)) E hw1 1 rfl (inbE (a := 4) (by decide +kernel) (by omega)) dX12_goesBy_6 ?_
  refine lv_topi (fun v_190 ev_190 => ?_)
  refine cm_v (pc := 7) hw1 (rn_M (As := [.int v_190]) (rest := []) E hw1 (s_findsFar l D cI cJ _ M mr mi mf mg v_190 (by show 0 ≤ (mi 6).toInt ∧ (mi 6).toInt ≤ 10; omega) (by show 0 ≤ (mi 42).toInt ∧ (mi 42).toInt ≤ 40; omega) a_paths) (gdV q_1822 q_1824 q_89 q_162 q_1825) hdV_X12_findsFar ⟨rfl, rfl⟩ ⟨(Nat.le_of_ble_eq_true rfl), (Nat.le_of_ble_eq_true rfl)⟩ ⟨(Nat.le_of_ble_eq_true rfl), (Nat.le_of_ble_eq_true rfl)⟩ 12 rfl rfl rfl rfl hl3.1 rfl (Nat.le_of_ble_eq_true rfl) dX12_goesBy_7) (fun u_191 H1 locs hp hw193 => ?_)
  obtain ⟨gfarOf_194, rfl⟩ : ∃ z, z = u_191 := ⟨_, rfl⟩
  generalize H1 = H at hw193 ⊢
  have hw195 : WD D A s.heap (MW cI cJ M mr mi (va_up mf 55 gfarOf_194) mg) H locs := hw193
  refine lv_aload_n (pc := 10) E.1 E.2.1 dX12_goesBy_10 rfl (lv_at hl3 0 rfl) ?_
  refine x_get (pc := 11) (T := TX12) (N := 70) (ci := 12) (v := .ref (mr 1)) E hw195 inX12 0 1 q_1400 rfl rfl (by decide) rfl rfl dX12_goesBy_11 ?_
  refine lv_iconst (pc := 14) (v := 3) E.1 E.2.1 dX12_goesBy_14 (by decide +kernel) ?_
  refine lv_aload_n (pc := 15) E.1 E.2.1 dX12_goesBy_15 rfl (lv_at hl3 0 rfl) ?_
  refine x_get (pc := 16) (T := TX12) (N := 70) (ci := 12) (v := .ref (mr 1)) E hw195 inX12 0 1 q_1400 rfl rfl (by decide) rfl rfl dX12_goesBy_16 ?_
  refine lv_iconst (pc := 19) (v := 5) E.1 E.2.1 dX12_goesBy_19 (by decide +kernel) ?_
  refine x_iald (pc := 20) (f := (mf 1)) E hw195 1 rfl (inbE (a := 5) (by decide +kernel) (by omega)) dX12_goesBy_20 ?_
  refine lv_topi (fun v_196 ev_196 => ?_)
  have hv_196 : v_196.toInt = ((mf 1) 5).toInt := by rw [ev_196]; rfl
  refine lv_aload_n (pc := 21) E.1 E.2.1 dX12_goesBy_21 rfl (lv_at hl3 0 rfl) ?_
  refine x_get (pc := 22) (T := TX12) (N := 70) (ci := 12) (v := .int (mi 49)) E hw195 inX12 0 49 q_1448 rfl rfl (by decide) rfl rfl dX12_goesBy_22 ?_
  refine lv_icmp_ge (pc := 25) (tgt := 35) E.1 E.2.1 dX12_goesBy_25 (by decide) (fun c_197 => ?_) (fun c_197 => ?_)
  · skip
    have hc_197 := leE (a := (mi 49).toInt) (b := v_196.toInt) rfl rfl c_197
    refine lv_aload_n (pc := 35) E.1 E.2.1 dX12_goesBy_35 rfl (lv_at hl3 0 rfl) ?_
    refine cm_i (pc := 36) hw195 (rn_M (As := []) (rest := [.int 3, .ref (mr 1)]) E hw195 (s_nextByLaw l D cI cJ _ M mr mi (va_up mf 55 gfarOf_194) mg (by show 0 ≤ ((mf 1) 3).toInt; omega) (by show ((mf 1) 3).toInt + 1 ≤ (mi 6).toInt; omega) (by show (mi 6).toInt ≤ 10; omega) (by show 0 ≤ (mi 44).toInt ∧ (mi 44).toInt ≤ 10; omega) (by show 0 ≤ ((mf 27) 0).toInt; omega) (by show ((mf 27) 0).toInt ≤ 16; omega) (by show 0 ≤ ((mf 27) 1).toInt; omega) (by show ((mf 27) 1).toInt ≤ 16; omega) (show LW 0 0 (mf 31) (mf 32) (mf 28) (mf 29) (mf 30) ((mf 27) 0).toInt 400 from lf_law0)) (gdV q_1851 q_1853 q_95 q_162 q_1854) hdV_X12_nextByLaw ⟨rfl, rfl⟩ ⟨(Nat.le_of_ble_eq_true rfl), (Nat.le_of_ble_eq_true rfl)⟩ ⟨(Nat.le_of_ble_eq_true rfl), (Nat.le_of_ble_eq_true rfl)⟩ 12 rfl rfl rfl rfl hl3.1 rfl (Nat.le_of_ble_eq_true rfl) dX12_goesBy_36) (fun r_199 u_198 H1 locs hp hw200 => ?_)
    obtain ⟨gasked_201, gstack_202⟩ := u_198
    generalize H1 = H at hw200 ⊢
    have hw203 : WD D A s.heap (MW cI cJ M mr mi (va_up (va_up (va_up mf 53 gasked_201) 54 gstack_202) 55 gfarOf_194) mg) H locs := hw200
    obtain ⟨hp_204, hp_205⟩ := hp
    have hp_204 : 0 ≤ r_199.toInt := hp_204
    have hp_205 : r_199.toInt + 1 ≤ (mi 6).toInt := hp_205
    refine x_iastG (pc := 39) (f := (mf 1)) (wf := fun g => (MW cI cJ M mr mi (va_up (va_up (va_up (va_up mf 1 g) 53 gasked_201) 54 gstack_202) 55 gfarOf_194) mg)) E hw203 1 rfl (inbE (a := 3) (by decide +kernel) (by omega)) (fun _ => rfl) dX12_goesBy_39 (fun g_206 H locs eg_206 hw207 => ?_)
    have ht_208 : (g_206 0).toInt = ((mf 1) 0).toInt := by rw [eg_206]; rfl
    have ht_209 : (g_206 2).toInt = ((mf 1) 2).toInt := by rw [eg_206]; rfl
    have ht_210 : (g_206 3).toInt = (r_199 : Int32).toInt := by rw [eg_206]; rfl
    have ht_211 : (g_206 5).toInt = ((mf 1) 5).toInt := by rw [eg_206]; rfl
    exact join_141 g_206 gfarOf_194 gasked_201 gstack_202 _ _ _ ⟨(by show 0 ≤ (g_206 2).toInt; omega), (by show (g_206 2).toInt ≤ 150; omega), (by show 0 ≤ (g_206 3).toInt; omega), (by show (g_206 3).toInt + 1 ≤ (mi 6).toInt; omega), (by show 0 ≤ (g_206 5).toInt; omega), (by show (g_206 5).toInt ≤ 200; omega), (by show (g_206 0).toInt = ((mf 1) 0).toInt; omega)⟩ hw207 (lv_sub hl3 [0] rfl)
  · skip
    have hc_197 := nleE (a := (mi 49).toInt) (b := v_196.toInt) rfl rfl c_197
    refine lv_aload_n (pc := 28) E.1 E.2.1 dX12_goesBy_28 rfl (lv_at hl3 0 rfl) ?_
    refine cm_i (pc := 29) hw195 (rn_M (As := []) (rest := [.int 3, .ref (mr 1)]) E hw195 (s_nextByRoundU l D cI cJ _ M mr mi (va_up mf 55 gfarOf_194) mg (by show 0 ≤ ((mf 1) 3).toInt; omega) (by show ((mf 1) 3).toInt + 1 ≤ (mi 6).toInt; omega) (by show (mi 6).toInt ≤ 10; omega) (by show 0 ≤ ((mf 1) 5).toInt; omega) (by show ((mf 1) 5).toInt + 1 ≤ (mi 49).toInt; omega) (by show (mi 49).toInt ≤ 200; omega) (show rndOK (mi 49).toInt (mi 6).toInt (mf 50) from lf_round)) (gdV q_1839 q_1841 q_92 q_162 q_1842) hdV_X12_nextByRound ⟨rfl, rfl⟩ ⟨(Nat.le_of_ble_eq_true rfl), (Nat.le_of_ble_eq_true rfl)⟩ ⟨(Nat.le_of_ble_eq_true rfl), (Nat.le_of_ble_eq_true rfl)⟩ 12 rfl rfl rfl rfl hl3.1 rfl (Nat.le_of_ble_eq_true rfl) dX12_goesBy_29) (fun r_213 u_212 H1 locs hp hw214 => ?_)
    obtain ⟨gnow_215, rfl⟩ : ∃ z, z = u_212 := ⟨_, rfl⟩
    generalize H1 = H at hw214 ⊢
    have hw216 : WD D A s.heap (MW cI cJ M mr mi (va_up (va_up mf 1 gnow_215) 55 gfarOf_194) mg) H locs := hw214
    obtain ⟨hp_217, hp_218, hp_219, hp_220, hp_221, hp_222⟩ := hp
    have hp_217 : 0 ≤ r_213.toInt := hp_217
    have hp_218 : r_213.toInt + 1 ≤ (mi 6).toInt := hp_218
    have hp_219 : (gnow_215 2).toInt = ((mf 1) 2).toInt := hp_219
    have hp_220 : (gnow_215 3).toInt = ((mf 1) 3).toInt := hp_220
    have hp_221 : (gnow_215 5).toInt = ((mf 1) 5).toInt + 1 := hp_221
    have hp_222 : (gnow_215 0).toInt = ((mf 1) 0).toInt := hp_222
    refine lv_goto (pc := 32) (tgt := 39) E.1 E.2.1 dX12_goesBy_32 (by decide) ?_
    refine x_iastG (pc := 39) (f := gnow_215) (wf := fun g => (MW cI cJ M mr mi (va_up (va_up mf 1 g) 55 gfarOf_194) mg)) E hw216 1 rfl (inbE (a := 3) (by decide +kernel) (by omega)) (fun _ => rfl) dX12_goesBy_39 (fun g_223 H locs eg_223 hw224 => ?_)
    have ht_225 : (g_223 0).toInt = (gnow_215 0).toInt := by rw [eg_223]; rfl
    have ht_226 : (g_223 2).toInt = (gnow_215 2).toInt := by rw [eg_223]; rfl
    have ht_227 : (g_223 3).toInt = (r_213 : Int32).toInt := by rw [eg_223]; rfl
    have ht_228 : (g_223 5).toInt = (gnow_215 5).toInt := by rw [eg_223]; rfl
    exact join_141 g_223 gfarOf_194 (mf 53) (mf 54) _ _ _ ⟨(by show 0 ≤ (g_223 2).toInt; omega), (by show (g_223 2).toInt ≤ 150; omega), (by show 0 ≤ (g_223 3).toInt; omega), (by show (g_223 3).toInt + 1 ≤ (mi 6).toInt; omega), (by show 0 ≤ (g_223 5).toInt; omega), (by show (g_223 5).toInt ≤ 200; omega), (by show (g_223 0).toInt = ((mf 1) 0).toInt; omega)⟩ hw224 (lv_sub hl3 [0] rfl)

