set_option maxHeartbeats 4000000 in
set_option maxRecDepth 100000 in
theorem t_readCondition (l : Launch) (D : va_G) (cI cJ : ClassId) (sz : Nat) (mr : Nat → Nat) (mi : Nat → Int32) (mf : Nat → Nat → Int32) (mg : Nat → Nat → Int64)  (ad av : Nat → Nat) (tf : Value) (h0 : 0 ≤ (mi 12).toInt ∧ (mi 12).toInt ≤ 400) (h1 : 0 ≤ (mi 14).toInt) (h2 : (mi 14).toInt ≤ (mi 12).toInt) (h3 : 0 ≤ (mi 13).toInt ∧ (mi 13).toInt ≤ 6) (h4 : 0 ≤ (mi 18).toInt ∧ (mi 18).toInt ≤ 4) (h5 : 0 ≤ (mi 2).toInt ∧ (mi 2).toInt ≤ 400) : Met l yX2_readCondition (Cond.code yX2_readCondition cX2_readCondition 4 none :: GW) ({ frames := 9, cells := 0, slots := 0, locals := 218 } : Room) (va_Pc [.ref (mr 0), .ref (mr 10)] (PW D cI cJ sz (WZ_LawT cI cJ ad mr mi mf mg) (xT8 ad av tf (va_A (WZ_LawT cI cJ ad mr mi mf mg) sz)))) (va_Qv (fun (u : Int32 × Int32 × Int32 × Int32 × Int32 × Int32 × (Nat → Int32) × Int32 × Int32 × Int32 × Int32 × (Nat → Int32)) => (0 ≤ u.1.toInt) ∧ (u.1.toInt ≤ (mi 12).toInt) ∧ (0 ≤ u.2.2.2.2.1.toInt) ∧ (u.2.2.2.2.1.toInt ≤ 4) ∧ (0 ≤ u.2.2.2.2.2.2.2.1.toInt) ∧ (u.2.2.2.2.2.2.2.1.toInt ≤ 400)) (fun u => QW D cI cJ (va_A (WZ_LawT cI cJ ad mr mi mf mg) sz) ((fun (u : Int32 × Int32 × Int32 × Int32 × Int32 × Int32 × (Nat → Int32) × Int32 × Int32 × Int32 × Int32 × (Nat → Int32)) => (WZ_LawT cI cJ ad mr (upd (upd (upd (upd (upd (upd (upd (upd (upd (upd mi 14 u.1) 17 u.2.1) 15 u.2.2.1) 16 u.2.2.2.1) 18 u.2.2.2.2.1) 19 u.2.2.2.2.2.1) 2 u.2.2.2.2.2.2.2.1) 7 u.2.2.2.2.2.2.2.2.1) 9 u.2.2.2.2.2.2.2.2.2.1) 8 u.2.2.2.2.2.2.2.2.2.2.1) (va_up (va_up mf 1 u.2.2.2.2.2.2.1) 6 u.2.2.2.2.2.2.2.2.2.2.2) mg)) u)) (va_A (WZ_LawT cI cJ ad mr mi mf mg) sz)) 0 0 (va_A (WZ_LawT cI cJ ad mr mi mf mg) sz) := by
  refine mk_metA (X := fun A => xT8 ad av tf A) (y := yX2_readCondition) (bytes := cX2_readCondition) (maxL := 4) (avs := [.ref (mr 0), .ref (mr 10)]) (WS := (WZ_LawT cI cJ ad mr mi mf mg)) (Qf := fun A => va_Qv (fun (u : Int32 × Int32 × Int32 × Int32 × Int32 × Int32 × (Nat → Int32) × Int32 × Int32 × Int32 × Int32 × (Nat → Int32)) => (0 ≤ u.1.toInt) ∧ (u.1.toInt ≤ (mi 12).toInt) ∧ (0 ≤ u.2.2.2.2.1.toInt) ∧ (u.2.2.2.2.1.toInt ≤ 4) ∧ (0 ≤ u.2.2.2.2.2.2.2.1.toInt) ∧ (u.2.2.2.2.2.2.2.1.toInt ≤ 400)) (fun u => QW D cI cJ A ((fun (u : Int32 × Int32 × Int32 × Int32 × Int32 × Int32 × (Nat → Int32) × Int32 × Int32 × Int32 × Int32 × (Nat → Int32)) => (WZ_LawT cI cJ ad mr (upd (upd (upd (upd (upd (upd (upd (upd (upd (upd mi 14 u.1) 17 u.2.1) 15 u.2.2.1) 16 u.2.2.2.1) 18 u.2.2.2.2.1) 19 u.2.2.2.2.2.1) 2 u.2.2.2.2.2.2.2.1) 7 u.2.2.2.2.2.2.2.2.1) 9 u.2.2.2.2.2.2.2.2.2.1) 8 u.2.2.2.2.2.2.2.2.2.2.1) (va_up (va_up mf 1 u.2.2.2.2.2.2.1) 6 u.2.2.2.2.2.2.2.2.2.2.2) mg)) u)) A) (by decide) (Nat.le_of_ble_eq_true rfl) ?_
  intro p e s m below meth c A ls E hr hlk hnm hX hw1 hl2
  have hl3 : lv_has ls 4 [(0, .ref (mr 0)), (1, .ref (mr 10))] := hl2
  have join_4 : ∀ (x_5 : Int32) (x_6 : Int32) (x_7 : Int32) (x_8 : Int32) (x_9 : Int32) (x_10 : Int32) (x_11 : Int32) (x_12 : Int32) (x_13 : Int32) (x_14 : Int32) (g_15 : Nat → Int32) (g_16 : Nat → Int32) (H : Heap) (locs : List Loc) (ls : Array Slot), (0 ≤ x_5.toInt) ∧ (x_5.toInt ≤ (mi 12).toInt) ∧ (0 ≤ x_9.toInt) ∧ (x_9.toInt ≤ 4) ∧ (0 ≤ x_11.toInt) ∧ (x_11.toInt ≤ 400) ∧ (0 ≤ x_12.toInt) ∧ (x_12.toInt ≤ 64) → WD D A s.heap (WZ_LawT cI cJ ad mr (upd (upd (upd (upd (upd (upd (upd (upd (upd (upd mi 2 x_11) 7 x_12) 8 x_14) 9 x_13) 14 x_5) 15 x_7) 16 x_8) 17 x_6) 18 x_9) 19 x_10) (va_up (va_up mf 1 g_15) 6 g_16) mg) H locs → lv_has ls 4 [(0, .ref (mr 0)), (1, .ref (mr 10))] → W p l e ({ frames := 9, cells := 0, slots := 0, locals := 218 } : Room) s m ([.ref (mr 0), .ref (mr 10)] : List Value).toArray below meth c H locs 0 0 (MQ below (va_Qv (fun (u : Int32 × Int32 × Int32 × Int32 × Int32 × Int32 × (Nat → Int32) × Int32 × Int32 × Int32 × Int32 × (Nat → Int32)) => (0 ≤ u.1.toInt) ∧ (u.1.toInt ≤ (mi 12).toInt) ∧ (0 ≤ u.2.2.2.2.1.toInt) ∧ (u.2.2.2.2.1.toInt ≤ 4) ∧ (0 ≤ u.2.2.2.2.2.2.2.1.toInt) ∧ (u.2.2.2.2.2.2.2.1.toInt ≤ 400)) (fun u => QW D cI cJ A ((fun (u : Int32 × Int32 × Int32 × Int32 × Int32 × Int32 × (Nat → Int32) × Int32 × Int32 × Int32 × Int32 × (Nat → Int32)) => (WZ_LawT cI cJ ad mr (upd (upd (upd (upd (upd (upd (upd (upd (upd (upd mi 14 u.1) 17 u.2.1) 15 u.2.2.1) 16 u.2.2.2.1) 18 u.2.2.2.2.1) 19 u.2.2.2.2.2.1) 2 u.2.2.2.2.2.2.2.1) 7 u.2.2.2.2.2.2.2.2.1) 9 u.2.2.2.2.2.2.2.2.2.1) 8 u.2.2.2.2.2.2.2.2.2.2.1) (va_up (va_up mf 1 u.2.2.2.2.2.2.1) 6 u.2.2.2.2.2.2.2.2.2.2.2) mg)) u)) A) ([.ref (mr 0), .ref (mr 10)] : List Value).toArray s 0 0 A) (F0 m 132 ls []) := by
    intro x_5 x_6 x_7 x_8 x_9 x_10 x_11 x_12 x_13 x_14 g_15 g_16 H locs ls hinv hw17 hl18
    obtain ⟨hj_16_0, hj_16_1, hj_16_2, hj_16_3, hj_16_4, hj_16_5, hj_16_6, hj_16_7⟩ := hinv
    refine lv_aload_n (pc := 132) E.1 E.2.1 dX2_readCondition_132 rfl (lv_at hl18 0 rfl) ?_
    refine x_get (pc := 133) (T := TX2) (N := 9) (ci := 2) (v := .int x_14) E hw17 inX2 0 7 q_392 rfl rfl (by decide) rfl rfl dX2_readCondition_133 ?_
    refine lv_if_le (pc := 136) (tgt := 144) E.1 E.2.1 dX2_readCondition_136 (by decide) (fun c_19 => ?_) (fun c_19 => ?_)
    · skip
      have hc_19 := leE (a := x_14.toInt) (b := 0) rfl (by decide +kernel) c_19
      refine lv_aload_n (pc := 144) E.1 E.2.1 dX2_readCondition_144 rfl (lv_at hl18 0 rfl) ?_
      refine lv_sipush (pc := 145) (v := 258) E.1 E.2.1 dX2_readCondition_145 (by decide +kernel) ?_
      refine ck_v (pc := 148) (ws' := (fun (u : (Nat → Int32) × Int32 × Int32) => (WZ_LawT cI cJ ad mr (upd (upd (upd (upd (upd (upd (upd (upd (upd (upd mi 2 u.2.1) 7 u.2.2) 8 x_14) 9 x_13) 14 x_5) 15 x_7) 16 x_8) 17 x_6) 18 x_9) 19 x_10) (va_up (va_up mf 1 u.1) 6 g_16) mg))) [true, true, true, true, true, false, false] hw17 rfl (fun hC_ => (rn_V (As := [.int 258]) (rest := []) E hw17 (t_fold l D cI cJ _ mr (upd (upd (upd (upd (upd (upd (upd (upd (upd (upd mi 2 x_11) 7 x_12) 8 x_14) 9 x_13) 14 x_5) 15 x_7) 16 x_8) 17 x_6) 18 x_9) 19 x_10) (va_up (va_up mf 1 g_15) 6 g_16) mg 258 ⟨hj_16_4, hj_16_5⟩ ⟨hj_16_6, hj_16_7⟩) (gdV q_906 q_908 q_12 q_157 q_909) hdV_X2_fold ⟨rfl, rfl⟩ ⟨(Nat.le_of_ble_eq_true rfl), (Nat.le_of_ble_eq_true rfl)⟩ ⟨(Nat.le_of_ble_eq_true rfl), (Nat.le_of_ble_eq_true rfl)⟩ xT_b xT_at 0 2 rfl rfl rfl _ hC_ (nd_T _ 0) rfl hl18.1 rfl (Nat.le_of_ble_eq_true rfl) dX2_readCondition_148)) rfl (fun _ => rfl) (fun _ => rfl) (fun u_20 H1 locs hp hw22 => ?_)
      obtain ⟨gcode_23, nsize_24, nholding_25⟩ := u_20
      generalize H1 = H at hw22 ⊢
      have hw26 : WD D A s.heap (WZ_LawT cI cJ ad mr (upd (upd (upd (upd (upd (upd (upd (upd (upd (upd mi 2 nsize_24) 7 nholding_25) 8 x_14) 9 x_13) 14 x_5) 15 x_7) 16 x_8) 17 x_6) 18 x_9) 19 x_10) (va_up (va_up mf 1 gcode_23) 6 g_16) mg) H locs := hw22
      obtain ⟨hp_27, hp_28, hp_29, hp_30⟩ := hp
      have hp_27 : 0 ≤ nsize_24.toInt := hp_27
      have hp_28 : nsize_24.toInt ≤ 400 := hp_28
      have hp_29 : 0 ≤ nholding_25.toInt := hp_29
      have hp_30 : nholding_25.toInt ≤ 64 := hp_30
      exact em_v (w1 := (fun (u : Int32 × Int32 × Int32 × Int32 × Int32 × Int32 × (Nat → Int32) × Int32 × Int32 × Int32 × Int32 × (Nat → Int32)) => (WZ_LawT cI cJ ad mr (upd (upd (upd (upd (upd (upd (upd (upd (upd (upd mi 14 u.1) 17 u.2.1) 15 u.2.2.1) 16 u.2.2.2.1) 18 u.2.2.2.2.1) 19 u.2.2.2.2.2.1) 2 u.2.2.2.2.2.2.2.1) 7 u.2.2.2.2.2.2.2.2.1) 9 u.2.2.2.2.2.2.2.2.2.1) 8 u.2.2.2.2.2.2.2.2.2.2.1) (va_up (va_up mf 1 u.2.2.2.2.2.2.1) 6 u.2.2.2.2.2.2.2.2.2.2.2) mg))) E hr hlk (x_5, x_6, x_7, x_8, x_9, x_10, gcode_23, nsize_24, nholding_25, x_13, x_14, g_16) hw26 ⟨hj_16_0, hj_16_1, hj_16_2, hj_16_3, hp_27, hp_28⟩ (Nat.le_of_ble_eq_true rfl) (Nat.le_of_ble_eq_true rfl) dX2_readCondition_151
    · skip
      have hc_19 := nleE (a := x_14.toInt) (b := 0) rfl (by decide +kernel) c_19
      refine lv_aload_n (pc := 139) E.1 E.2.1 dX2_readCondition_139 rfl (lv_at hl18 1 rfl) ?_
      refine lv_iconst (pc := 140) (v := 1) E.1 E.2.1 dX2_readCondition_140 (by decide +kernel) ?_
      refine ck_v (pc := 141) (ws' := (fun (u : Int32 × Int32) => (WZ_LawT cI cJ ad mr (upd (upd (upd (upd (upd (upd (upd (upd (upd (upd mi 2 x_11) 7 x_12) 8 x_14) 9 x_13) 14 x_5) 15 x_7) 16 x_8) 17 x_6) 18 u.1) 19 u.2) (va_up (va_up mf 1 g_15) 6 g_16) mg))) [false, false, false, false, false, true, true] hw17 rfl (fun hC_ => (rn_V (As := [.int 1]) (rest := []) E hw17 (t_refuse l D cI cJ _ (shf 10 mr) (shf 10 (upd (upd (upd (upd (upd (upd (upd (upd (upd (upd mi 2 x_11) 7 x_12) 8 x_14) 9 x_13) 14 x_5) 15 x_7) 16 x_8) 17 x_6) 18 x_9) 19 x_10)) (shf 10 (va_up (va_up mf 1 g_15) 6 g_16)) (shf 10 mg) 1 ad (by show 1 ≤ (1 : Int32).toInt ∧ (1 : Int32).toInt ≤ 4; have k_0 : (1 : Int32).toInt = 1 := (by decide +kernel); omega) ⟨hj_16_2, hj_16_3⟩) (gdV q_856 q_857 q_858 q_160 q_859) hdV_X8_refuse ⟨rfl, rfl⟩ ⟨(Nat.le_of_ble_eq_true rfl), (Nat.le_of_ble_eq_true rfl)⟩ ⟨(Nat.le_of_ble_eq_true rfl), (Nat.le_of_ble_eq_true rfl)⟩ xT_b xT_at 5 8 rfl rfl rfl _ hC_ (nd_T _ 0) rfl hl18.1 rfl (Nat.le_of_ble_eq_true rfl) dX2_readCondition_141)) rfl (fun _ => rfl) (fun _ => rfl) (fun u_31 H1 locs hp hw33 => ?_)
      obtain ⟨nfault_34, nfaultPlace_35⟩ := u_31
      generalize H1 = H at hw33 ⊢
      have hw36 : WD D A s.heap (WZ_LawT cI cJ ad mr (upd (upd (upd (upd (upd (upd (upd (upd (upd (upd mi 2 x_11) 7 x_12) 8 x_14) 9 x_13) 14 x_5) 15 x_7) 16 x_8) 17 x_6) 18 nfault_34) 19 nfaultPlace_35) (va_up (va_up mf 1 g_15) 6 g_16) mg) H locs := hw33
      obtain ⟨hp_37, hp_38⟩ := hp
      have hp_37 : 1 ≤ nfault_34.toInt := hp_37
      have hp_38 : nfault_34.toInt ≤ 4 := hp_38
      refine lv_aload_n (pc := 144) E.1 E.2.1 dX2_readCondition_144 rfl (lv_at hl18 0 rfl) ?_
      refine lv_sipush (pc := 145) (v := 258) E.1 E.2.1 dX2_readCondition_145 (by decide +kernel) ?_
      refine ck_v (pc := 148) (ws' := (fun (u : (Nat → Int32) × Int32 × Int32) => (WZ_LawT cI cJ ad mr (upd (upd (upd (upd (upd (upd (upd (upd (upd (upd mi 2 u.2.1) 7 u.2.2) 8 x_14) 9 x_13) 14 x_5) 15 x_7) 16 x_8) 17 x_6) 18 nfault_34) 19 nfaultPlace_35) (va_up (va_up mf 1 u.1) 6 g_16) mg))) [true, true, true, true, true, false, false] hw36 rfl (fun hC_ => (rn_V (As := [.int 258]) (rest := []) E hw36 (t_fold l D cI cJ _ mr (upd (upd (upd (upd (upd (upd (upd (upd (upd (upd mi 2 x_11) 7 x_12) 8 x_14) 9 x_13) 14 x_5) 15 x_7) 16 x_8) 17 x_6) 18 nfault_34) 19 nfaultPlace_35) (va_up (va_up mf 1 g_15) 6 g_16) mg 258 ⟨hj_16_4, hj_16_5⟩ ⟨hj_16_6, hj_16_7⟩) (gdV q_906 q_908 q_12 q_157 q_909) hdV_X2_fold ⟨rfl, rfl⟩ ⟨(Nat.le_of_ble_eq_true rfl), (Nat.le_of_ble_eq_true rfl)⟩ ⟨(Nat.le_of_ble_eq_true rfl), (Nat.le_of_ble_eq_true rfl)⟩ xT_b xT_at 0 2 rfl rfl rfl _ hC_ (nd_T _ 0) rfl hl18.1 rfl (Nat.le_of_ble_eq_true rfl) dX2_readCondition_148)) rfl (fun _ => rfl) (fun _ => rfl) (fun u_39 H1 locs hp hw41 => ?_)
      obtain ⟨gcode_42, nsize_43, nholding_44⟩ := u_39
      generalize H1 = H at hw41 ⊢
      have hw45 : WD D A s.heap (WZ_LawT cI cJ ad mr (upd (upd (upd (upd (upd (upd (upd (upd (upd (upd mi 2 nsize_43) 7 nholding_44) 8 x_14) 9 x_13) 14 x_5) 15 x_7) 16 x_8) 17 x_6) 18 nfault_34) 19 nfaultPlace_35) (va_up (va_up mf 1 gcode_42) 6 g_16) mg) H locs := hw41
      obtain ⟨hp_46, hp_47, hp_48, hp_49⟩ := hp
      have hp_46 : 0 ≤ nsize_43.toInt := hp_46
      have hp_47 : nsize_43.toInt ≤ 400 := hp_47
      have hp_48 : 0 ≤ nholding_44.toInt := hp_48
      have hp_49 : nholding_44.toInt ≤ 64 := hp_49
      exact em_v (w1 := (fun (u : Int32 × Int32 × Int32 × Int32 × Int32 × Int32 × (Nat → Int32) × Int32 × Int32 × Int32 × Int32 × (Nat → Int32)) => (WZ_LawT cI cJ ad mr (upd (upd (upd (upd (upd (upd (upd (upd (upd (upd mi 14 u.1) 17 u.2.1) 15 u.2.2.1) 16 u.2.2.2.1) 18 u.2.2.2.2.1) 19 u.2.2.2.2.2.1) 2 u.2.2.2.2.2.2.2.1) 7 u.2.2.2.2.2.2.2.2.1) 9 u.2.2.2.2.2.2.2.2.2.1) 8 u.2.2.2.2.2.2.2.2.2.2.1) (va_up (va_up mf 1 u.2.2.2.2.2.2.1) 6 u.2.2.2.2.2.2.2.2.2.2.2) mg))) E hr hlk (x_5, x_6, x_7, x_8, nfault_34, nfaultPlace_35, gcode_42, nsize_43, nholding_44, x_13, x_14, g_16) hw45 ⟨hj_16_0, hj_16_1, (by show 0 ≤ nfault_34.toInt; omega), hp_38, hp_46, hp_47⟩ (Nat.le_of_ble_eq_true rfl) (Nat.le_of_ble_eq_true rfl) dX2_readCondition_151
  refine lv_aload_n (pc := 0) E.1 E.2.1 dX2_readCondition_0 rfl (lv_at hl3 0 rfl) ?_
  refine lv_iconst (pc := 1) (v := 0) E.1 E.2.1 dX2_readCondition_1 (by decide +kernel) ?_
  refine x_put (pc := 2) (T := TX2) (N := 9) (ci := 2) (ws' := (WZ_LawT cI cJ ad mr (upd mi 7 0) mf mg)) E hw1 inX2 tyX2_ok nmX2 0 6 q_391 rfl rfl (by decide) rfl rfl rfl rfl (Nat.le_of_ble_eq_true rfl) rfl dX2_readCondition_2 (fun H locs hw50 => ?_)
  refine lv_aload_n (pc := 5) E.1 E.2.1 dX2_readCondition_5 rfl (lv_at hl3 0 rfl) ?_
  refine lv_iconst (pc := 6) (v := 0) E.1 E.2.1 dX2_readCondition_6 (by decide +kernel) ?_
  refine x_put (pc := 7) (T := TX2) (N := 9) (ci := 2) (ws' := (WZ_LawT cI cJ ad mr (upd (upd mi 7 0) 8 0) mf mg)) E hw50 inX2 tyX2_ok nmX2 0 7 q_392 rfl rfl (by decide) rfl rfl rfl rfl (Nat.le_of_ble_eq_true rfl) rfl dX2_readCondition_7 (fun H locs hw51 => ?_)
  refine lv_aload_n (pc := 10) E.1 E.2.1 dX2_readCondition_10 rfl (lv_at hl3 0 rfl) ?_
  refine lv_iconst (pc := 11) (v := 0) E.1 E.2.1 dX2_readCondition_11 (by decide +kernel) ?_
  refine x_put (pc := 12) (T := TX2) (N := 9) (ci := 2) (ws' := (WZ_LawT cI cJ ad mr (upd (upd (upd mi 7 0) 8 0) 9 0) mf mg)) E hw51 inX2 tyX2_ok nmX2 0 8 q_393 rfl rfl (by decide) rfl rfl rfl rfl (Nat.le_of_ble_eq_true rfl) rfl dX2_readCondition_12 (fun H locs hw52 => ?_)
  refine lv_iconst (pc := 15) (v := 0) E.1 E.2.1 dX2_readCondition_15 (by decide +kernel) ?_
  refine lv_istore_n (pc := 16) (lv' := [(2, .int 0), (0, .ref (mr 0)), (1, .ref (mr 10))]) E.1 E.2.1 dX2_readCondition_16 rfl hl3 (by decide) rfl (fun ls hl53 => ?_)
  have loop_54 : ∀ (k : Nat) (x_55 : Int32) (x_56 : Int32) (x_57 : Int32) (x_58 : Int32) (x_59 : Int32) (x_60 : Int32) (x_61 : Int32) (x_62 : Int32) (x_63 : Int32) (x_64 : Int32) (x_65 : Int32) (g_66 : Nat → Int32) (g_67 : Nat → Int32) (H : Heap) (locs : List Loc) (ls : Array Slot), (0 ≤ x_56.toInt) ∧ (x_56.toInt ≤ (mi 12).toInt) ∧ (0 ≤ x_60.toInt) ∧ (x_60.toInt ≤ 4) ∧ (0 ≤ x_62.toInt) ∧ (x_62.toInt ≤ 400) ∧ (0 ≤ x_63.toInt) ∧ (x_63.toInt ≤ 64) ∧ (0 ≤ x_55.toInt) ∧ (x_55.toInt ≤ 401) → 401 - x_55.toInt < (k : Int) → WD D A s.heap (WZ_LawT cI cJ ad mr (upd (upd (upd (upd (upd (upd (upd (upd (upd (upd mi 2 x_62) 7 x_63) 8 x_65) 9 x_64) 14 x_56) 15 x_58) 16 x_59) 17 x_57) 18 x_60) 19 x_61) (va_up (va_up mf 1 g_66) 6 g_67) mg) H locs → lv_has ls 4 [(2, .int x_55), (0, .ref (mr 0)), (1, .ref (mr 10))] → W p l e ({ frames := 9, cells := 0, slots := 0, locals := 218 } : Room) s m ([.ref (mr 0), .ref (mr 10)] : List Value).toArray below meth c H locs 0 0 (MQ below (va_Qv (fun (u : Int32 × Int32 × Int32 × Int32 × Int32 × Int32 × (Nat → Int32) × Int32 × Int32 × Int32 × Int32 × (Nat → Int32)) => (0 ≤ u.1.toInt) ∧ (u.1.toInt ≤ (mi 12).toInt) ∧ (0 ≤ u.2.2.2.2.1.toInt) ∧ (u.2.2.2.2.1.toInt ≤ 4) ∧ (0 ≤ u.2.2.2.2.2.2.2.1.toInt) ∧ (u.2.2.2.2.2.2.2.1.toInt ≤ 400)) (fun u => QW D cI cJ A ((fun (u : Int32 × Int32 × Int32 × Int32 × Int32 × Int32 × (Nat → Int32) × Int32 × Int32 × Int32 × Int32 × (Nat → Int32)) => (WZ_LawT cI cJ ad mr (upd (upd (upd (upd (upd (upd (upd (upd (upd (upd mi 14 u.1) 17 u.2.1) 15 u.2.2.1) 16 u.2.2.2.1) 18 u.2.2.2.2.1) 19 u.2.2.2.2.2.1) 2 u.2.2.2.2.2.2.2.1) 7 u.2.2.2.2.2.2.2.2.1) 9 u.2.2.2.2.2.2.2.2.2.1) 8 u.2.2.2.2.2.2.2.2.2.2.1) (va_up (va_up mf 1 u.2.2.2.2.2.2.1) 6 u.2.2.2.2.2.2.2.2.2.2.2) mg)) u)) A) ([.ref (mr 0), .ref (mr 10)] : List Value).toArray s 0 0 A) (F0 m 17 ls []) := by
    intro k
    induction k with
    | zero =>
      intro x_55 x_56 x_57 x_58 x_59 x_60 x_61 x_62 x_63 x_64 x_65 g_66 g_67 _ _ _ hinv hm
      obtain ⟨hi_67_0, hi_67_1, hi_67_2, hi_67_3, hi_67_4, hi_67_5, hi_67_6, hi_67_7, hi_67_8, hi_67_9⟩ := hinv
      exact absurd hm (by omega)
    | succ k ih_68 =>
      intro x_55 x_56 x_57 x_58 x_59 x_60 x_61 x_62 x_63 x_64 x_65 g_66 g_67 H locs ls hinv hm hw69 hl70
      obtain ⟨hi_67_0, hi_67_1, hi_67_2, hi_67_3, hi_67_4, hi_67_5, hi_67_6, hi_67_7, hi_67_8, hi_67_9⟩ := hinv
      refine lv_iload_n (pc := 17) E.1 E.2.1 dX2_readCondition_17 rfl (lv_at hl70 0 rfl) ?_
      refine lv_sipush (pc := 18) (v := 400) E.1 E.2.1 dX2_readCondition_18 (by decide +kernel) ?_
      refine lv_icmp_gt (pc := 21) (tgt := 132) E.1 E.2.1 dX2_readCondition_21 (by decide) (fun c_71 => ?_) (fun c_71 => ?_)
      · skip
        have hc_71 := ltE (a := 400) (b := x_55.toInt) (by decide +kernel) rfl c_71
        exact join_4 x_56 x_57 x_58 x_59 x_60 x_61 x_62 x_63 x_64 x_65 g_66 g_67 _ _ _ ⟨hi_67_0, hi_67_1, hi_67_2, hi_67_3, hi_67_4, hi_67_5, hi_67_6, hi_67_7⟩ hw69 (lv_sub hl70 [1, 2] rfl)
      · skip
        have hc_71 := nltE (a := 400) (b := x_55.toInt) (by decide +kernel) rfl c_71
        refine lv_aload_n (pc := 24) E.1 E.2.1 dX2_readCondition_24 rfl (lv_at hl70 2 rfl) ?_
        refine x_get (pc := 25) (T := TX8) (N := 9) (ci := 8) (v := .int x_60) E hw69 inX8 5 7 q_551 rfl rfl (by decide) rfl rfl dX2_readCondition_25 ?_
        refine lv_if_ne (pc := 28) (tgt := 132) E.1 E.2.1 dX2_readCondition_28 (by decide) (fun c_72 => ?_) (fun c_72 => ?_)
        · skip
          have hc_72 := neE (a := x_60.toInt) (b := 0) rfl (by decide +kernel) c_72
          exact join_4 x_56 x_57 x_58 x_59 x_60 x_61 x_62 x_63 x_64 x_65 g_66 g_67 _ _ _ ⟨hi_67_0, hi_67_1, hi_67_2, hi_67_3, hi_67_4, hi_67_5, hi_67_6, hi_67_7⟩ hw69 (lv_sub hl70 [1, 2] rfl)
        · skip
          have hc_72 := eqE (a := x_60.toInt) (b := 0) rfl (by decide +kernel) c_72
          refine lv_aload_n (pc := 31) E.1 E.2.1 dX2_readCondition_31 rfl (lv_at hl70 2 rfl) ?_
          refine x_get (pc := 32) (T := TX8) (N := 9) (ci := 8) (v := .int x_58) E hw69 inX8 5 4 q_545 rfl rfl (by decide) rfl rfl dX2_readCondition_32 ?_
          refine lv_bipush (pc := 35) (v := 40) E.1 E.2.1 dX2_readCondition_35 (by decide +kernel) ?_
          refine lv_icmp_eq (pc := 37) (tgt := 50) E.1 E.2.1 dX2_readCondition_37 (by decide) (fun c_73 => ?_) (fun c_73 => ?_)
          · skip
            have hc_73 := eqE (a := x_58.toInt) (b := 40) rfl (by decide +kernel) c_73
            refine lv_aload_n (pc := 50) E.1 E.2.1 dX2_readCondition_50 rfl (lv_at hl70 1 rfl) ?_
            refine lv_aload_n (pc := 51) E.1 E.2.1 dX2_readCondition_51 rfl (lv_at hl70 2 rfl) ?_
            refine ck_v (pc := 52) (ws' := (fun (u : Int32 × Int32 × Int32 × Int32 × Int32 × Int32 × Int32 × Int32 × (Nat → Int32) × Int32) => (WZ_LawT cI cJ ad mr (upd (upd (upd (upd (upd (upd (upd (upd (upd (upd mi 2 x_62) 7 u.2.2.2.2.2.2.2.2.2) 8 u.2.2.2.2.2.2.2.1) 9 u.2.2.2.2.2.2.1) 14 u.1) 15 u.2.2.1) 16 u.2.2.2.1) 17 u.2.1) 18 u.2.2.2.2.1) 19 u.2.2.2.2.2.1) (va_up (va_up mf 1 g_66) 6 u.2.2.2.2.2.2.2.2.1) mg))) [true, true, true, true, true, true, true] hw69 rfl (fun hC_ => (rn_V (As := [.ref (mr 10)]) (rest := []) E hw69 (t_openPart l D cI cJ _ mr (upd (upd (upd (upd (upd (upd (upd (upd (upd (upd mi 2 x_62) 7 x_63) 8 x_65) 9 x_64) 14 x_56) 15 x_58) 16 x_59) 17 x_57) 18 x_60) 19 x_61) (va_up (va_up mf 1 g_66) 6 g_67) mg ad av tf h0 hi_67_0 hi_67_1 h3 ⟨hi_67_2, hi_67_3⟩ hi_67_6 hi_67_7) (gdV q_886 q_888 q_8 q_157 q_889) hdV_X2_openPart ⟨rfl, rfl⟩ ⟨(Nat.le_of_ble_eq_true rfl), (Nat.le_of_ble_eq_true rfl)⟩ ⟨(Nat.le_of_ble_eq_true rfl), (Nat.le_of_ble_eq_true rfl)⟩ xT8_b (xT8_at hX hw69.2.2.1 (va_free hw69.2.1 hw69.2.2.1 hw69.2.2.2 _ hC_)) 0 2 rfl rfl rfl _ hC_ (nd_T _ 0) rfl hl70.1 rfl (Nat.le_of_ble_eq_true rfl) dX2_readCondition_52)) rfl (fun _ => rfl) (fun _ => rfl) (fun u_74 H1 locs hp hw76 => ?_)
            obtain ⟨ntat_77, ntplace_78, ntkind_79, ntvalue_80, ntfault_81, ntfaultPlace_82, nopen_83, nbrackets_84, gheld_85, nholding_86⟩ := u_74
            generalize H1 = H at hw76 ⊢
            have hw87 : WD D A s.heap (WZ_LawT cI cJ ad mr (upd (upd (upd (upd (upd (upd (upd (upd (upd (upd mi 2 x_62) 7 nholding_86) 8 nbrackets_84) 9 nopen_83) 14 ntat_77) 15 ntkind_79) 16 ntvalue_80) 17 ntplace_78) 18 ntfault_81) 19 ntfaultPlace_82) (va_up (va_up mf 1 g_66) 6 gheld_85) mg) H locs := hw76
            obtain ⟨hp_88, hp_89, hp_90, hp_91, hp_92, hp_93⟩ := hp
            have hp_88 : 0 ≤ ntat_77.toInt := hp_88
            have hp_89 : ntat_77.toInt ≤ (mi 12).toInt := hp_89
            have hp_90 : 0 ≤ ntfault_81.toInt := hp_90
            have hp_91 : ntfault_81.toInt ≤ 4 := hp_91
            have hp_92 : 0 ≤ nholding_86.toInt := hp_92
            have hp_93 : nholding_86.toInt ≤ 64 := hp_93
            refine lv_goto (pc := 55) (tgt := 126) E.1 E.2.1 dX2_readCondition_55 (by decide) ?_
            obtain ⟨v_94, ev_94⟩ : ∃ z : Int32, x_55 + Int32.ofInt (1) = z := ⟨_, rfl⟩
            have hv_94 : v_94.toInt = x_55.toInt + (1) := by rw [← ev_94]; exact incE rfl (by decide) (by omega)
            refine lv_iinc (pc := 126) (v := v_94) (lv' := [(2, .int v_94), (0, .ref (mr 0)), (1, .ref (mr 10))]) E.1 E.2.1 dX2_readCondition_126 hl70 (k := 0) rfl ev_94 (by decide) rfl (fun ls hl95 => ?_)
            refine lv_goto (pc := 129) (tgt := 17) E.1 E.2.1 dX2_readCondition_129 (by decide) ?_
            exact ih_68 v_94 ntat_77 ntplace_78 ntkind_79 ntvalue_80 ntfault_81 ntfaultPlace_82 x_62 nholding_86 nopen_83 nbrackets_84 g_66 gheld_85 _ _ _ ⟨hp_88, hp_89, hp_90, hp_91, hi_67_4, hi_67_5, hp_92, hp_93, (by show 0 ≤ v_94.toInt; omega), (by show v_94.toInt ≤ 401; omega)⟩ (by omega) hw87 (lv_sub hl95 [0, 1, 2] rfl)
          · skip
            have hc_73 := neE (a := x_58.toInt) (b := 40) rfl (by decide +kernel) c_73
            refine lv_aload_n (pc := 40) E.1 E.2.1 dX2_readCondition_40 rfl (lv_at hl70 2 rfl) ?_
            refine x_get (pc := 41) (T := TX8) (N := 9) (ci := 8) (v := .int x_58) E hw69 inX8 5 4 q_545 rfl rfl (by decide) rfl rfl dX2_readCondition_41 ?_
            refine lv_sipush (pc := 44) (v := 260) E.1 E.2.1 dX2_readCondition_44 (by decide +kernel) ?_
            refine lv_icmp_ne (pc := 47) (tgt := 58) E.1 E.2.1 dX2_readCondition_47 (by decide) (fun c_96 => ?_) (fun c_96 => ?_)
            · skip
              have hc_96 := neE (a := x_58.toInt) (b := 260) rfl (by decide +kernel) c_96
              refine lv_aload_n (pc := 58) E.1 E.2.1 dX2_readCondition_58 rfl (lv_at hl70 1 rfl) ?_
              refine lv_aload_n (pc := 59) E.1 E.2.1 dX2_readCondition_59 rfl (lv_at hl70 2 rfl) ?_
              refine ck_v (pc := 60) (ws' := (fun (u : Int32 × Int32 × Int32 × Int32 × Int32 × Int32 × (Nat → Int32) × Int32) => (WZ_LawT cI cJ ad mr (upd (upd (upd (upd (upd (upd (upd (upd (upd (upd mi 2 u.2.2.2.2.2.2.2) 7 x_63) 8 x_65) 9 x_64) 14 u.1) 15 u.2.2.1) 16 u.2.2.2.1) 17 u.2.1) 18 u.2.2.2.2.1) 19 u.2.2.2.2.2.1) (va_up (va_up mf 1 u.2.2.2.2.2.2.1) 6 g_67) mg))) [true, true, true, true, true, true, true] hw69 rfl (fun hC_ => (rn_V (As := [.ref (mr 10)]) (rest := []) E hw69 (t_readSum l D cI cJ _ mr (upd (upd (upd (upd (upd (upd (upd (upd (upd (upd mi 2 x_62) 7 x_63) 8 x_65) 9 x_64) 14 x_56) 15 x_58) 16 x_59) 17 x_57) 18 x_60) 19 x_61) (va_up (va_up mf 1 g_66) 6 g_67) mg ad av tf h0 hi_67_0 hi_67_1 h3 ⟨hi_67_2, hi_67_3⟩ ⟨hi_67_4, hi_67_5⟩) (gdV q_865 q_867 q_4 q_157 q_868) hdV_X2_readSum ⟨rfl, rfl⟩ ⟨(Nat.le_of_ble_eq_true rfl), (Nat.le_of_ble_eq_true rfl)⟩ ⟨(Nat.le_of_ble_eq_true rfl), (Nat.le_of_ble_eq_true rfl)⟩ xT8_b (xT8_at hX hw69.2.2.1 (va_free hw69.2.1 hw69.2.2.1 hw69.2.2.2 _ hC_)) 0 2 rfl rfl rfl _ hC_ (nd_T _ 0) rfl hl70.1 rfl (Nat.le_of_ble_eq_true rfl) dX2_readCondition_60)) rfl (fun _ => rfl) (fun _ => rfl) (fun u_97 H1 locs hp hw99 => ?_)
              obtain ⟨ntat_100, ntplace_101, ntkind_102, ntvalue_103, ntfault_104, ntfaultPlace_105, gcode_106, nsize_107⟩ := u_97
              generalize H1 = H at hw99 ⊢
              have hw108 : WD D A s.heap (WZ_LawT cI cJ ad mr (upd (upd (upd (upd (upd (upd (upd (upd (upd (upd mi 2 nsize_107) 7 x_63) 8 x_65) 9 x_64) 14 ntat_100) 15 ntkind_102) 16 ntvalue_103) 17 ntplace_101) 18 ntfault_104) 19 ntfaultPlace_105) (va_up (va_up mf 1 gcode_106) 6 g_67) mg) H locs := hw99
              obtain ⟨hp_109, hp_110, hp_111, hp_112, hp_113, hp_114⟩ := hp
              have hp_109 : 0 ≤ ntat_100.toInt := hp_109
              have hp_110 : ntat_100.toInt ≤ (mi 12).toInt := hp_110
              have hp_111 : 0 ≤ ntfault_104.toInt := hp_111
              have hp_112 : ntfault_104.toInt ≤ 4 := hp_112
              have hp_113 : 0 ≤ nsize_107.toInt := hp_113
              have hp_114 : nsize_107.toInt ≤ 400 := hp_114
              refine lv_aload_n (pc := 63) E.1 E.2.1 dX2_readCondition_63 rfl (lv_at hl70 2 rfl) ?_
              refine ck_i (pc := 64) (ws' := (fun (u : Int32 × Int32 × Int32 × Int32 × Int32 × Int32) => (WZ_LawT cI cJ ad mr (upd (upd (upd (upd (upd (upd (upd (upd (upd (upd mi 2 nsize_107) 7 x_63) 8 x_65) 9 x_64) 14 u.1) 15 u.2.2.1) 16 u.2.2.2.1) 17 u.2.1) 18 u.2.2.2.2.1) 19 u.2.2.2.2.2) (va_up (va_up mf 1 gcode_106) 6 g_67) mg))) [false, false, false, false, false, true, true] hw108 rfl (fun hC_ => (rn_V (As := []) (rest := []) E hw108 (t_passComparison l D cI cJ _ (shf 10 mr) (shf 10 (upd (upd (upd (upd (upd (upd (upd (upd (upd (upd mi 2 nsize_107) 7 x_63) 8 x_65) 9 x_64) 14 ntat_100) 15 ntkind_102) 16 ntvalue_103) 17 ntplace_101) 18 ntfault_104) 19 ntfaultPlace_105)) (shf 10 (va_up (va_up mf 1 gcode_106) 6 g_67)) (shf 10 mg) ad av tf h0 hp_109 hp_110 h3 ⟨hp_111, hp_112⟩) (gdV q_894 q_895 q_896 q_160 q_897) hdV_X8_passComparison ⟨rfl, rfl⟩ ⟨(Nat.le_of_ble_eq_true rfl), (Nat.le_of_ble_eq_true rfl)⟩ ⟨(Nat.le_of_ble_eq_true rfl), (Nat.le_of_ble_eq_true rfl)⟩ xT8_b (xT8_at hX hw108.2.2.1 (va_free hw108.2.1 hw108.2.2.1 hw108.2.2.2 _ hC_)) 5 8 rfl rfl rfl _ hC_ (nd_T _ 0) rfl hl70.1 rfl (Nat.le_of_ble_eq_true rfl) dX2_readCondition_64)) rfl (fun _ => rfl) (fun _ => rfl) (fun r_116 u_115 H1 locs hp hw117 => ?_)
              obtain ⟨nat_118, nplace_119, nkind_120, nvalue_121, nfault_122, nfaultPlace_123⟩ := u_115
              generalize H1 = H at hw117 ⊢
              have hw124 : WD D A s.heap (WZ_LawT cI cJ ad mr (upd (upd (upd (upd (upd (upd (upd (upd (upd (upd mi 2 nsize_107) 7 x_63) 8 x_65) 9 x_64) 14 nat_118) 15 nkind_120) 16 nvalue_121) 17 nplace_119) 18 nfault_122) 19 nfaultPlace_123) (va_up (va_up mf 1 gcode_106) 6 g_67) mg) H locs := hw117
              obtain ⟨hp_125, hp_126, hp_127, hp_128⟩ := hp
              have hp_125 : 0 ≤ nat_118.toInt := hp_125
              have hp_126 : nat_118.toInt ≤ (mi 12).toInt := hp_126
              have hp_127 : 0 ≤ nfault_122.toInt := hp_127
              have hp_128 : nfault_122.toInt ≤ 4 := hp_128
              refine lv_istore_n (pc := 67) (lv' := [(3, .int r_116), (2, .int x_55), (0, .ref (mr 0)), (1, .ref (mr 10))]) E.1 E.2.1 dX2_readCondition_67 rfl hl70 (by decide) rfl (fun ls hl129 => ?_)
              refine lv_aload_n (pc := 68) E.1 E.2.1 dX2_readCondition_68 rfl (lv_at hl129 2 rfl) ?_
              refine lv_aload_n (pc := 69) E.1 E.2.1 dX2_readCondition_69 rfl (lv_at hl129 3 rfl) ?_
              refine ck_v (pc := 70) (ws' := (fun (u : Int32 × Int32 × Int32 × Int32 × Int32 × Int32 × (Nat → Int32) × Int32) => (WZ_LawT cI cJ ad mr (upd (upd (upd (upd (upd (upd (upd (upd (upd (upd mi 2 u.2.2.2.2.2.2.2) 7 x_63) 8 x_65) 9 x_64) 14 u.1) 15 u.2.2.1) 16 u.2.2.2.1) 17 u.2.1) 18 u.2.2.2.2.1) 19 u.2.2.2.2.2.1) (va_up (va_up mf 1 u.2.2.2.2.2.2.1) 6 g_67) mg))) [true, true, true, true, true, true, true] hw124 rfl (fun hC_ => (rn_V (As := [.ref (mr 10)]) (rest := []) E hw124 (t_readSum l D cI cJ _ mr (upd (upd (upd (upd (upd (upd (upd (upd (upd (upd mi 2 nsize_107) 7 x_63) 8 x_65) 9 x_64) 14 nat_118) 15 nkind_120) 16 nvalue_121) 17 nplace_119) 18 nfault_122) 19 nfaultPlace_123) (va_up (va_up mf 1 gcode_106) 6 g_67) mg ad av tf h0 hp_125 hp_126 h3 ⟨hp_127, hp_128⟩ ⟨hp_113, hp_114⟩) (gdV q_865 q_867 q_4 q_157 q_868) hdV_X2_readSum ⟨rfl, rfl⟩ ⟨(Nat.le_of_ble_eq_true rfl), (Nat.le_of_ble_eq_true rfl)⟩ ⟨(Nat.le_of_ble_eq_true rfl), (Nat.le_of_ble_eq_true rfl)⟩ xT8_b (xT8_at hX hw124.2.2.1 (va_free hw124.2.1 hw124.2.2.1 hw124.2.2.2 _ hC_)) 0 2 rfl rfl rfl _ hC_ (nd_T _ 0) rfl hl129.1 rfl (Nat.le_of_ble_eq_true rfl) dX2_readCondition_70)) rfl (fun _ => rfl) (fun _ => rfl) (fun u_130 H1 locs hp hw132 => ?_)
              obtain ⟨ntat_133, ntplace_134, ntkind_135, ntvalue_136, ntfault_137, ntfaultPlace_138, gcode_139, nsize_140⟩ := u_130
              generalize H1 = H at hw132 ⊢
              have hw141 : WD D A s.heap (WZ_LawT cI cJ ad mr (upd (upd (upd (upd (upd (upd (upd (upd (upd (upd mi 2 nsize_140) 7 x_63) 8 x_65) 9 x_64) 14 ntat_133) 15 ntkind_135) 16 ntvalue_136) 17 ntplace_134) 18 ntfault_137) 19 ntfaultPlace_138) (va_up (va_up mf 1 gcode_139) 6 g_67) mg) H locs := hw132
              obtain ⟨hp_142, hp_143, hp_144, hp_145, hp_146, hp_147⟩ := hp
              have hp_142 : 0 ≤ ntat_133.toInt := hp_142
              have hp_143 : ntat_133.toInt ≤ (mi 12).toInt := hp_143
              have hp_144 : 0 ≤ ntfault_137.toInt := hp_144
              have hp_145 : ntfault_137.toInt ≤ 4 := hp_145
              have hp_146 : 0 ≤ nsize_140.toInt := hp_146
              have hp_147 : nsize_140.toInt ≤ 400 := hp_147
              refine lv_aload_n (pc := 73) E.1 E.2.1 dX2_readCondition_73 rfl (lv_at hl129 2 rfl) ?_
              refine lv_iload_n (pc := 74) E.1 E.2.1 dX2_readCondition_74 rfl (lv_at hl129 0 rfl) ?_
              refine ck_v (pc := 75) (ws' := (fun (u : (Nat → Int32) × Int32) => (WZ_LawT cI cJ ad mr (upd (upd (upd (upd (upd (upd (upd (upd (upd (upd mi 2 u.2) 7 x_63) 8 x_65) 9 x_64) 14 ntat_133) 15 ntkind_135) 16 ntvalue_136) 17 ntplace_134) 18 ntfault_137) 19 ntfaultPlace_138) (va_up (va_up mf 1 u.1) 6 g_67) mg))) [true, true, true, true, true, false, false] hw141 rfl (fun hC_ => (rn_V (As := [.int r_116]) (rest := []) E hw141 (t_emit l D cI cJ _ mr (upd (upd (upd (upd (upd (upd (upd (upd (upd (upd mi 2 nsize_140) 7 x_63) 8 x_65) 9 x_64) 14 ntat_133) 15 ntkind_135) 16 ntvalue_136) 17 ntplace_134) 18 ntfault_137) 19 ntfaultPlace_138) (va_up (va_up mf 1 gcode_139) 6 g_67) mg r_116 ⟨hp_146, hp_147⟩) (gdV q_873 q_875 q_6 q_157 q_876) hdV_X2_emit ⟨rfl, rfl⟩ ⟨(Nat.le_of_ble_eq_true rfl), (Nat.le_of_ble_eq_true rfl)⟩ ⟨(Nat.le_of_ble_eq_true rfl), (Nat.le_of_ble_eq_true rfl)⟩ xT_b xT_at 0 2 rfl rfl rfl _ hC_ (nd_T _ 0) rfl hl129.1 rfl (Nat.le_of_ble_eq_true rfl) dX2_readCondition_75)) rfl (fun _ => rfl) (fun _ => rfl) (fun u_148 H1 locs hp hw150 => ?_)
              obtain ⟨gcode_151, nsize_152⟩ := u_148
              generalize H1 = H at hw150 ⊢
              have hw153 : WD D A s.heap (WZ_LawT cI cJ ad mr (upd (upd (upd (upd (upd (upd (upd (upd (upd (upd mi 2 nsize_152) 7 x_63) 8 x_65) 9 x_64) 14 ntat_133) 15 ntkind_135) 16 ntvalue_136) 17 ntplace_134) 18 ntfault_137) 19 ntfaultPlace_138) (va_up (va_up mf 1 gcode_151) 6 g_67) mg) H locs := hw150
              obtain ⟨hp_154, hp_155⟩ := hp
              have hp_154 : 0 ≤ nsize_152.toInt := hp_154
              have hp_155 : nsize_152.toInt ≤ 400 := hp_155
              refine lv_aload_n (pc := 78) E.1 E.2.1 dX2_readCondition_78 rfl (lv_at hl129 2 rfl) ?_
              refine lv_aload_n (pc := 79) E.1 E.2.1 dX2_readCondition_79 rfl (lv_at hl129 3 rfl) ?_
              refine ck_v (pc := 80) (ws' := (fun (u : Int32 × Int32 × Int32 × Int32 × Int32 × Int32 × (Nat → Int32) × Int32 × Int32 × Int32 × Int32) => (WZ_LawT cI cJ ad mr (upd (upd (upd (upd (upd (upd (upd (upd (upd (upd mi 2 u.2.2.2.2.2.2.2.1) 7 u.2.2.2.2.2.2.2.2.1) 8 u.2.2.2.2.2.2.2.2.2.2) 9 u.2.2.2.2.2.2.2.2.2.1) 14 u.1) 15 u.2.2.1) 16 u.2.2.2.1) 17 u.2.1) 18 u.2.2.2.2.1) 19 u.2.2.2.2.2.1) (va_up (va_up mf 1 u.2.2.2.2.2.2.1) 6 g_67) mg))) [true, true, true, true, true, true, true] hw153 rfl (fun hC_ => (rn_V (As := [.ref (mr 10)]) (rest := []) E hw153 (t_endParts l D cI cJ _ mr (upd (upd (upd (upd (upd (upd (upd (upd (upd (upd mi 2 nsize_152) 7 x_63) 8 x_65) 9 x_64) 14 ntat_133) 15 ntkind_135) 16 ntvalue_136) 17 ntplace_134) 18 ntfault_137) 19 ntfaultPlace_138) (va_up (va_up mf 1 gcode_151) 6 g_67) mg ad av tf h0 hp_142 hp_143 h3 ⟨hp_144, hp_145⟩ ⟨hp_154, hp_155⟩ hi_67_6 hi_67_7) (gdV q_898 q_900 q_10 q_157 q_901) hdV_X2_endParts ⟨rfl, rfl⟩ ⟨(Nat.le_of_ble_eq_true rfl), (Nat.le_of_ble_eq_true rfl)⟩ ⟨(Nat.le_of_ble_eq_true rfl), (Nat.le_of_ble_eq_true rfl)⟩ xT8_b (xT8_at hX hw153.2.2.1 (va_free hw153.2.1 hw153.2.2.1 hw153.2.2.2 _ hC_)) 0 2 rfl rfl rfl _ hC_ (nd_T _ 0) rfl hl129.1 rfl (Nat.le_of_ble_eq_true rfl) dX2_readCondition_80)) rfl (fun _ => rfl) (fun _ => rfl) (fun u_156 H1 locs hp hw158 => ?_)
              obtain ⟨ntat_159, ntplace_160, ntkind_161, ntvalue_162, ntfault_163, ntfaultPlace_164, gcode_165, nsize_166, nholding_167, nopen_168, nbrackets_169⟩ := u_156
              generalize H1 = H at hw158 ⊢
              have hw170 : WD D A s.heap (WZ_LawT cI cJ ad mr (upd (upd (upd (upd (upd (upd (upd (upd (upd (upd mi 2 nsize_166) 7 nholding_167) 8 nbrackets_169) 9 nopen_168) 14 ntat_159) 15 ntkind_161) 16 ntvalue_162) 17 ntplace_160) 18 ntfault_163) 19 ntfaultPlace_164) (va_up (va_up mf 1 gcode_165) 6 g_67) mg) H locs := hw158
              obtain ⟨hp_171, hp_172, hp_173, hp_174, hp_175, hp_176, hp_177, hp_178⟩ := hp
              have hp_171 : 0 ≤ ntat_159.toInt := hp_171
              have hp_172 : ntat_159.toInt ≤ (mi 12).toInt := hp_172
              have hp_173 : 0 ≤ ntfault_163.toInt := hp_173
              have hp_174 : ntfault_163.toInt ≤ 4 := hp_174
              have hp_175 : 0 ≤ nsize_166.toInt := hp_175
              have hp_176 : nsize_166.toInt ≤ 400 := hp_176
              have hp_177 : 0 ≤ nholding_167.toInt := hp_177
              have hp_178 : nholding_167.toInt ≤ 64 := hp_178
              refine lv_aload_n (pc := 83) E.1 E.2.1 dX2_readCondition_83 rfl (lv_at hl129 3 rfl) ?_
              refine x_get (pc := 84) (T := TX8) (N := 9) (ci := 8) (v := .int ntkind_161) E hw170 inX8 5 4 q_545 rfl rfl (by decide) rfl rfl dX2_readCondition_84 ?_
              refine lv_sipush (pc := 87) (v := 259) E.1 E.2.1 dX2_readCondition_87 (by decide +kernel) ?_
              refine lv_icmp_eq (pc := 90) (tgt := 106) E.1 E.2.1 dX2_readCondition_90 (by decide) (fun c_179 => ?_) (fun c_179 => ?_)
              · skip
                have hc_179 := eqE (a := ntkind_161.toInt) (b := 259) rfl (by decide +kernel) c_179
                refine lv_aload_n (pc := 106) E.1 E.2.1 dX2_readCondition_106 rfl (lv_at hl129 2 rfl) ?_
                refine lv_aload_n (pc := 107) E.1 E.2.1 dX2_readCondition_107 rfl (lv_at hl129 3 rfl) ?_
                refine x_get (pc := 108) (T := TX8) (N := 9) (ci := 8) (v := .int ntkind_161) E hw170 inX8 5 4 q_545 rfl rfl (by decide) rfl rfl dX2_readCondition_108 ?_
                refine ck_v (pc := 111) (ws' := (fun (u : (Nat → Int32) × Int32 × Int32) => (WZ_LawT cI cJ ad mr (upd (upd (upd (upd (upd (upd (upd (upd (upd (upd mi 2 u.2.1) 7 u.2.2) 8 nbrackets_169) 9 nopen_168) 14 ntat_159) 15 ntkind_161) 16 ntvalue_162) 17 ntplace_160) 18 ntfault_163) 19 ntfaultPlace_164) (va_up (va_up mf 1 u.1) 6 g_67) mg))) [true, true, true, true, true, false, false] hw170 rfl (fun hC_ => (rn_V (As := [.int ntkind_161]) (rest := []) E hw170 (t_fold l D cI cJ _ mr (upd (upd (upd (upd (upd (upd (upd (upd (upd (upd mi 2 nsize_166) 7 nholding_167) 8 nbrackets_169) 9 nopen_168) 14 ntat_159) 15 ntkind_161) 16 ntvalue_162) 17 ntplace_160) 18 ntfault_163) 19 ntfaultPlace_164) (va_up (va_up mf 1 gcode_165) 6 g_67) mg ntkind_161 ⟨hp_175, hp_176⟩ ⟨hp_177, hp_178⟩) (gdV q_906 q_908 q_12 q_157 q_909) hdV_X2_fold ⟨rfl, rfl⟩ ⟨(Nat.le_of_ble_eq_true rfl), (Nat.le_of_ble_eq_true rfl)⟩ ⟨(Nat.le_of_ble_eq_true rfl), (Nat.le_of_ble_eq_true rfl)⟩ xT_b xT_at 0 2 rfl rfl rfl _ hC_ (nd_T _ 0) rfl hl129.1 rfl (Nat.le_of_ble_eq_true rfl) dX2_readCondition_111)) rfl (fun _ => rfl) (fun _ => rfl) (fun u_180 H1 locs hp hw182 => ?_)
                obtain ⟨gcode_183, nsize_184, nholding_185⟩ := u_180
                generalize H1 = H at hw182 ⊢
                have hw186 : WD D A s.heap (WZ_LawT cI cJ ad mr (upd (upd (upd (upd (upd (upd (upd (upd (upd (upd mi 2 nsize_184) 7 nholding_185) 8 nbrackets_169) 9 nopen_168) 14 ntat_159) 15 ntkind_161) 16 ntvalue_162) 17 ntplace_160) 18 ntfault_163) 19 ntfaultPlace_164) (va_up (va_up mf 1 gcode_183) 6 g_67) mg) H locs := hw182
                obtain ⟨hp_187, hp_188, hp_189, hp_190⟩ := hp
                have hp_187 : 0 ≤ nsize_184.toInt := hp_187
                have hp_188 : nsize_184.toInt ≤ 400 := hp_188
                have hp_189 : 0 ≤ nholding_185.toInt := hp_189
                have hp_190 : nholding_185.toInt ≤ 64 := hp_190
                refine lv_aload_n (pc := 114) E.1 E.2.1 dX2_readCondition_114 rfl (lv_at hl129 2 rfl) ?_
                refine lv_aload_n (pc := 115) E.1 E.2.1 dX2_readCondition_115 rfl (lv_at hl129 3 rfl) ?_
                refine x_get (pc := 116) (T := TX8) (N := 9) (ci := 8) (v := .int ntkind_161) E hw186 inX8 5 4 q_545 rfl rfl (by decide) rfl rfl dX2_readCondition_116 ?_
                refine ck_v (pc := 119) (ws' := (fun (u : (Nat → Int32) × Int32) => (WZ_LawT cI cJ ad mr (upd (upd (upd (upd (upd (upd (upd (upd (upd (upd mi 2 nsize_184) 7 u.2) 8 nbrackets_169) 9 nopen_168) 14 ntat_159) 15 ntkind_161) 16 ntvalue_162) 17 ntplace_160) 18 ntfault_163) 19 ntfaultPlace_164) (va_up (va_up mf 1 gcode_183) 6 u.1) mg))) [true, true, true, true, true, false, false] hw186 rfl (fun hC_ => (rn_V (As := [.int ntkind_161]) (rest := []) E hw186 (t_hold l D cI cJ _ mr (upd (upd (upd (upd (upd (upd (upd (upd (upd (upd mi 2 nsize_184) 7 nholding_185) 8 nbrackets_169) 9 nopen_168) 14 ntat_159) 15 ntkind_161) 16 ntvalue_162) 17 ntplace_160) 18 ntfault_163) 19 ntfaultPlace_164) (va_up (va_up mf 1 gcode_183) 6 g_67) mg ntkind_161 ⟨hp_189, hp_190⟩) (gdV q_890 q_892 q_9 q_157 q_893) hdV_X2_hold ⟨rfl, rfl⟩ ⟨(Nat.le_of_ble_eq_true rfl), (Nat.le_of_ble_eq_true rfl)⟩ ⟨(Nat.le_of_ble_eq_true rfl), (Nat.le_of_ble_eq_true rfl)⟩ xT_b xT_at 0 2 rfl rfl rfl _ hC_ (nd_T _ 0) rfl hl129.1 rfl (Nat.le_of_ble_eq_true rfl) dX2_readCondition_119)) rfl (fun _ => rfl) (fun _ => rfl) (fun u_191 H1 locs hp hw193 => ?_)
                obtain ⟨gheld_194, nholding_195⟩ := u_191
                generalize H1 = H at hw193 ⊢
                have hw196 : WD D A s.heap (WZ_LawT cI cJ ad mr (upd (upd (upd (upd (upd (upd (upd (upd (upd (upd mi 2 nsize_184) 7 nholding_195) 8 nbrackets_169) 9 nopen_168) 14 ntat_159) 15 ntkind_161) 16 ntvalue_162) 17 ntplace_160) 18 ntfault_163) 19 ntfaultPlace_164) (va_up (va_up mf 1 gcode_183) 6 gheld_194) mg) H locs := hw193
                obtain ⟨hp_197, hp_198⟩ := hp
                have hp_197 : 0 ≤ nholding_195.toInt := hp_197
                have hp_198 : nholding_195.toInt ≤ 64 := hp_198
                refine lv_aload_n (pc := 122) E.1 E.2.1 dX2_readCondition_122 rfl (lv_at hl129 3 rfl) ?_
                refine ck_v (pc := 123) (ws' := (fun (u : Int32 × Int32 × Int32 × Int32) => (WZ_LawT cI cJ ad mr (upd (upd (upd (upd (upd (upd (upd (upd (upd (upd mi 2 nsize_184) 7 nholding_195) 8 nbrackets_169) 9 nopen_168) 14 u.1) 15 u.2.2.1) 16 u.2.2.2) 17 u.2.1) 18 ntfault_163) 19 ntfaultPlace_164) (va_up (va_up mf 1 gcode_183) 6 gheld_194) mg))) [false, false, false, false, false, true, true] hw196 rfl (fun hC_ => (rn_V (As := []) (rest := []) E hw196 (t_step l D cI cJ _ (shf 10 mr) (shf 10 (upd (upd (upd (upd (upd (upd (upd (upd (upd (upd mi 2 nsize_184) 7 nholding_195) 8 nbrackets_169) 9 nopen_168) 14 ntat_159) 15 ntkind_161) 16 ntvalue_162) 17 ntplace_160) 18 ntfault_163) 19 ntfaultPlace_164)) (shf 10 (va_up (va_up mf 1 gcode_183) 6 gheld_194)) (shf 10 mg) ad av tf h0 hp_171 hp_172 h3) (gdV q_877 q_723 q_724 q_160 q_725) hdV_X8_step ⟨rfl, rfl⟩ ⟨(Nat.le_of_ble_eq_true rfl), (Nat.le_of_ble_eq_true rfl)⟩ ⟨(Nat.le_of_ble_eq_true rfl), (Nat.le_of_ble_eq_true rfl)⟩ xT8_b (xT8_at hX hw196.2.2.1 (va_free hw196.2.1 hw196.2.2.1 hw196.2.2.2 _ hC_)) 5 8 rfl rfl rfl _ hC_ (nd_T _ 0) rfl hl129.1 rfl (Nat.le_of_ble_eq_true rfl) dX2_readCondition_123)) rfl (fun _ => rfl) (fun _ => rfl) (fun u_199 H1 locs hp hw201 => ?_)
                obtain ⟨nat_202, nplace_203, nkind_204, nvalue_205⟩ := u_199
                generalize H1 = H at hw201 ⊢
                have hw206 : WD D A s.heap (WZ_LawT cI cJ ad mr (upd (upd (upd (upd (upd (upd (upd (upd (upd (upd mi 2 nsize_184) 7 nholding_195) 8 nbrackets_169) 9 nopen_168) 14 nat_202) 15 nkind_204) 16 nvalue_205) 17 nplace_203) 18 ntfault_163) 19 ntfaultPlace_164) (va_up (va_up mf 1 gcode_183) 6 gheld_194) mg) H locs := hw201
                obtain ⟨hp_207, hp_208⟩ := hp
                have hp_207 : 0 ≤ nat_202.toInt := hp_207
                have hp_208 : nat_202.toInt ≤ (mi 12).toInt := hp_208
                obtain ⟨v_209, ev_209⟩ : ∃ z : Int32, x_55 + Int32.ofInt (1) = z := ⟨_, rfl⟩
                have hv_209 : v_209.toInt = x_55.toInt + (1) := by rw [← ev_209]; exact incE rfl (by decide) (by omega)
                refine lv_iinc (pc := 126) (v := v_209) (lv' := [(2, .int v_209), (3, .int r_116), (0, .ref (mr 0)), (1, .ref (mr 10))]) E.1 E.2.1 dX2_readCondition_126 hl129 (k := 1) rfl ev_209 (by decide) rfl (fun ls hl210 => ?_)
                refine lv_goto (pc := 129) (tgt := 17) E.1 E.2.1 dX2_readCondition_129 (by decide) ?_
                exact ih_68 v_209 nat_202 nplace_203 nkind_204 nvalue_205 ntfault_163 ntfaultPlace_164 nsize_184 nholding_195 nopen_168 nbrackets_169 gcode_183 gheld_194 _ _ _ ⟨hp_207, hp_208, hp_173, hp_174, hp_187, hp_188, hp_197, hp_198, (by show 0 ≤ v_209.toInt; omega), (by show v_209.toInt ≤ 401; omega)⟩ (by omega) hw206 (lv_sub hl210 [0, 2, 3] rfl)
              · skip
                have hc_179 := neE (a := ntkind_161.toInt) (b := 259) rfl (by decide +kernel) c_179
                refine lv_aload_n (pc := 93) E.1 E.2.1 dX2_readCondition_93 rfl (lv_at hl129 3 rfl) ?_
                refine x_get (pc := 94) (T := TX8) (N := 9) (ci := 8) (v := .int ntkind_161) E hw170 inX8 5 4 q_545 rfl rfl (by decide) rfl rfl dX2_readCondition_94 ?_
                refine lv_sipush (pc := 97) (v := 258) E.1 E.2.1 dX2_readCondition_97 (by decide +kernel) ?_
                refine lv_icmp_eq (pc := 100) (tgt := 106) E.1 E.2.1 dX2_readCondition_100 (by decide) (fun c_211 => ?_) (fun c_211 => ?_)
                · skip
                  have hc_211 := eqE (a := ntkind_161.toInt) (b := 258) rfl (by decide +kernel) c_211
                  refine lv_aload_n (pc := 106) E.1 E.2.1 dX2_readCondition_106 rfl (lv_at hl129 2 rfl) ?_
                  refine lv_aload_n (pc := 107) E.1 E.2.1 dX2_readCondition_107 rfl (lv_at hl129 3 rfl) ?_
                  refine x_get (pc := 108) (T := TX8) (N := 9) (ci := 8) (v := .int ntkind_161) E hw170 inX8 5 4 q_545 rfl rfl (by decide) rfl rfl dX2_readCondition_108 ?_
                  refine ck_v (pc := 111) (ws' := (fun (u : (Nat → Int32) × Int32 × Int32) => (WZ_LawT cI cJ ad mr (upd (upd (upd (upd (upd (upd (upd (upd (upd (upd mi 2 u.2.1) 7 u.2.2) 8 nbrackets_169) 9 nopen_168) 14 ntat_159) 15 ntkind_161) 16 ntvalue_162) 17 ntplace_160) 18 ntfault_163) 19 ntfaultPlace_164) (va_up (va_up mf 1 u.1) 6 g_67) mg))) [true, true, true, true, true, false, false] hw170 rfl (fun hC_ => (rn_V (As := [.int ntkind_161]) (rest := []) E hw170 (t_fold l D cI cJ _ mr (upd (upd (upd (upd (upd (upd (upd (upd (upd (upd mi 2 nsize_166) 7 nholding_167) 8 nbrackets_169) 9 nopen_168) 14 ntat_159) 15 ntkind_161) 16 ntvalue_162) 17 ntplace_160) 18 ntfault_163) 19 ntfaultPlace_164) (va_up (va_up mf 1 gcode_165) 6 g_67) mg ntkind_161 ⟨hp_175, hp_176⟩ ⟨hp_177, hp_178⟩) (gdV q_906 q_908 q_12 q_157 q_909) hdV_X2_fold ⟨rfl, rfl⟩ ⟨(Nat.le_of_ble_eq_true rfl), (Nat.le_of_ble_eq_true rfl)⟩ ⟨(Nat.le_of_ble_eq_true rfl), (Nat.le_of_ble_eq_true rfl)⟩ xT_b xT_at 0 2 rfl rfl rfl _ hC_ (nd_T _ 0) rfl hl129.1 rfl (Nat.le_of_ble_eq_true rfl) dX2_readCondition_111)) rfl (fun _ => rfl) (fun _ => rfl) (fun u_212 H1 locs hp hw214 => ?_)
                  obtain ⟨gcode_215, nsize_216, nholding_217⟩ := u_212
                  generalize H1 = H at hw214 ⊢
                  have hw218 : WD D A s.heap (WZ_LawT cI cJ ad mr (upd (upd (upd (upd (upd (upd (upd (upd (upd (upd mi 2 nsize_216) 7 nholding_217) 8 nbrackets_169) 9 nopen_168) 14 ntat_159) 15 ntkind_161) 16 ntvalue_162) 17 ntplace_160) 18 ntfault_163) 19 ntfaultPlace_164) (va_up (va_up mf 1 gcode_215) 6 g_67) mg) H locs := hw214
                  obtain ⟨hp_219, hp_220, hp_221, hp_222⟩ := hp
                  have hp_219 : 0 ≤ nsize_216.toInt := hp_219
                  have hp_220 : nsize_216.toInt ≤ 400 := hp_220
                  have hp_221 : 0 ≤ nholding_217.toInt := hp_221
                  have hp_222 : nholding_217.toInt ≤ 64 := hp_222
                  refine lv_aload_n (pc := 114) E.1 E.2.1 dX2_readCondition_114 rfl (lv_at hl129 2 rfl) ?_
                  refine lv_aload_n (pc := 115) E.1 E.2.1 dX2_readCondition_115 rfl (lv_at hl129 3 rfl) ?_
                  refine x_get (pc := 116) (T := TX8) (N := 9) (ci := 8) (v := .int ntkind_161) E hw218 inX8 5 4 q_545 rfl rfl (by decide) rfl rfl dX2_readCondition_116 ?_
                  refine ck_v (pc := 119) (ws' := (fun (u : (Nat → Int32) × Int32) => (WZ_LawT cI cJ ad mr (upd (upd (upd (upd (upd (upd (upd (upd (upd (upd mi 2 nsize_216) 7 u.2) 8 nbrackets_169) 9 nopen_168) 14 ntat_159) 15 ntkind_161) 16 ntvalue_162) 17 ntplace_160) 18 ntfault_163) 19 ntfaultPlace_164) (va_up (va_up mf 1 gcode_215) 6 u.1) mg))) [true, true, true, true, true, false, false] hw218 rfl (fun hC_ => (rn_V (As := [.int ntkind_161]) (rest := []) E hw218 (t_hold l D cI cJ _ mr (upd (upd (upd (upd (upd (upd (upd (upd (upd (upd mi 2 nsize_216) 7 nholding_217) 8 nbrackets_169) 9 nopen_168) 14 ntat_159) 15 ntkind_161) 16 ntvalue_162) 17 ntplace_160) 18 ntfault_163) 19 ntfaultPlace_164) (va_up (va_up mf 1 gcode_215) 6 g_67) mg ntkind_161 ⟨hp_221, hp_222⟩) (gdV q_890 q_892 q_9 q_157 q_893) hdV_X2_hold ⟨rfl, rfl⟩ ⟨(Nat.le_of_ble_eq_true rfl), (Nat.le_of_ble_eq_true rfl)⟩ ⟨(Nat.le_of_ble_eq_true rfl), (Nat.le_of_ble_eq_true rfl)⟩ xT_b xT_at 0 2 rfl rfl rfl _ hC_ (nd_T _ 0) rfl hl129.1 rfl (Nat.le_of_ble_eq_true rfl) dX2_readCondition_119)) rfl (fun _ => rfl) (fun _ => rfl) (fun u_223 H1 locs hp hw225 => ?_)
                  obtain ⟨gheld_226, nholding_227⟩ := u_223
                  generalize H1 = H at hw225 ⊢
                  have hw228 : WD D A s.heap (WZ_LawT cI cJ ad mr (upd (upd (upd (upd (upd (upd (upd (upd (upd (upd mi 2 nsize_216) 7 nholding_227) 8 nbrackets_169) 9 nopen_168) 14 ntat_159) 15 ntkind_161) 16 ntvalue_162) 17 ntplace_160) 18 ntfault_163) 19 ntfaultPlace_164) (va_up (va_up mf 1 gcode_215) 6 gheld_226) mg) H locs := hw225
                  obtain ⟨hp_229, hp_230⟩ := hp
                  have hp_229 : 0 ≤ nholding_227.toInt := hp_229
                  have hp_230 : nholding_227.toInt ≤ 64 := hp_230
                  refine lv_aload_n (pc := 122) E.1 E.2.1 dX2_readCondition_122 rfl (lv_at hl129 3 rfl) ?_
                  refine ck_v (pc := 123) (ws' := (fun (u : Int32 × Int32 × Int32 × Int32) => (WZ_LawT cI cJ ad mr (upd (upd (upd (upd (upd (upd (upd (upd (upd (upd mi 2 nsize_216) 7 nholding_227) 8 nbrackets_169) 9 nopen_168) 14 u.1) 15 u.2.2.1) 16 u.2.2.2) 17 u.2.1) 18 ntfault_163) 19 ntfaultPlace_164) (va_up (va_up mf 1 gcode_215) 6 gheld_226) mg))) [false, false, false, false, false, true, true] hw228 rfl (fun hC_ => (rn_V (As := []) (rest := []) E hw228 (t_step l D cI cJ _ (shf 10 mr) (shf 10 (upd (upd (upd (upd (upd (upd (upd (upd (upd (upd mi 2 nsize_216) 7 nholding_227) 8 nbrackets_169) 9 nopen_168) 14 ntat_159) 15 ntkind_161) 16 ntvalue_162) 17 ntplace_160) 18 ntfault_163) 19 ntfaultPlace_164)) (shf 10 (va_up (va_up mf 1 gcode_215) 6 gheld_226)) (shf 10 mg) ad av tf h0 hp_171 hp_172 h3) (gdV q_877 q_723 q_724 q_160 q_725) hdV_X8_step ⟨rfl, rfl⟩ ⟨(Nat.le_of_ble_eq_true rfl), (Nat.le_of_ble_eq_true rfl)⟩ ⟨(Nat.le_of_ble_eq_true rfl), (Nat.le_of_ble_eq_true rfl)⟩ xT8_b (xT8_at hX hw228.2.2.1 (va_free hw228.2.1 hw228.2.2.1 hw228.2.2.2 _ hC_)) 5 8 rfl rfl rfl _ hC_ (nd_T _ 0) rfl hl129.1 rfl (Nat.le_of_ble_eq_true rfl) dX2_readCondition_123)) rfl (fun _ => rfl) (fun _ => rfl) (fun u_231 H1 locs hp hw233 => ?_)
                  obtain ⟨nat_234, nplace_235, nkind_236, nvalue_237⟩ := u_231
                  generalize H1 = H at hw233 ⊢
                  have hw238 : WD D A s.heap (WZ_LawT cI cJ ad mr (upd (upd (upd (upd (upd (upd (upd (upd (upd (upd mi 2 nsize_216) 7 nholding_227) 8 nbrackets_169) 9 nopen_168) 14 nat_234) 15 nkind_236) 16 nvalue_237) 17 nplace_235) 18 ntfault_163) 19 ntfaultPlace_164) (va_up (va_up mf 1 gcode_215) 6 gheld_226) mg) H locs := hw233
                  obtain ⟨hp_239, hp_240⟩ := hp
                  have hp_239 : 0 ≤ nat_234.toInt := hp_239
                  have hp_240 : nat_234.toInt ≤ (mi 12).toInt := hp_240
                  obtain ⟨v_241, ev_241⟩ : ∃ z : Int32, x_55 + Int32.ofInt (1) = z := ⟨_, rfl⟩
                  have hv_241 : v_241.toInt = x_55.toInt + (1) := by rw [← ev_241]; exact incE rfl (by decide) (by omega)
                  refine lv_iinc (pc := 126) (v := v_241) (lv' := [(2, .int v_241), (3, .int r_116), (0, .ref (mr 0)), (1, .ref (mr 10))]) E.1 E.2.1 dX2_readCondition_126 hl129 (k := 1) rfl ev_241 (by decide) rfl (fun ls hl242 => ?_)
                  refine lv_goto (pc := 129) (tgt := 17) E.1 E.2.1 dX2_readCondition_129 (by decide) ?_
                  exact ih_68 v_241 nat_234 nplace_235 nkind_236 nvalue_237 ntfault_163 ntfaultPlace_164 nsize_216 nholding_227 nopen_168 nbrackets_169 gcode_215 gheld_226 _ _ _ ⟨hp_239, hp_240, hp_173, hp_174, hp_219, hp_220, hp_229, hp_230, (by show 0 ≤ v_241.toInt; omega), (by show v_241.toInt ≤ 401; omega)⟩ (by omega) hw238 (lv_sub hl242 [0, 2, 3] rfl)
                · skip
                  have hc_211 := neE (a := ntkind_161.toInt) (b := 258) rfl (by decide +kernel) c_211
                  refine lv_goto (pc := 103) (tgt := 132) E.1 E.2.1 dX2_readCondition_103 (by decide) ?_
                  exact join_4 ntat_159 ntplace_160 ntkind_161 ntvalue_162 ntfault_163 ntfaultPlace_164 nsize_166 nholding_167 nopen_168 nbrackets_169 gcode_165 g_67 _ _ _ ⟨hp_171, hp_172, hp_173, hp_174, hp_175, hp_176, hp_177, hp_178⟩ hw170 (lv_sub hl129 [2, 3] rfl)
            · skip
              have hc_96 := eqE (a := x_58.toInt) (b := 260) rfl (by decide +kernel) c_96
              refine lv_aload_n (pc := 50) E.1 E.2.1 dX2_readCondition_50 rfl (lv_at hl70 1 rfl) ?_
              refine lv_aload_n (pc := 51) E.1 E.2.1 dX2_readCondition_51 rfl (lv_at hl70 2 rfl) ?_
              refine ck_v (pc := 52) (ws' := (fun (u : Int32 × Int32 × Int32 × Int32 × Int32 × Int32 × Int32 × Int32 × (Nat → Int32) × Int32) => (WZ_LawT cI cJ ad mr (upd (upd (upd (upd (upd (upd (upd (upd (upd (upd mi 2 x_62) 7 u.2.2.2.2.2.2.2.2.2) 8 u.2.2.2.2.2.2.2.1) 9 u.2.2.2.2.2.2.1) 14 u.1) 15 u.2.2.1) 16 u.2.2.2.1) 17 u.2.1) 18 u.2.2.2.2.1) 19 u.2.2.2.2.2.1) (va_up (va_up mf 1 g_66) 6 u.2.2.2.2.2.2.2.2.1) mg))) [true, true, true, true, true, true, true] hw69 rfl (fun hC_ => (rn_V (As := [.ref (mr 10)]) (rest := []) E hw69 (t_openPart l D cI cJ _ mr (upd (upd (upd (upd (upd (upd (upd (upd (upd (upd mi 2 x_62) 7 x_63) 8 x_65) 9 x_64) 14 x_56) 15 x_58) 16 x_59) 17 x_57) 18 x_60) 19 x_61) (va_up (va_up mf 1 g_66) 6 g_67) mg ad av tf h0 hi_67_0 hi_67_1 h3 ⟨hi_67_2, hi_67_3⟩ hi_67_6 hi_67_7) (gdV q_886 q_888 q_8 q_157 q_889) hdV_X2_openPart ⟨rfl, rfl⟩ ⟨(Nat.le_of_ble_eq_true rfl), (Nat.le_of_ble_eq_true rfl)⟩ ⟨(Nat.le_of_ble_eq_true rfl), (Nat.le_of_ble_eq_true rfl)⟩ xT8_b (xT8_at hX hw69.2.2.1 (va_free hw69.2.1 hw69.2.2.1 hw69.2.2.2 _ hC_)) 0 2 rfl rfl rfl _ hC_ (nd_T _ 0) rfl hl70.1 rfl (Nat.le_of_ble_eq_true rfl) dX2_readCondition_52)) rfl (fun _ => rfl) (fun _ => rfl) (fun u_243 H1 locs hp hw245 => ?_)
              obtain ⟨ntat_246, ntplace_247, ntkind_248, ntvalue_249, ntfault_250, ntfaultPlace_251, nopen_252, nbrackets_253, gheld_254, nholding_255⟩ := u_243
              generalize H1 = H at hw245 ⊢
              have hw256 : WD D A s.heap (WZ_LawT cI cJ ad mr (upd (upd (upd (upd (upd (upd (upd (upd (upd (upd mi 2 x_62) 7 nholding_255) 8 nbrackets_253) 9 nopen_252) 14 ntat_246) 15 ntkind_248) 16 ntvalue_249) 17 ntplace_247) 18 ntfault_250) 19 ntfaultPlace_251) (va_up (va_up mf 1 g_66) 6 gheld_254) mg) H locs := hw245
              obtain ⟨hp_257, hp_258, hp_259, hp_260, hp_261, hp_262⟩ := hp
              have hp_257 : 0 ≤ ntat_246.toInt := hp_257
              have hp_258 : ntat_246.toInt ≤ (mi 12).toInt := hp_258
              have hp_259 : 0 ≤ ntfault_250.toInt := hp_259
              have hp_260 : ntfault_250.toInt ≤ 4 := hp_260
              have hp_261 : 0 ≤ nholding_255.toInt := hp_261
              have hp_262 : nholding_255.toInt ≤ 64 := hp_262
              refine lv_goto (pc := 55) (tgt := 126) E.1 E.2.1 dX2_readCondition_55 (by decide) ?_
              obtain ⟨v_263, ev_263⟩ : ∃ z : Int32, x_55 + Int32.ofInt (1) = z := ⟨_, rfl⟩
              have hv_263 : v_263.toInt = x_55.toInt + (1) := by rw [← ev_263]; exact incE rfl (by decide) (by omega)
              refine lv_iinc (pc := 126) (v := v_263) (lv' := [(2, .int v_263), (0, .ref (mr 0)), (1, .ref (mr 10))]) E.1 E.2.1 dX2_readCondition_126 hl70 (k := 0) rfl ev_263 (by decide) rfl (fun ls hl264 => ?_)
              refine lv_goto (pc := 129) (tgt := 17) E.1 E.2.1 dX2_readCondition_129 (by decide) ?_
              exact ih_68 v_263 ntat_246 ntplace_247 ntkind_248 ntvalue_249 ntfault_250 ntfaultPlace_251 x_62 nholding_255 nopen_252 nbrackets_253 g_66 gheld_254 _ _ _ ⟨hp_257, hp_258, hp_259, hp_260, hi_67_4, hi_67_5, hp_261, hp_262, (by show 0 ≤ v_263.toInt; omega), (by show v_263.toInt ≤ 401; omega)⟩ (by omega) hw256 (lv_sub hl264 [0, 1, 2] rfl)
  exact loop_54 (Int.toNat (401 - 0) + 1) 0 (mi 14) (mi 17) (mi 15) (mi 16) (mi 18) (mi 19) (mi 2) 0 0 0 (mf 1) (mf 6) _ _ _ ⟨h1, h2, h4.1, h4.2, h5.1, h5.2, (by show 0 ≤ (0 : Int32).toInt; have k_0 : (0 : Int32).toInt = 0 := (by decide +kernel); omega), (by show (0 : Int32).toInt ≤ 64; have k_0 : (0 : Int32).toInt = 0 := (by decide +kernel); omega), (by show 0 ≤ (0 : Int32).toInt; have k_0 : (0 : Int32).toInt = 0 := (by decide +kernel); omega), (by show (0 : Int32).toInt ≤ 401; have k_0 : (0 : Int32).toInt = 0 := (by decide +kernel); omega)⟩ (by have k_0 : (0 : Int32).toInt = 0 := (by decide +kernel); have k_8 : (0 : Int32).toInt = 0 := (by decide +kernel); have k_9 : (0 : Int32).toInt = 0 := (by decide +kernel); have k_10 : (0 : Int32).toInt = 0 := (by decide +kernel); omega) hw52 (lv_sub hl53 [0, 1, 2] rfl)
set_option maxHeartbeats 4000000 in
set_option maxRecDepth 100000 in
theorem t_lawRead (l : Launch) (D : va_G) (cI cJ : ClassId) (sz : Nat) (mr : Nat → Nat) (mi : Nat → Int32) (mf : Nat → Nat → Int32) (mg : Nat → Nat → Int64)  (ad av : Nat → Nat) (tf : Value) (h0 : 0 ≤ (mi 12).toInt ∧ (mi 12).toInt ≤ 400) (h1 : 0 ≤ (mi 14).toInt) (h2 : (mi 14).toInt ≤ (mi 12).toInt) (h3 : 0 ≤ (mi 13).toInt ∧ (mi 13).toInt ≤ 6) (h4 : 0 ≤ (mi 18).toInt ∧ (mi 18).toInt ≤ 4) (a_marks : m4 (mf 3)) : Met l yX2_read (Cond.code yX2_read cX2_read 3 none :: GW) ({ frames := 10, cells := 0, slots := 0, locals := 241 } : Room) (va_Pc [.ref (mr 0), .ref (mr 10)] (PW D cI cJ sz (WZ_LawT cI cJ ad mr mi mf mg) (xT8 ad av tf (va_A (WZ_LawT cI cJ ad mr mi mf mg) sz)))) (va_Qv (fun (u : Int32 × Int32 × Int32 × Int32 × Int32 × Int32 × (Nat → Int32) × Int32 × Int32 × Int32 × Int32 × (Nat → Int32) × (Nat → Int32) × Int32) => (0 ≤ u.1.toInt) ∧ (u.1.toInt ≤ (mi 12).toInt) ∧ (0 ≤ u.2.2.2.2.1.toInt) ∧ (u.2.2.2.2.1.toInt ≤ 4) ∧ (m4 u.2.2.2.2.2.2.2.2.2.2.2.2.1)) (fun u => QW D cI cJ (va_A (WZ_LawT cI cJ ad mr mi mf mg) sz) ((fun (u : Int32 × Int32 × Int32 × Int32 × Int32 × Int32 × (Nat → Int32) × Int32 × Int32 × Int32 × Int32 × (Nat → Int32) × (Nat → Int32) × Int32) => (WZ_LawT cI cJ ad mr (upd (upd (upd (upd (upd (upd (upd (upd (upd (upd (upd mi 14 u.1) 17 u.2.1) 15 u.2.2.1) 16 u.2.2.2.1) 18 u.2.2.2.2.1) 19 u.2.2.2.2.2.1) 2 u.2.2.2.2.2.2.2.1) 7 u.2.2.2.2.2.2.2.2.1) 9 u.2.2.2.2.2.2.2.2.2.1) 8 u.2.2.2.2.2.2.2.2.2.2.1) 4 u.2.2.2.2.2.2.2.2.2.2.2.2.2) (va_up (va_up (va_up mf 1 u.2.2.2.2.2.2.1) 6 u.2.2.2.2.2.2.2.2.2.2.2.1) 3 u.2.2.2.2.2.2.2.2.2.2.2.2.1) mg)) u)) (va_A (WZ_LawT cI cJ ad mr mi mf mg) sz)) 0 0 (va_A (WZ_LawT cI cJ ad mr mi mf mg) sz) := by
  refine mk_metA (X := fun A => xT8 ad av tf A) (y := yX2_read) (bytes := cX2_read) (maxL := 3) (avs := [.ref (mr 0), .ref (mr 10)]) (WS := (WZ_LawT cI cJ ad mr mi mf mg)) (Qf := fun A => va_Qv (fun (u : Int32 × Int32 × Int32 × Int32 × Int32 × Int32 × (Nat → Int32) × Int32 × Int32 × Int32 × Int32 × (Nat → Int32) × (Nat → Int32) × Int32) => (0 ≤ u.1.toInt) ∧ (u.1.toInt ≤ (mi 12).toInt) ∧ (0 ≤ u.2.2.2.2.1.toInt) ∧ (u.2.2.2.2.1.toInt ≤ 4) ∧ (m4 u.2.2.2.2.2.2.2.2.2.2.2.2.1)) (fun u => QW D cI cJ A ((fun (u : Int32 × Int32 × Int32 × Int32 × Int32 × Int32 × (Nat → Int32) × Int32 × Int32 × Int32 × Int32 × (Nat → Int32) × (Nat → Int32) × Int32) => (WZ_LawT cI cJ ad mr (upd (upd (upd (upd (upd (upd (upd (upd (upd (upd (upd mi 14 u.1) 17 u.2.1) 15 u.2.2.1) 16 u.2.2.2.1) 18 u.2.2.2.2.1) 19 u.2.2.2.2.2.1) 2 u.2.2.2.2.2.2.2.1) 7 u.2.2.2.2.2.2.2.2.1) 9 u.2.2.2.2.2.2.2.2.2.1) 8 u.2.2.2.2.2.2.2.2.2.2.1) 4 u.2.2.2.2.2.2.2.2.2.2.2.2.2) (va_up (va_up (va_up mf 1 u.2.2.2.2.2.2.1) 6 u.2.2.2.2.2.2.2.2.2.2.2.1) 3 u.2.2.2.2.2.2.2.2.2.2.2.2.1) mg)) u)) A) (by decide) (Nat.le_of_ble_eq_true rfl) ?_
  intro p e s m below meth c A ls E hr hlk hnm hX hw1 hl2
  have hl3 : lv_has ls 3 [(0, .ref (mr 0)), (1, .ref (mr 10))] := hl2
  refine lv_aload_n (pc := 0) E.1 E.2.1 dX2_read_0 rfl (lv_at hl3 0 rfl) ?_
  refine lv_iconst (pc := 1) (v := 0) E.1 E.2.1 dX2_read_1 (by decide +kernel) ?_
  refine x_put (pc := 2) (T := TX2) (N := 9) (ci := 2) (ws' := (WZ_LawT cI cJ ad mr (upd mi 2 0) mf mg)) E hw1 inX2 tyX2_ok nmX2 0 1 q_385 rfl rfl (by decide) rfl rfl rfl rfl (Nat.le_of_ble_eq_true rfl) rfl dX2_read_2 (fun H locs hw4 => ?_)
  refine lv_aload_n (pc := 5) E.1 E.2.1 dX2_read_5 rfl (lv_at hl3 0 rfl) ?_
  refine lv_iconst (pc := 6) (v := 0) E.1 E.2.1 dX2_read_6 (by decide +kernel) ?_
  refine x_put (pc := 7) (T := TX2) (N := 9) (ci := 2) (ws' := (WZ_LawT cI cJ ad mr (upd (upd mi 2 0) 4 0) mf mg)) E hw4 inX2 tyX2_ok nmX2 0 3 q_387 rfl rfl (by decide) rfl rfl rfl rfl (Nat.le_of_ble_eq_true rfl) rfl dX2_read_7 (fun H locs hw5 => ?_)
  refine lv_iconst (pc := 10) (v := 0) E.1 E.2.1 dX2_read_10 (by decide +kernel) ?_
  refine lv_istore_n (pc := 11) (lv' := [(2, .int 0), (0, .ref (mr 0)), (1, .ref (mr 10))]) E.1 E.2.1 dX2_read_11 rfl hl3 (by decide) rfl (fun ls hl6 => ?_)
  have loop_7 : ∀ (k : Nat) (x_8 : Int32) (x_9 : Int32) (x_10 : Int32) (x_11 : Int32) (x_12 : Int32) (x_13 : Int32) (x_14 : Int32) (x_15 : Int32) (x_16 : Int32) (x_17 : Int32) (x_18 : Int32) (x_19 : Int32) (g_20 : Nat → Int32) (g_21 : Nat → Int32) (g_22 : Nat → Int32) (H : Heap) (locs : List Loc) (ls : Array Slot), (0 ≤ x_9.toInt) ∧ (x_9.toInt ≤ (mi 12).toInt) ∧ (0 ≤ x_13.toInt) ∧ (x_13.toInt ≤ 4) ∧ (0 ≤ x_15.toInt) ∧ (x_15.toInt ≤ 400) ∧ (0 ≤ x_8.toInt) ∧ (x_8.toInt ≤ 401) ∧ (0 ≤ x_19.toInt) ∧ (x_19.toInt ≤ 16) ∧ m4 g_22 → 401 - x_8.toInt < (k : Int) → WD D A s.heap (WZ_LawT cI cJ ad mr (upd (upd (upd (upd (upd (upd (upd (upd (upd (upd (upd mi 2 x_15) 4 x_19) 7 x_16) 8 x_18) 9 x_17) 14 x_9) 15 x_11) 16 x_12) 17 x_10) 18 x_13) 19 x_14) (va_up (va_up (va_up mf 1 g_20) 3 g_22) 6 g_21) mg) H locs → lv_has ls 3 [(2, .int x_8), (0, .ref (mr 0)), (1, .ref (mr 10))] → W p l e ({ frames := 10, cells := 0, slots := 0, locals := 241 } : Room) s m ([.ref (mr 0), .ref (mr 10)] : List Value).toArray below meth c H locs 0 0 (MQ below (va_Qv (fun (u : Int32 × Int32 × Int32 × Int32 × Int32 × Int32 × (Nat → Int32) × Int32 × Int32 × Int32 × Int32 × (Nat → Int32) × (Nat → Int32) × Int32) => (0 ≤ u.1.toInt) ∧ (u.1.toInt ≤ (mi 12).toInt) ∧ (0 ≤ u.2.2.2.2.1.toInt) ∧ (u.2.2.2.2.1.toInt ≤ 4) ∧ (m4 u.2.2.2.2.2.2.2.2.2.2.2.2.1)) (fun u => QW D cI cJ A ((fun (u : Int32 × Int32 × Int32 × Int32 × Int32 × Int32 × (Nat → Int32) × Int32 × Int32 × Int32 × Int32 × (Nat → Int32) × (Nat → Int32) × Int32) => (WZ_LawT cI cJ ad mr (upd (upd (upd (upd (upd (upd (upd (upd (upd (upd (upd mi 14 u.1) 17 u.2.1) 15 u.2.2.1) 16 u.2.2.2.1) 18 u.2.2.2.2.1) 19 u.2.2.2.2.2.1) 2 u.2.2.2.2.2.2.2.1) 7 u.2.2.2.2.2.2.2.2.1) 9 u.2.2.2.2.2.2.2.2.2.1) 8 u.2.2.2.2.2.2.2.2.2.2.1) 4 u.2.2.2.2.2.2.2.2.2.2.2.2.2) (va_up (va_up (va_up mf 1 u.2.2.2.2.2.2.1) 6 u.2.2.2.2.2.2.2.2.2.2.2.1) 3 u.2.2.2.2.2.2.2.2.2.2.2.2.1) mg)) u)) A) ([.ref (mr 0), .ref (mr 10)] : List Value).toArray s 0 0 A) (F0 m 12 ls []) := by
    intro k
    induction k with
    | zero =>
      intro x_8 x_9 x_10 x_11 x_12 x_13 x_14 x_15 x_16 x_17 x_18 x_19 g_20 g_21 g_22 _ _ _ hinv hm
      obtain ⟨hi_22_0, hi_22_1, hi_22_2, hi_22_3, hi_22_4, hi_22_5, hi_22_6, hi_22_7, hi_22_8, hi_22_9, hi_22_10⟩ := hinv
      exact absurd hm (by omega)
    | succ k ih_23 =>
      intro x_8 x_9 x_10 x_11 x_12 x_13 x_14 x_15 x_16 x_17 x_18 x_19 g_20 g_21 g_22 H locs ls hinv hm hw24 hl25
      obtain ⟨hi_22_0, hi_22_1, hi_22_2, hi_22_3, hi_22_4, hi_22_5, hi_22_6, hi_22_7, hi_22_8, hi_22_9, hi_22_10⟩ := hinv
      refine lv_iload_n (pc := 12) E.1 E.2.1 dX2_read_12 rfl (lv_at hl25 0 rfl) ?_
      refine lv_sipush (pc := 13) (v := 400) E.1 E.2.1 dX2_read_13 (by decide +kernel) ?_
      refine lv_icmp_gt (pc := 16) (tgt := 149) E.1 E.2.1 dX2_read_16 (by decide) (fun c_26 => ?_) (fun c_26 => ?_)
      · skip
        have hc_26 := ltE (a := 400) (b := x_8.toInt) (by decide +kernel) rfl c_26
        exact em_v (w1 := (fun (u : Int32 × Int32 × Int32 × Int32 × Int32 × Int32 × (Nat → Int32) × Int32 × Int32 × Int32 × Int32 × (Nat → Int32) × (Nat → Int32) × Int32) => (WZ_LawT cI cJ ad mr (upd (upd (upd (upd (upd (upd (upd (upd (upd (upd (upd mi 14 u.1) 17 u.2.1) 15 u.2.2.1) 16 u.2.2.2.1) 18 u.2.2.2.2.1) 19 u.2.2.2.2.2.1) 2 u.2.2.2.2.2.2.2.1) 7 u.2.2.2.2.2.2.2.2.1) 9 u.2.2.2.2.2.2.2.2.2.1) 8 u.2.2.2.2.2.2.2.2.2.2.1) 4 u.2.2.2.2.2.2.2.2.2.2.2.2.2) (va_up (va_up (va_up mf 1 u.2.2.2.2.2.2.1) 6 u.2.2.2.2.2.2.2.2.2.2.2.1) 3 u.2.2.2.2.2.2.2.2.2.2.2.2.1) mg))) E hr hlk (x_9, x_10, x_11, x_12, x_13, x_14, g_20, x_15, x_16, x_17, x_18, g_21, g_22, x_19) hw24 ⟨hi_22_0, hi_22_1, hi_22_2, hi_22_3, hi_22_10⟩ (Nat.le_of_ble_eq_true rfl) (Nat.le_of_ble_eq_true rfl) dX2_read_149
      · skip
        have hc_26 := nltE (a := 400) (b := x_8.toInt) (by decide +kernel) rfl c_26
        refine lv_aload_n (pc := 19) E.1 E.2.1 dX2_read_19 rfl (lv_at hl25 2 rfl) ?_
        refine ck_i (pc := 20) (ws' := (fun (u : Unit) => (WZ_LawT cI cJ ad mr (upd (upd (upd (upd (upd (upd (upd (upd (upd (upd (upd mi 2 x_15) 4 x_19) 7 x_16) 8 x_18) 9 x_17) 14 x_9) 15 x_11) 16 x_12) 17 x_10) 18 x_13) 19 x_14) (va_up (va_up (va_up mf 1 g_20) 3 g_22) 6 g_21) mg))) [false, false, false, false, false, true, true] hw24 rfl (fun hC_ => (rn_V (As := []) (rest := []) E hw24 (t_goesOn l D cI cJ _ (shf 10 mr) (shf 10 (upd (upd (upd (upd (upd (upd (upd (upd (upd (upd (upd mi 2 x_15) 4 x_19) 7 x_16) 8 x_18) 9 x_17) 14 x_9) 15 x_11) 16 x_12) 17 x_10) 18 x_13) 19 x_14)) (shf 10 (va_up (va_up (va_up mf 1 g_20) 3 g_22) 6 g_21)) (shf 10 mg) ad) (gdV q_852 q_853 q_854 q_160 q_855) hdV_X8_goesOn ⟨rfl, rfl⟩ ⟨(Nat.le_of_ble_eq_true rfl), (Nat.le_of_ble_eq_true rfl)⟩ ⟨(Nat.le_of_ble_eq_true rfl), (Nat.le_of_ble_eq_true rfl)⟩ xT_b xT_at 5 8 rfl rfl rfl _ hC_ (nd_T _ 0) rfl hl25.1 rfl (Nat.le_of_ble_eq_true rfl) dX2_read_20)) rfl (fun _ => rfl) (fun _ => rfl) (fun r_28 u_27 H1 locs hp hw29 => ?_)
        generalize H1 = H at hw29 ⊢
        have hw30 : WD D A s.heap (WZ_LawT cI cJ ad mr (upd (upd (upd (upd (upd (upd (upd (upd (upd (upd (upd mi 2 x_15) 4 x_19) 7 x_16) 8 x_18) 9 x_17) 14 x_9) 15 x_11) 16 x_12) 17 x_10) 18 x_13) 19 x_14) (va_up (va_up (va_up mf 1 g_20) 3 g_22) 6 g_21) mg) H locs := hw29
        have hp_31 := hp
        rcases hp_31 with ⟨rfl, ha_32, ha_33⟩ | ⟨rfl, ha_34⟩ | ⟨rfl, ha_35⟩
        · skip
          have ha_32 : x_13.toInt = 0 := ha_32
          have ha_33 : ¬ x_11.toInt = 0 := ha_33
          refine lv_if_eq (pc := 23) (tgt := 149) E.1 E.2.1 dX2_read_23 (by decide) (fun c_36 => absurd c_36 (mneE (a := 1) (b := 0) (by decide +kernel) (by decide +kernel) (by omega))) (fun _ => ?_)
          refine lv_aload_n (pc := 26) E.1 E.2.1 dX2_read_26 rfl (lv_at hl25 1 rfl) ?_
          refine x_get (pc := 27) (T := TX2) (N := 9) (ci := 2) (v := .int x_19) E hw30 inX2 0 3 q_387 rfl rfl (by decide) rfl rfl dX2_read_27 ?_
          refine lv_bipush (pc := 30) (v := 16) E.1 E.2.1 dX2_read_30 (by decide +kernel) ?_
          refine lv_icmp_lt (pc := 32) (tgt := 55) E.1 E.2.1 dX2_read_32 (by decide) (fun c_37 => ?_) (fun c_37 => ?_)
          · skip
            have hc_37 := ltE (a := x_19.toInt) (b := 16) rfl (by decide +kernel) c_37
            refine lv_aload_n (pc := 55) E.1 E.2.1 dX2_read_55 rfl (lv_at hl25 2 rfl) ?_
            refine lv_sipush (pc := 56) (v := 256) E.1 E.2.1 dX2_read_56 (by decide +kernel) ?_
            refine ck_v (pc := 59) (ws' := (fun (u : Int32 × Int32 × Int32 × Int32 × Int32 × Int32) => (WZ_LawT cI cJ ad mr (upd (upd (upd (upd (upd (upd (upd (upd (upd (upd (upd mi 2 x_15) 4 x_19) 7 x_16) 8 x_18) 9 x_17) 14 u.1) 15 u.2.2.1) 16 u.2.2.2.1) 17 u.2.1) 18 u.2.2.2.2.1) 19 u.2.2.2.2.2) (va_up (va_up (va_up mf 1 g_20) 3 g_22) 6 g_21) mg))) [false, false, false, false, false, true, true] hw30 rfl (fun hC_ => (rn_V (As := [.int 256]) (rest := []) E hw30 (t_pass l D cI cJ _ (shf 10 mr) (shf 10 (upd (upd (upd (upd (upd (upd (upd (upd (upd (upd (upd mi 2 x_15) 4 x_19) 7 x_16) 8 x_18) 9 x_17) 14 x_9) 15 x_11) 16 x_12) 17 x_10) 18 x_13) 19 x_14)) (shf 10 (va_up (va_up (va_up mf 1 g_20) 3 g_22) 6 g_21)) (shf 10 mg) 256 ad av tf h0 hi_22_0 hi_22_1 h3 ⟨hi_22_2, hi_22_3⟩) (gdV q_860 q_861 q_862 q_160 q_863) hdV_X8_pass ⟨rfl, rfl⟩ ⟨(Nat.le_of_ble_eq_true rfl), (Nat.le_of_ble_eq_true rfl)⟩ ⟨(Nat.le_of_ble_eq_true rfl), (Nat.le_of_ble_eq_true rfl)⟩ xT8_b (xT8_at hX hw30.2.2.1 (va_free hw30.2.1 hw30.2.2.1 hw30.2.2.2 _ hC_)) 5 8 rfl rfl rfl _ hC_ (nd_T _ 0) rfl hl25.1 rfl (Nat.le_of_ble_eq_true rfl) dX2_read_59)) rfl (fun _ => rfl) (fun _ => rfl) (fun u_38 H1 locs hp hw40 => ?_)
            obtain ⟨nat_41, nplace_42, nkind_43, nvalue_44, nfault_45, nfaultPlace_46⟩ := u_38
            generalize H1 = H at hw40 ⊢
            have hw47 : WD D A s.heap (WZ_LawT cI cJ ad mr (upd (upd (upd (upd (upd (upd (upd (upd (upd (upd (upd mi 2 x_15) 4 x_19) 7 x_16) 8 x_18) 9 x_17) 14 nat_41) 15 nkind_43) 16 nvalue_44) 17 nplace_42) 18 nfault_45) 19 nfaultPlace_46) (va_up (va_up (va_up mf 1 g_20) 3 g_22) 6 g_21) mg) H locs := hw40
            obtain ⟨hp_48, hp_49, hp_50, hp_51⟩ := hp
            have hp_48 : 0 ≤ nat_41.toInt := hp_48
            have hp_49 : nat_41.toInt ≤ (mi 12).toInt := hp_49
            have hp_50 : 0 ≤ nfault_45.toInt := hp_50
            have hp_51 : nfault_45.toInt ≤ 4 := hp_51
            refine lv_aload_n (pc := 62) E.1 E.2.1 dX2_read_62 rfl (lv_at hl25 1 rfl) ?_
            refine lv_aload_n (pc := 63) E.1 E.2.1 dX2_read_63 rfl (lv_at hl25 2 rfl) ?_
            refine ck_v (pc := 64) (ws' := (fun (u : Int32 × Int32 × Int32 × Int32 × Int32 × Int32 × (Nat → Int32) × Int32) => (WZ_LawT cI cJ ad mr (upd (upd (upd (upd (upd (upd (upd (upd (upd (upd (upd mi 2 u.2.2.2.2.2.2.2) 4 x_19) 7 x_16) 8 x_18) 9 x_17) 14 u.1) 15 u.2.2.1) 16 u.2.2.2.1) 17 u.2.1) 18 u.2.2.2.2.1) 19 u.2.2.2.2.2.1) (va_up (va_up (va_up mf 1 u.2.2.2.2.2.2.1) 3 g_22) 6 g_21) mg))) [true, true, true, true, true, true, true] hw47 rfl (fun hC_ => (rn_V (As := [.ref (mr 10)]) (rest := []) E hw47 (t_readSum l D cI cJ _ mr (upd (upd (upd (upd (upd (upd (upd (upd (upd (upd (upd mi 2 x_15) 4 x_19) 7 x_16) 8 x_18) 9 x_17) 14 nat_41) 15 nkind_43) 16 nvalue_44) 17 nplace_42) 18 nfault_45) 19 nfaultPlace_46) (va_up (va_up (va_up mf 1 g_20) 3 g_22) 6 g_21) mg ad av tf h0 hp_48 hp_49 h3 ⟨hp_50, hp_51⟩ ⟨hi_22_4, hi_22_5⟩) (gdV q_865 q_867 q_4 q_157 q_868) hdV_X2_readSum ⟨rfl, rfl⟩ ⟨(Nat.le_of_ble_eq_true rfl), (Nat.le_of_ble_eq_true rfl)⟩ ⟨(Nat.le_of_ble_eq_true rfl), (Nat.le_of_ble_eq_true rfl)⟩ xT8_b (xT8_at hX hw47.2.2.1 (va_free hw47.2.1 hw47.2.2.1 hw47.2.2.2 _ hC_)) 0 2 rfl rfl rfl _ hC_ (nd_T _ 0) rfl hl25.1 rfl (Nat.le_of_ble_eq_true rfl) dX2_read_64)) rfl (fun _ => rfl) (fun _ => rfl) (fun u_52 H1 locs hp hw54 => ?_)
            obtain ⟨ntat_55, ntplace_56, ntkind_57, ntvalue_58, ntfault_59, ntfaultPlace_60, gcode_61, nsize_62⟩ := u_52
            generalize H1 = H at hw54 ⊢
            have hw63 : WD D A s.heap (WZ_LawT cI cJ ad mr (upd (upd (upd (upd (upd (upd (upd (upd (upd (upd (upd mi 2 nsize_62) 4 x_19) 7 x_16) 8 x_18) 9 x_17) 14 ntat_55) 15 ntkind_57) 16 ntvalue_58) 17 ntplace_56) 18 ntfault_59) 19 ntfaultPlace_60) (va_up (va_up (va_up mf 1 gcode_61) 3 g_22) 6 g_21) mg) H locs := hw54
            obtain ⟨hp_64, hp_65, hp_66, hp_67, hp_68, hp_69⟩ := hp
            have hp_64 : 0 ≤ ntat_55.toInt := hp_64
            have hp_65 : ntat_55.toInt ≤ (mi 12).toInt := hp_65
            have hp_66 : 0 ≤ ntfault_59.toInt := hp_66
            have hp_67 : ntfault_59.toInt ≤ 4 := hp_67
            have hp_68 : 0 ≤ nsize_62.toInt := hp_68
            have hp_69 : nsize_62.toInt ≤ 400 := hp_69
            refine lv_aload_n (pc := 67) E.1 E.2.1 dX2_read_67 rfl (lv_at hl25 1 rfl) ?_
            refine x_get (pc := 68) (T := TX2) (N := 9) (ci := 2) (v := .ref (mr 3)) E hw63 inX2 0 2 q_386 rfl rfl (by decide) rfl rfl dX2_read_68 ?_
            refine lv_iconst (pc := 71) (v := 2) E.1 E.2.1 dX2_read_71 (by decide +kernel) ?_
            refine lv_aload_n (pc := 72) E.1 E.2.1 dX2_read_72 rfl (lv_at hl25 1 rfl) ?_
            refine x_get (pc := 73) (T := TX2) (N := 9) (ci := 2) (v := .int x_19) E hw63 inX2 0 3 q_387 rfl rfl (by decide) rfl rfl dX2_read_73 ?_
            refine lv_imul (pc := 76) E.1 E.2.1 dX2_read_76 ?_
            refine lv_topi (fun v_70 ev_70 => ?_)
            have hv_70 : v_70.toInt = 2 * x_19.toInt := by rw [ev_70]; exact mulE (by decide +kernel) rfl (by omega)
            refine lv_iconst (pc := 77) (v := 1) E.1 E.2.1 dX2_read_77 (by decide +kernel) ?_
            refine lv_iadd (pc := 78) E.1 E.2.1 dX2_read_78 ?_
            refine lv_topi (fun v_71 ev_71 => ?_)
            have hv_71 : v_71.toInt = v_70.toInt + 1 := by rw [ev_71]; exact addE rfl (by decide +kernel) (by omega)
            refine lv_aload_n (pc := 79) E.1 E.2.1 dX2_read_79 rfl (lv_at hl25 1 rfl) ?_
            refine x_get (pc := 80) (T := TX2) (N := 9) (ci := 2) (v := .int nsize_62) E hw63 inX2 0 1 q_385 rfl rfl (by decide) rfl rfl dX2_read_80 ?_
            refine x_iastG (pc := 83) (f := g_22) (wf := fun g => (WZ_LawT cI cJ ad mr (upd (upd (upd (upd (upd (upd (upd (upd (upd (upd (upd mi 2 nsize_62) 4 x_19) 7 x_16) 8 x_18) 9 x_17) 14 ntat_55) 15 ntkind_57) 16 ntvalue_58) 17 ntplace_56) 18 ntfault_59) 19 ntfaultPlace_60) (va_up (va_up (va_up mf 1 gcode_61) 3 g) 6 g_21) mg)) E hw63 2 rfl (inbE (a := v_71.toInt) rfl (by omega)) (fun _ => rfl) dX2_read_83 (fun g_72 H locs eg_72 hw73 => ?_)
            have ha_74 : allR 33 (0) 400 g_72 := allR_upd hi_22_10 eg_72 (by omega)
            refine lv_aload_n (pc := 84) E.1 E.2.1 dX2_read_84 rfl (lv_at hl25 2 rfl) ?_
            refine x_get (pc := 85) (T := TX8) (N := 9) (ci := 8) (v := .int ntkind_57) E hw73 inX8 5 4 q_545 rfl rfl (by decide) rfl rfl dX2_read_85 ?_
            refine lv_sipush (pc := 88) (v := 257) E.1 E.2.1 dX2_read_88 (by decide +kernel) ?_
            refine lv_icmp_ne (pc := 91) (tgt := 103) E.1 E.2.1 dX2_read_91 (by decide) (fun c_75 => ?_) (fun c_75 => ?_)
            · skip
              have hc_75 := neE (a := ntkind_57.toInt) (b := 257) rfl (by decide +kernel) c_75
              refine lv_aload_n (pc := 103) E.1 E.2.1 dX2_read_103 rfl (lv_at hl25 2 rfl) ?_
              refine lv_bipush (pc := 104) (v := 59) E.1 E.2.1 dX2_read_104 (by decide +kernel) ?_
              refine ck_v (pc := 106) (ws' := (fun (u : Int32 × Int32 × Int32 × Int32 × Int32 × Int32) => (WZ_LawT cI cJ ad mr (upd (upd (upd (upd (upd (upd (upd (upd (upd (upd (upd mi 2 nsize_62) 4 x_19) 7 x_16) 8 x_18) 9 x_17) 14 u.1) 15 u.2.2.1) 16 u.2.2.2.1) 17 u.2.1) 18 u.2.2.2.2.1) 19 u.2.2.2.2.2) (va_up (va_up (va_up mf 1 gcode_61) 3 g_72) 6 g_21) mg))) [false, false, false, false, false, true, true] hw73 rfl (fun hC_ => (rn_V (As := [.int 59]) (rest := []) E hw73 (t_pass l D cI cJ _ (shf 10 mr) (shf 10 (upd (upd (upd (upd (upd (upd (upd (upd (upd (upd (upd mi 2 nsize_62) 4 x_19) 7 x_16) 8 x_18) 9 x_17) 14 ntat_55) 15 ntkind_57) 16 ntvalue_58) 17 ntplace_56) 18 ntfault_59) 19 ntfaultPlace_60)) (shf 10 (va_up (va_up (va_up mf 1 gcode_61) 3 g_72) 6 g_21)) (shf 10 mg) 59 ad av tf h0 hp_64 hp_65 h3 ⟨hp_66, hp_67⟩) (gdV q_860 q_861 q_862 q_160 q_863) hdV_X8_pass ⟨rfl, rfl⟩ ⟨(Nat.le_of_ble_eq_true rfl), (Nat.le_of_ble_eq_true rfl)⟩ ⟨(Nat.le_of_ble_eq_true rfl), (Nat.le_of_ble_eq_true rfl)⟩ xT8_b (xT8_at hX hw73.2.2.1 (va_free hw73.2.1 hw73.2.2.1 hw73.2.2.2 _ hC_)) 5 8 rfl rfl rfl _ hC_ (nd_T _ 0) rfl hl25.1 rfl (Nat.le_of_ble_eq_true rfl) dX2_read_106)) rfl (fun _ => rfl) (fun _ => rfl) (fun u_76 H1 locs hp hw78 => ?_)
              obtain ⟨nat_79, nplace_80, nkind_81, nvalue_82, nfault_83, nfaultPlace_84⟩ := u_76
              generalize H1 = H at hw78 ⊢
              have hw85 : WD D A s.heap (WZ_LawT cI cJ ad mr (upd (upd (upd (upd (upd (upd (upd (upd (upd (upd (upd mi 2 nsize_62) 4 x_19) 7 x_16) 8 x_18) 9 x_17) 14 nat_79) 15 nkind_81) 16 nvalue_82) 17 nplace_80) 18 nfault_83) 19 nfaultPlace_84) (va_up (va_up (va_up mf 1 gcode_61) 3 g_72) 6 g_21) mg) H locs := hw78
              obtain ⟨hp_86, hp_87, hp_88, hp_89⟩ := hp
              have hp_86 : 0 ≤ nat_79.toInt := hp_86
              have hp_87 : nat_79.toInt ≤ (mi 12).toInt := hp_87
              have hp_88 : 0 ≤ nfault_83.toInt := hp_88
              have hp_89 : nfault_83.toInt ≤ 4 := hp_89
              refine lv_aload_n (pc := 109) E.1 E.2.1 dX2_read_109 rfl (lv_at hl25 1 rfl) ?_
              refine x_get (pc := 110) (T := TX2) (N := 9) (ci := 2) (v := .ref (mr 3)) E hw85 inX2 0 2 q_386 rfl rfl (by decide) rfl rfl dX2_read_110 ?_
              refine lv_iconst (pc := 113) (v := 2) E.1 E.2.1 dX2_read_113 (by decide +kernel) ?_
              refine lv_aload_n (pc := 114) E.1 E.2.1 dX2_read_114 rfl (lv_at hl25 1 rfl) ?_
              refine x_get (pc := 115) (T := TX2) (N := 9) (ci := 2) (v := .int x_19) E hw85 inX2 0 3 q_387 rfl rfl (by decide) rfl rfl dX2_read_115 ?_
              refine lv_imul (pc := 118) E.1 E.2.1 dX2_read_118 ?_
              refine lv_topi (fun v_90 ev_90 => ?_)
              have hv_90 : v_90.toInt = 2 * x_19.toInt := by rw [ev_90]; exact mulE (by decide +kernel) rfl (by omega)
              refine lv_iconst (pc := 119) (v := 2) E.1 E.2.1 dX2_read_119 (by decide +kernel) ?_
              refine lv_iadd (pc := 120) E.1 E.2.1 dX2_read_120 ?_
              refine lv_topi (fun v_91 ev_91 => ?_)
              have hv_91 : v_91.toInt = v_90.toInt + 2 := by rw [ev_91]; exact addE rfl (by decide +kernel) (by omega)
              refine lv_aload_n (pc := 121) E.1 E.2.1 dX2_read_121 rfl (lv_at hl25 1 rfl) ?_
              refine x_get (pc := 122) (T := TX2) (N := 9) (ci := 2) (v := .int nsize_62) E hw85 inX2 0 1 q_385 rfl rfl (by decide) rfl rfl dX2_read_122 ?_
              refine x_iastG (pc := 125) (f := g_72) (wf := fun g => (WZ_LawT cI cJ ad mr (upd (upd (upd (upd (upd (upd (upd (upd (upd (upd (upd mi 2 nsize_62) 4 x_19) 7 x_16) 8 x_18) 9 x_17) 14 nat_79) 15 nkind_81) 16 nvalue_82) 17 nplace_80) 18 nfault_83) 19 nfaultPlace_84) (va_up (va_up (va_up mf 1 gcode_61) 3 g) 6 g_21) mg)) E hw85 2 rfl (inbE (a := v_91.toInt) rfl (by omega)) (fun _ => rfl) dX2_read_125 (fun g_92 H locs eg_92 hw93 => ?_)
              have ha_94 : allR 33 (0) 400 g_92 := allR_upd ha_74 eg_92 (by omega)
              refine lv_aload_n (pc := 126) E.1 E.2.1 dX2_read_126 rfl (lv_at hl25 2 rfl) ?_
              refine x_get (pc := 127) (T := TX8) (N := 9) (ci := 8) (v := .int nfault_83) E hw93 inX8 5 7 q_551 rfl rfl (by decide) rfl rfl dX2_read_127 ?_
              refine lv_if_ne (pc := 130) (tgt := 143) E.1 E.2.1 dX2_read_130 (by decide) (fun c_95 => ?_) (fun c_95 => ?_)
              · skip
                have hc_95 := neE (a := nfault_83.toInt) (b := 0) rfl (by decide +kernel) c_95
                obtain ⟨v_96, ev_96⟩ : ∃ z : Int32, x_8 + Int32.ofInt (1) = z := ⟨_, rfl⟩
                have hv_96 : v_96.toInt = x_8.toInt + (1) := by rw [← ev_96]; exact incE rfl (by decide) (by omega)
                refine lv_iinc (pc := 143) (v := v_96) (lv' := [(2, .int v_96), (0, .ref (mr 0)), (1, .ref (mr 10))]) E.1 E.2.1 dX2_read_143 hl25 (k := 0) rfl ev_96 (by decide) rfl (fun ls hl97 => ?_)
                refine lv_goto (pc := 146) (tgt := 12) E.1 E.2.1 dX2_read_146 (by decide) ?_
                exact ih_23 v_96 nat_79 nplace_80 nkind_81 nvalue_82 nfault_83 nfaultPlace_84 nsize_62 x_16 x_17 x_18 x_19 gcode_61 g_21 g_92 _ _ _ ⟨hp_86, hp_87, hp_88, hp_89, hp_68, hp_69, (by show 0 ≤ v_96.toInt; omega), (by show v_96.toInt ≤ 401; omega), hi_22_8, hi_22_9, ha_94⟩ (by omega) hw93 (lv_sub hl97 [0, 1, 2] rfl)
              · skip
                have hc_95 := eqE (a := nfault_83.toInt) (b := 0) rfl (by decide +kernel) c_95
                refine lv_aload_n (pc := 133) E.1 E.2.1 dX2_read_133 rfl (lv_at hl25 1 rfl) ?_
                refine lv_dup (pc := 134) E.1 E.2.1 dX2_read_134 rfl ?_
                refine x_get (pc := 135) (T := TX2) (N := 9) (ci := 2) (v := .int x_19) E hw93 inX2 0 3 q_387 rfl rfl (by decide) rfl rfl dX2_read_135 ?_
                refine lv_iconst (pc := 138) (v := 1) E.1 E.2.1 dX2_read_138 (by decide +kernel) ?_
                refine lv_iadd (pc := 139) E.1 E.2.1 dX2_read_139 ?_
                refine lv_topi (fun v_98 ev_98 => ?_)
                have hv_98 : v_98.toInt = x_19.toInt + 1 := by rw [ev_98]; exact addE rfl (by decide +kernel) (by omega)
                refine x_put (pc := 140) (T := TX2) (N := 9) (ci := 2) (ws' := (WZ_LawT cI cJ ad mr (upd (upd (upd (upd (upd (upd (upd (upd (upd (upd (upd mi 2 nsize_62) 4 v_98) 7 x_16) 8 x_18) 9 x_17) 14 nat_79) 15 nkind_81) 16 nvalue_82) 17 nplace_80) 18 nfault_83) 19 nfaultPlace_84) (va_up (va_up (va_up mf 1 gcode_61) 3 g_92) 6 g_21) mg)) E hw93 inX2 tyX2_ok nmX2 0 3 q_387 rfl rfl (by decide) rfl rfl rfl rfl (Nat.le_of_ble_eq_true rfl) rfl dX2_read_140 (fun H locs hw99 => ?_)
                obtain ⟨v_100, ev_100⟩ : ∃ z : Int32, x_8 + Int32.ofInt (1) = z := ⟨_, rfl⟩
                have hv_100 : v_100.toInt = x_8.toInt + (1) := by rw [← ev_100]; exact incE rfl (by decide) (by omega)
                refine lv_iinc (pc := 143) (v := v_100) (lv' := [(2, .int v_100), (0, .ref (mr 0)), (1, .ref (mr 10))]) E.1 E.2.1 dX2_read_143 hl25 (k := 0) rfl ev_100 (by decide) rfl (fun ls hl101 => ?_)
                refine lv_goto (pc := 146) (tgt := 12) E.1 E.2.1 dX2_read_146 (by decide) ?_
                exact ih_23 v_100 nat_79 nplace_80 nkind_81 nvalue_82 nfault_83 nfaultPlace_84 nsize_62 x_16 x_17 x_18 v_98 gcode_61 g_21 g_92 _ _ _ ⟨hp_86, hp_87, hp_88, hp_89, hp_68, hp_69, (by show 0 ≤ v_100.toInt; omega), (by show v_100.toInt ≤ 401; omega), (by show 0 ≤ v_98.toInt; omega), (by show v_98.toInt ≤ 16; omega), ha_94⟩ (by omega) hw99 (lv_sub hl101 [0, 1, 2] rfl)
            · skip
              have hc_75 := eqE (a := ntkind_57.toInt) (b := 257) rfl (by decide +kernel) c_75
              refine lv_aload_n (pc := 94) E.1 E.2.1 dX2_read_94 rfl (lv_at hl25 2 rfl) ?_
              refine ck_v (pc := 95) (ws' := (fun (u : Int32 × Int32 × Int32 × Int32) => (WZ_LawT cI cJ ad mr (upd (upd (upd (upd (upd (upd (upd (upd (upd (upd (upd mi 2 nsize_62) 4 x_19) 7 x_16) 8 x_18) 9 x_17) 14 u.1) 15 u.2.2.1) 16 u.2.2.2) 17 u.2.1) 18 ntfault_59) 19 ntfaultPlace_60) (va_up (va_up (va_up mf 1 gcode_61) 3 g_72) 6 g_21) mg))) [false, false, false, false, false, true, true] hw73 rfl (fun hC_ => (rn_V (As := []) (rest := []) E hw73 (t_step l D cI cJ _ (shf 10 mr) (shf 10 (upd (upd (upd (upd (upd (upd (upd (upd (upd (upd (upd mi 2 nsize_62) 4 x_19) 7 x_16) 8 x_18) 9 x_17) 14 ntat_55) 15 ntkind_57) 16 ntvalue_58) 17 ntplace_56) 18 ntfault_59) 19 ntfaultPlace_60)) (shf 10 (va_up (va_up (va_up mf 1 gcode_61) 3 g_72) 6 g_21)) (shf 10 mg) ad av tf h0 hp_64 hp_65 h3) (gdV q_877 q_723 q_724 q_160 q_725) hdV_X8_step ⟨rfl, rfl⟩ ⟨(Nat.le_of_ble_eq_true rfl), (Nat.le_of_ble_eq_true rfl)⟩ ⟨(Nat.le_of_ble_eq_true rfl), (Nat.le_of_ble_eq_true rfl)⟩ xT8_b (xT8_at hX hw73.2.2.1 (va_free hw73.2.1 hw73.2.2.1 hw73.2.2.2 _ hC_)) 5 8 rfl rfl rfl _ hC_ (nd_T _ 0) rfl hl25.1 rfl (Nat.le_of_ble_eq_true rfl) dX2_read_95)) rfl (fun _ => rfl) (fun _ => rfl) (fun u_102 H1 locs hp hw104 => ?_)
              obtain ⟨nat_105, nplace_106, nkind_107, nvalue_108⟩ := u_102
              generalize H1 = H at hw104 ⊢
              have hw109 : WD D A s.heap (WZ_LawT cI cJ ad mr (upd (upd (upd (upd (upd (upd (upd (upd (upd (upd (upd mi 2 nsize_62) 4 x_19) 7 x_16) 8 x_18) 9 x_17) 14 nat_105) 15 nkind_107) 16 nvalue_108) 17 nplace_106) 18 ntfault_59) 19 ntfaultPlace_60) (va_up (va_up (va_up mf 1 gcode_61) 3 g_72) 6 g_21) mg) H locs := hw104
              obtain ⟨hp_110, hp_111⟩ := hp
              have hp_110 : 0 ≤ nat_105.toInt := hp_110
              have hp_111 : nat_105.toInt ≤ (mi 12).toInt := hp_111
              refine lv_aload_n (pc := 98) E.1 E.2.1 dX2_read_98 rfl (lv_at hl25 1 rfl) ?_
              refine lv_aload_n (pc := 99) E.1 E.2.1 dX2_read_99 rfl (lv_at hl25 2 rfl) ?_
              refine ck_v (pc := 100) (ws' := (fun (u : Int32 × Int32 × Int32 × Int32 × Int32 × Int32 × (Nat → Int32) × Int32 × Int32 × Int32 × Int32 × (Nat → Int32)) => (WZ_LawT cI cJ ad mr (upd (upd (upd (upd (upd (upd (upd (upd (upd (upd (upd mi 2 u.2.2.2.2.2.2.2.1) 4 x_19) 7 u.2.2.2.2.2.2.2.2.1) 8 u.2.2.2.2.2.2.2.2.2.2.1) 9 u.2.2.2.2.2.2.2.2.2.1) 14 u.1) 15 u.2.2.1) 16 u.2.2.2.1) 17 u.2.1) 18 u.2.2.2.2.1) 19 u.2.2.2.2.2.1) (va_up (va_up (va_up mf 1 u.2.2.2.2.2.2.1) 3 g_72) 6 u.2.2.2.2.2.2.2.2.2.2.2) mg))) [true, true, true, true, true, true, true] hw109 rfl (fun hC_ => (rn_V (As := [.ref (mr 10)]) (rest := []) E hw109 (t_readCondition l D cI cJ _ mr (upd (upd (upd (upd (upd (upd (upd (upd (upd (upd (upd mi 2 nsize_62) 4 x_19) 7 x_16) 8 x_18) 9 x_17) 14 nat_105) 15 nkind_107) 16 nvalue_108) 17 nplace_106) 18 ntfault_59) 19 ntfaultPlace_60) (va_up (va_up (va_up mf 1 gcode_61) 3 g_72) 6 g_21) mg ad av tf h0 hp_110 hp_111 h3 ⟨hp_66, hp_67⟩ ⟨hp_68, hp_69⟩) (gdV q_882 q_884 q_7 q_157 q_885) hdV_X2_readCondition ⟨rfl, rfl⟩ ⟨(Nat.le_of_ble_eq_true rfl), (Nat.le_of_ble_eq_true rfl)⟩ ⟨(Nat.le_of_ble_eq_true rfl), (Nat.le_of_ble_eq_true rfl)⟩ xT8_b (xT8_at hX hw109.2.2.1 (va_free hw109.2.1 hw109.2.2.1 hw109.2.2.2 _ hC_)) 0 2 rfl rfl rfl _ hC_ (nd_T _ 0) rfl hl25.1 rfl (Nat.le_of_ble_eq_true rfl) dX2_read_100)) rfl (fun _ => rfl) (fun _ => rfl) (fun u_112 H1 locs hp hw114 => ?_)
              obtain ⟨ntat_115, ntplace_116, ntkind_117, ntvalue_118, ntfault_119, ntfaultPlace_120, gcode_121, nsize_122, nholding_123, nopen_124, nbrackets_125, gheld_126⟩ := u_112
              generalize H1 = H at hw114 ⊢
              have hw127 : WD D A s.heap (WZ_LawT cI cJ ad mr (upd (upd (upd (upd (upd (upd (upd (upd (upd (upd (upd mi 2 nsize_122) 4 x_19) 7 nholding_123) 8 nbrackets_125) 9 nopen_124) 14 ntat_115) 15 ntkind_117) 16 ntvalue_118) 17 ntplace_116) 18 ntfault_119) 19 ntfaultPlace_120) (va_up (va_up (va_up mf 1 gcode_121) 3 g_72) 6 gheld_126) mg) H locs := hw114
              obtain ⟨hp_128, hp_129, hp_130, hp_131, hp_132, hp_133⟩ := hp
              have hp_128 : 0 ≤ ntat_115.toInt := hp_128
              have hp_129 : ntat_115.toInt ≤ (mi 12).toInt := hp_129
              have hp_130 : 0 ≤ ntfault_119.toInt := hp_130
              have hp_131 : ntfault_119.toInt ≤ 4 := hp_131
              have hp_132 : 0 ≤ nsize_122.toInt := hp_132
              have hp_133 : nsize_122.toInt ≤ 400 := hp_133
              refine lv_aload_n (pc := 103) E.1 E.2.1 dX2_read_103 rfl (lv_at hl25 2 rfl) ?_
              refine lv_bipush (pc := 104) (v := 59) E.1 E.2.1 dX2_read_104 (by decide +kernel) ?_
              refine ck_v (pc := 106) (ws' := (fun (u : Int32 × Int32 × Int32 × Int32 × Int32 × Int32) => (WZ_LawT cI cJ ad mr (upd (upd (upd (upd (upd (upd (upd (upd (upd (upd (upd mi 2 nsize_122) 4 x_19) 7 nholding_123) 8 nbrackets_125) 9 nopen_124) 14 u.1) 15 u.2.2.1) 16 u.2.2.2.1) 17 u.2.1) 18 u.2.2.2.2.1) 19 u.2.2.2.2.2) (va_up (va_up (va_up mf 1 gcode_121) 3 g_72) 6 gheld_126) mg))) [false, false, false, false, false, true, true] hw127 rfl (fun hC_ => (rn_V (As := [.int 59]) (rest := []) E hw127 (t_pass l D cI cJ _ (shf 10 mr) (shf 10 (upd (upd (upd (upd (upd (upd (upd (upd (upd (upd (upd mi 2 nsize_122) 4 x_19) 7 nholding_123) 8 nbrackets_125) 9 nopen_124) 14 ntat_115) 15 ntkind_117) 16 ntvalue_118) 17 ntplace_116) 18 ntfault_119) 19 ntfaultPlace_120)) (shf 10 (va_up (va_up (va_up mf 1 gcode_121) 3 g_72) 6 gheld_126)) (shf 10 mg) 59 ad av tf h0 hp_128 hp_129 h3 ⟨hp_130, hp_131⟩) (gdV q_860 q_861 q_862 q_160 q_863) hdV_X8_pass ⟨rfl, rfl⟩ ⟨(Nat.le_of_ble_eq_true rfl), (Nat.le_of_ble_eq_true rfl)⟩ ⟨(Nat.le_of_ble_eq_true rfl), (Nat.le_of_ble_eq_true rfl)⟩ xT8_b (xT8_at hX hw127.2.2.1 (va_free hw127.2.1 hw127.2.2.1 hw127.2.2.2 _ hC_)) 5 8 rfl rfl rfl _ hC_ (nd_T _ 0) rfl hl25.1 rfl (Nat.le_of_ble_eq_true rfl) dX2_read_106)) rfl (fun _ => rfl) (fun _ => rfl) (fun u_134 H1 locs hp hw136 => ?_)
              obtain ⟨nat_137, nplace_138, nkind_139, nvalue_140, nfault_141, nfaultPlace_142⟩ := u_134
              generalize H1 = H at hw136 ⊢
              have hw143 : WD D A s.heap (WZ_LawT cI cJ ad mr (upd (upd (upd (upd (upd (upd (upd (upd (upd (upd (upd mi 2 nsize_122) 4 x_19) 7 nholding_123) 8 nbrackets_125) 9 nopen_124) 14 nat_137) 15 nkind_139) 16 nvalue_140) 17 nplace_138) 18 nfault_141) 19 nfaultPlace_142) (va_up (va_up (va_up mf 1 gcode_121) 3 g_72) 6 gheld_126) mg) H locs := hw136
              obtain ⟨hp_144, hp_145, hp_146, hp_147⟩ := hp
              have hp_144 : 0 ≤ nat_137.toInt := hp_144
              have hp_145 : nat_137.toInt ≤ (mi 12).toInt := hp_145
              have hp_146 : 0 ≤ nfault_141.toInt := hp_146
              have hp_147 : nfault_141.toInt ≤ 4 := hp_147
              refine lv_aload_n (pc := 109) E.1 E.2.1 dX2_read_109 rfl (lv_at hl25 1 rfl) ?_
              refine x_get (pc := 110) (T := TX2) (N := 9) (ci := 2) (v := .ref (mr 3)) E hw143 inX2 0 2 q_386 rfl rfl (by decide) rfl rfl dX2_read_110 ?_
              refine lv_iconst (pc := 113) (v := 2) E.1 E.2.1 dX2_read_113 (by decide +kernel) ?_
              refine lv_aload_n (pc := 114) E.1 E.2.1 dX2_read_114 rfl (lv_at hl25 1 rfl) ?_
              refine x_get (pc := 115) (T := TX2) (N := 9) (ci := 2) (v := .int x_19) E hw143 inX2 0 3 q_387 rfl rfl (by decide) rfl rfl dX2_read_115 ?_
              refine lv_imul (pc := 118) E.1 E.2.1 dX2_read_118 ?_
              refine lv_topi (fun v_148 ev_148 => ?_)
              have hv_148 : v_148.toInt = 2 * x_19.toInt := by rw [ev_148]; exact mulE (by decide +kernel) rfl (by omega)
              refine lv_iconst (pc := 119) (v := 2) E.1 E.2.1 dX2_read_119 (by decide +kernel) ?_
              refine lv_iadd (pc := 120) E.1 E.2.1 dX2_read_120 ?_
              refine lv_topi (fun v_149 ev_149 => ?_)
              have hv_149 : v_149.toInt = v_148.toInt + 2 := by rw [ev_149]; exact addE rfl (by decide +kernel) (by omega)
              refine lv_aload_n (pc := 121) E.1 E.2.1 dX2_read_121 rfl (lv_at hl25 1 rfl) ?_
              refine x_get (pc := 122) (T := TX2) (N := 9) (ci := 2) (v := .int nsize_122) E hw143 inX2 0 1 q_385 rfl rfl (by decide) rfl rfl dX2_read_122 ?_
              refine x_iastG (pc := 125) (f := g_72) (wf := fun g => (WZ_LawT cI cJ ad mr (upd (upd (upd (upd (upd (upd (upd (upd (upd (upd (upd mi 2 nsize_122) 4 x_19) 7 nholding_123) 8 nbrackets_125) 9 nopen_124) 14 nat_137) 15 nkind_139) 16 nvalue_140) 17 nplace_138) 18 nfault_141) 19 nfaultPlace_142) (va_up (va_up (va_up mf 1 gcode_121) 3 g) 6 gheld_126) mg)) E hw143 2 rfl (inbE (a := v_149.toInt) rfl (by omega)) (fun _ => rfl) dX2_read_125 (fun g_150 H locs eg_150 hw151 => ?_)
              have ha_152 : allR 33 (0) 400 g_150 := allR_upd ha_74 eg_150 (by omega)
              refine lv_aload_n (pc := 126) E.1 E.2.1 dX2_read_126 rfl (lv_at hl25 2 rfl) ?_
              refine x_get (pc := 127) (T := TX8) (N := 9) (ci := 8) (v := .int nfault_141) E hw151 inX8 5 7 q_551 rfl rfl (by decide) rfl rfl dX2_read_127 ?_
              refine lv_if_ne (pc := 130) (tgt := 143) E.1 E.2.1 dX2_read_130 (by decide) (fun c_153 => ?_) (fun c_153 => ?_)
              · skip
                have hc_153 := neE (a := nfault_141.toInt) (b := 0) rfl (by decide +kernel) c_153
                obtain ⟨v_154, ev_154⟩ : ∃ z : Int32, x_8 + Int32.ofInt (1) = z := ⟨_, rfl⟩
                have hv_154 : v_154.toInt = x_8.toInt + (1) := by rw [← ev_154]; exact incE rfl (by decide) (by omega)
                refine lv_iinc (pc := 143) (v := v_154) (lv' := [(2, .int v_154), (0, .ref (mr 0)), (1, .ref (mr 10))]) E.1 E.2.1 dX2_read_143 hl25 (k := 0) rfl ev_154 (by decide) rfl (fun ls hl155 => ?_)
                refine lv_goto (pc := 146) (tgt := 12) E.1 E.2.1 dX2_read_146 (by decide) ?_
                exact ih_23 v_154 nat_137 nplace_138 nkind_139 nvalue_140 nfault_141 nfaultPlace_142 nsize_122 nholding_123 nopen_124 nbrackets_125 x_19 gcode_121 gheld_126 g_150 _ _ _ ⟨hp_144, hp_145, hp_146, hp_147, hp_132, hp_133, (by show 0 ≤ v_154.toInt; omega), (by show v_154.toInt ≤ 401; omega), hi_22_8, hi_22_9, ha_152⟩ (by omega) hw151 (lv_sub hl155 [0, 1, 2] rfl)
              · skip
                have hc_153 := eqE (a := nfault_141.toInt) (b := 0) rfl (by decide +kernel) c_153
                refine lv_aload_n (pc := 133) E.1 E.2.1 dX2_read_133 rfl (lv_at hl25 1 rfl) ?_
                refine lv_dup (pc := 134) E.1 E.2.1 dX2_read_134 rfl ?_
                refine x_get (pc := 135) (T := TX2) (N := 9) (ci := 2) (v := .int x_19) E hw151 inX2 0 3 q_387 rfl rfl (by decide) rfl rfl dX2_read_135 ?_
                refine lv_iconst (pc := 138) (v := 1) E.1 E.2.1 dX2_read_138 (by decide +kernel) ?_
                refine lv_iadd (pc := 139) E.1 E.2.1 dX2_read_139 ?_
                refine lv_topi (fun v_156 ev_156 => ?_)
                have hv_156 : v_156.toInt = x_19.toInt + 1 := by rw [ev_156]; exact addE rfl (by decide +kernel) (by omega)
                refine x_put (pc := 140) (T := TX2) (N := 9) (ci := 2) (ws' := (WZ_LawT cI cJ ad mr (upd (upd (upd (upd (upd (upd (upd (upd (upd (upd (upd mi 2 nsize_122) 4 v_156) 7 nholding_123) 8 nbrackets_125) 9 nopen_124) 14 nat_137) 15 nkind_139) 16 nvalue_140) 17 nplace_138) 18 nfault_141) 19 nfaultPlace_142) (va_up (va_up (va_up mf 1 gcode_121) 3 g_150) 6 gheld_126) mg)) E hw151 inX2 tyX2_ok nmX2 0 3 q_387 rfl rfl (by decide) rfl rfl rfl rfl (Nat.le_of_ble_eq_true rfl) rfl dX2_read_140 (fun H locs hw157 => ?_)
                obtain ⟨v_158, ev_158⟩ : ∃ z : Int32, x_8 + Int32.ofInt (1) = z := ⟨_, rfl⟩
                have hv_158 : v_158.toInt = x_8.toInt + (1) := by rw [← ev_158]; exact incE rfl (by decide) (by omega)
                refine lv_iinc (pc := 143) (v := v_158) (lv' := [(2, .int v_158), (0, .ref (mr 0)), (1, .ref (mr 10))]) E.1 E.2.1 dX2_read_143 hl25 (k := 0) rfl ev_158 (by decide) rfl (fun ls hl159 => ?_)
                refine lv_goto (pc := 146) (tgt := 12) E.1 E.2.1 dX2_read_146 (by decide) ?_
                exact ih_23 v_158 nat_137 nplace_138 nkind_139 nvalue_140 nfault_141 nfaultPlace_142 nsize_122 nholding_123 nopen_124 nbrackets_125 v_156 gcode_121 gheld_126 g_150 _ _ _ ⟨hp_144, hp_145, hp_146, hp_147, hp_132, hp_133, (by show 0 ≤ v_158.toInt; omega), (by show v_158.toInt ≤ 401; omega), (by show 0 ≤ v_156.toInt; omega), (by show v_156.toInt ≤ 16; omega), ha_152⟩ (by omega) hw157 (lv_sub hl159 [0, 1, 2] rfl)
          · skip
            have hc_37 := nltE (a := x_19.toInt) (b := 16) rfl (by decide +kernel) c_37
            refine lv_aload_n (pc := 35) E.1 E.2.1 dX2_read_35 rfl (lv_at hl25 2 rfl) ?_
            refine lv_aload_n (pc := 36) E.1 E.2.1 dX2_read_36 rfl (lv_at hl25 2 rfl) ?_
            refine x_get (pc := 37) (T := TX8) (N := 9) (ci := 8) (v := .int x_11) E hw30 inX8 5 4 q_545 rfl rfl (by decide) rfl rfl dX2_read_37 ?_
            refine lv_sipush (pc := 40) (v := 256) E.1 E.2.1 dX2_read_40 (by decide +kernel) ?_
            refine lv_icmp_ne (pc := 43) (tgt := 50) E.1 E.2.1 dX2_read_43 (by decide) (fun c_160 => ?_) (fun c_160 => ?_)
            · skip
              have hc_160 := neE (a := x_11.toInt) (b := 256) rfl (by decide +kernel) c_160
              refine lv_iconst (pc := 50) (v := 1) E.1 E.2.1 dX2_read_50 (by decide +kernel) ?_
              refine ck_v (pc := 51) (ws' := (fun (u : Int32 × Int32) => (WZ_LawT cI cJ ad mr (upd (upd (upd (upd (upd (upd (upd (upd (upd (upd (upd mi 2 x_15) 4 x_19) 7 x_16) 8 x_18) 9 x_17) 14 x_9) 15 x_11) 16 x_12) 17 x_10) 18 u.1) 19 u.2) (va_up (va_up (va_up mf 1 g_20) 3 g_22) 6 g_21) mg))) [false, false, false, false, false, true, true] hw30 rfl (fun hC_ => (rn_V (As := [.int 1]) (rest := []) E hw30 (t_refuse l D cI cJ _ (shf 10 mr) (shf 10 (upd (upd (upd (upd (upd (upd (upd (upd (upd (upd (upd mi 2 x_15) 4 x_19) 7 x_16) 8 x_18) 9 x_17) 14 x_9) 15 x_11) 16 x_12) 17 x_10) 18 x_13) 19 x_14)) (shf 10 (va_up (va_up (va_up mf 1 g_20) 3 g_22) 6 g_21)) (shf 10 mg) 1 ad (by show 1 ≤ (1 : Int32).toInt ∧ (1 : Int32).toInt ≤ 4; have k_0 : (1 : Int32).toInt = 1 := (by decide +kernel); omega) ⟨hi_22_2, hi_22_3⟩) (gdV q_856 q_857 q_858 q_160 q_859) hdV_X8_refuse ⟨rfl, rfl⟩ ⟨(Nat.le_of_ble_eq_true rfl), (Nat.le_of_ble_eq_true rfl)⟩ ⟨(Nat.le_of_ble_eq_true rfl), (Nat.le_of_ble_eq_true rfl)⟩ xT_b xT_at 5 8 rfl rfl rfl _ hC_ (nd_T _ 0) rfl hl25.1 rfl (Nat.le_of_ble_eq_true rfl) dX2_read_51)) rfl (fun _ => rfl) (fun _ => rfl) (fun u_161 H1 locs hp hw163 => ?_)
              obtain ⟨nfault_164, nfaultPlace_165⟩ := u_161
              generalize H1 = H at hw163 ⊢
              have hw166 : WD D A s.heap (WZ_LawT cI cJ ad mr (upd (upd (upd (upd (upd (upd (upd (upd (upd (upd (upd mi 2 x_15) 4 x_19) 7 x_16) 8 x_18) 9 x_17) 14 x_9) 15 x_11) 16 x_12) 17 x_10) 18 nfault_164) 19 nfaultPlace_165) (va_up (va_up (va_up mf 1 g_20) 3 g_22) 6 g_21) mg) H locs := hw163
              obtain ⟨hp_167, hp_168⟩ := hp
              have hp_167 : 1 ≤ nfault_164.toInt := hp_167
              have hp_168 : nfault_164.toInt ≤ 4 := hp_168
              exact em_v (w1 := (fun (u : Int32 × Int32 × Int32 × Int32 × Int32 × Int32 × (Nat → Int32) × Int32 × Int32 × Int32 × Int32 × (Nat → Int32) × (Nat → Int32) × Int32) => (WZ_LawT cI cJ ad mr (upd (upd (upd (upd (upd (upd (upd (upd (upd (upd (upd mi 14 u.1) 17 u.2.1) 15 u.2.2.1) 16 u.2.2.2.1) 18 u.2.2.2.2.1) 19 u.2.2.2.2.2.1) 2 u.2.2.2.2.2.2.2.1) 7 u.2.2.2.2.2.2.2.2.1) 9 u.2.2.2.2.2.2.2.2.2.1) 8 u.2.2.2.2.2.2.2.2.2.2.1) 4 u.2.2.2.2.2.2.2.2.2.2.2.2.2) (va_up (va_up (va_up mf 1 u.2.2.2.2.2.2.1) 6 u.2.2.2.2.2.2.2.2.2.2.2.1) 3 u.2.2.2.2.2.2.2.2.2.2.2.2.1) mg))) E hr hlk (x_9, x_10, x_11, x_12, nfault_164, nfaultPlace_165, g_20, x_15, x_16, x_17, x_18, g_21, g_22, x_19) hw166 ⟨hi_22_0, hi_22_1, (by show 0 ≤ nfault_164.toInt; omega), hp_168, hi_22_10⟩ (Nat.le_of_ble_eq_true rfl) (Nat.le_of_ble_eq_true rfl) dX2_read_54
            · skip
              have hc_160 := eqE (a := x_11.toInt) (b := 256) rfl (by decide +kernel) c_160
              refine lv_iconst (pc := 46) (v := 3) E.1 E.2.1 dX2_read_46 (by decide +kernel) ?_
              refine lv_goto (pc := 47) (tgt := 51) E.1 E.2.1 dX2_read_47 (by decide) ?_
              refine ck_v (pc := 51) (ws' := (fun (u : Int32 × Int32) => (WZ_LawT cI cJ ad mr (upd (upd (upd (upd (upd (upd (upd (upd (upd (upd (upd mi 2 x_15) 4 x_19) 7 x_16) 8 x_18) 9 x_17) 14 x_9) 15 x_11) 16 x_12) 17 x_10) 18 u.1) 19 u.2) (va_up (va_up (va_up mf 1 g_20) 3 g_22) 6 g_21) mg))) [false, false, false, false, false, true, true] hw30 rfl (fun hC_ => (rn_V (As := [.int 3]) (rest := []) E hw30 (t_refuse l D cI cJ _ (shf 10 mr) (shf 10 (upd (upd (upd (upd (upd (upd (upd (upd (upd (upd (upd mi 2 x_15) 4 x_19) 7 x_16) 8 x_18) 9 x_17) 14 x_9) 15 x_11) 16 x_12) 17 x_10) 18 x_13) 19 x_14)) (shf 10 (va_up (va_up (va_up mf 1 g_20) 3 g_22) 6 g_21)) (shf 10 mg) 3 ad (by show 1 ≤ (3 : Int32).toInt ∧ (3 : Int32).toInt ≤ 4; have k_0 : (3 : Int32).toInt = 3 := (by decide +kernel); omega) ⟨hi_22_2, hi_22_3⟩) (gdV q_856 q_857 q_858 q_160 q_859) hdV_X8_refuse ⟨rfl, rfl⟩ ⟨(Nat.le_of_ble_eq_true rfl), (Nat.le_of_ble_eq_true rfl)⟩ ⟨(Nat.le_of_ble_eq_true rfl), (Nat.le_of_ble_eq_true rfl)⟩ xT_b xT_at 5 8 rfl rfl rfl _ hC_ (nd_T _ 0) rfl hl25.1 rfl (Nat.le_of_ble_eq_true rfl) dX2_read_51)) rfl (fun _ => rfl) (fun _ => rfl) (fun u_169 H1 locs hp hw171 => ?_)
              obtain ⟨nfault_172, nfaultPlace_173⟩ := u_169
              generalize H1 = H at hw171 ⊢
              have hw174 : WD D A s.heap (WZ_LawT cI cJ ad mr (upd (upd (upd (upd (upd (upd (upd (upd (upd (upd (upd mi 2 x_15) 4 x_19) 7 x_16) 8 x_18) 9 x_17) 14 x_9) 15 x_11) 16 x_12) 17 x_10) 18 nfault_172) 19 nfaultPlace_173) (va_up (va_up (va_up mf 1 g_20) 3 g_22) 6 g_21) mg) H locs := hw171
              obtain ⟨hp_175, hp_176⟩ := hp
              have hp_175 : 1 ≤ nfault_172.toInt := hp_175
              have hp_176 : nfault_172.toInt ≤ 4 := hp_176
              exact em_v (w1 := (fun (u : Int32 × Int32 × Int32 × Int32 × Int32 × Int32 × (Nat → Int32) × Int32 × Int32 × Int32 × Int32 × (Nat → Int32) × (Nat → Int32) × Int32) => (WZ_LawT cI cJ ad mr (upd (upd (upd (upd (upd (upd (upd (upd (upd (upd (upd mi 14 u.1) 17 u.2.1) 15 u.2.2.1) 16 u.2.2.2.1) 18 u.2.2.2.2.1) 19 u.2.2.2.2.2.1) 2 u.2.2.2.2.2.2.2.1) 7 u.2.2.2.2.2.2.2.2.1) 9 u.2.2.2.2.2.2.2.2.2.1) 8 u.2.2.2.2.2.2.2.2.2.2.1) 4 u.2.2.2.2.2.2.2.2.2.2.2.2.2) (va_up (va_up (va_up mf 1 u.2.2.2.2.2.2.1) 6 u.2.2.2.2.2.2.2.2.2.2.2.1) 3 u.2.2.2.2.2.2.2.2.2.2.2.2.1) mg))) E hr hlk (x_9, x_10, x_11, x_12, nfault_172, nfaultPlace_173, g_20, x_15, x_16, x_17, x_18, g_21, g_22, x_19) hw174 ⟨hi_22_0, hi_22_1, (by show 0 ≤ nfault_172.toInt; omega), hp_176, hi_22_10⟩ (Nat.le_of_ble_eq_true rfl) (Nat.le_of_ble_eq_true rfl) dX2_read_54
        · skip
          have ha_34 : ¬ x_13.toInt = 0 := ha_34
          refine lv_if_eq (pc := 23) (tgt := 149) E.1 E.2.1 dX2_read_23 (by decide) (fun _ => ?_) (fun c_177 => absurd (meqE (a := 0) (b := 0) (by decide +kernel) (by decide +kernel) (by omega)) c_177)
          exact em_v (w1 := (fun (u : Int32 × Int32 × Int32 × Int32 × Int32 × Int32 × (Nat → Int32) × Int32 × Int32 × Int32 × Int32 × (Nat → Int32) × (Nat → Int32) × Int32) => (WZ_LawT cI cJ ad mr (upd (upd (upd (upd (upd (upd (upd (upd (upd (upd (upd mi 14 u.1) 17 u.2.1) 15 u.2.2.1) 16 u.2.2.2.1) 18 u.2.2.2.2.1) 19 u.2.2.2.2.2.1) 2 u.2.2.2.2.2.2.2.1) 7 u.2.2.2.2.2.2.2.2.1) 9 u.2.2.2.2.2.2.2.2.2.1) 8 u.2.2.2.2.2.2.2.2.2.2.1) 4 u.2.2.2.2.2.2.2.2.2.2.2.2.2) (va_up (va_up (va_up mf 1 u.2.2.2.2.2.2.1) 6 u.2.2.2.2.2.2.2.2.2.2.2.1) 3 u.2.2.2.2.2.2.2.2.2.2.2.2.1) mg))) E hr hlk (x_9, x_10, x_11, x_12, x_13, x_14, g_20, x_15, x_16, x_17, x_18, g_21, g_22, x_19) hw30 ⟨hi_22_0, hi_22_1, hi_22_2, hi_22_3, hi_22_10⟩ (Nat.le_of_ble_eq_true rfl) (Nat.le_of_ble_eq_true rfl) dX2_read_149
        · skip
          have ha_35 : x_11.toInt = 0 := ha_35
          refine lv_if_eq (pc := 23) (tgt := 149) E.1 E.2.1 dX2_read_23 (by decide) (fun _ => ?_) (fun c_178 => absurd (meqE (a := 0) (b := 0) (by decide +kernel) (by decide +kernel) (by omega)) c_178)
          exact em_v (w1 := (fun (u : Int32 × Int32 × Int32 × Int32 × Int32 × Int32 × (Nat → Int32) × Int32 × Int32 × Int32 × Int32 × (Nat → Int32) × (Nat → Int32) × Int32) => (WZ_LawT cI cJ ad mr (upd (upd (upd (upd (upd (upd (upd (upd (upd (upd (upd mi 14 u.1) 17 u.2.1) 15 u.2.2.1) 16 u.2.2.2.1) 18 u.2.2.2.2.1) 19 u.2.2.2.2.2.1) 2 u.2.2.2.2.2.2.2.1) 7 u.2.2.2.2.2.2.2.2.1) 9 u.2.2.2.2.2.2.2.2.2.1) 8 u.2.2.2.2.2.2.2.2.2.2.1) 4 u.2.2.2.2.2.2.2.2.2.2.2.2.2) (va_up (va_up (va_up mf 1 u.2.2.2.2.2.2.1) 6 u.2.2.2.2.2.2.2.2.2.2.2.1) 3 u.2.2.2.2.2.2.2.2.2.2.2.2.1) mg))) E hr hlk (x_9, x_10, x_11, x_12, x_13, x_14, g_20, x_15, x_16, x_17, x_18, g_21, g_22, x_19) hw30 ⟨hi_22_0, hi_22_1, hi_22_2, hi_22_3, hi_22_10⟩ (Nat.le_of_ble_eq_true rfl) (Nat.le_of_ble_eq_true rfl) dX2_read_149
  exact loop_7 (Int.toNat (401 - 0) + 1) 0 (mi 14) (mi 17) (mi 15) (mi 16) (mi 18) (mi 19) 0 (mi 7) (mi 9) (mi 8) 0 (mf 1) (mf 6) (mf 3) _ _ _ ⟨h1, h2, h4.1, h4.2, (by show 0 ≤ (0 : Int32).toInt; have k_0 : (0 : Int32).toInt = 0 := (by decide +kernel); omega), (by show (0 : Int32).toInt ≤ 400; have k_0 : (0 : Int32).toInt = 0 := (by decide +kernel); omega), (by show 0 ≤ (0 : Int32).toInt; have k_0 : (0 : Int32).toInt = 0 := (by decide +kernel); omega), (by show (0 : Int32).toInt ≤ 401; have k_0 : (0 : Int32).toInt = 0 := (by decide +kernel); omega), (by show 0 ≤ (0 : Int32).toInt; have k_0 : (0 : Int32).toInt = 0 := (by decide +kernel); omega), (by show (0 : Int32).toInt ≤ 16; have k_0 : (0 : Int32).toInt = 0 := (by decide +kernel); omega), a_marks⟩ (by have k_0 : (0 : Int32).toInt = 0 := (by decide +kernel); have k_7 : (0 : Int32).toInt = 0 := (by decide +kernel); have k_11 : (0 : Int32).toInt = 0 := (by decide +kernel); omega) hw5 (lv_sub hl6 [0, 1, 2] rfl)
