set_option maxHeartbeats 4000000 in
set_option maxRecDepth 100000 in
theorem s_typesU (l : Launch) (D : va_G) (cI cJ : ClassId) (sz M : Nat) (mr : Nat → Nat) (mi : Nat → Int32) (mf : Nat → Nat → Int32) (mg : Nat → Nat → Int64) (z_v : Int32) (h0 : 0 ≤ (mi 21).toInt ∧ (mi 21).toInt ≤ 396) (a_tape : b255 (mf 20)) : Met l yX12_types (Cond.code yX12_types cX12_types 3 none :: GW) ({ frames := 1, cells := 0, slots := 0, locals := 40 } : Room) (va_Pc [.ref M, .int z_v] (PW D cI cJ sz (MW cI cJ M mr mi mf mg) xT)) (va_Qv (fun (u : (Nat → Int32) × Int32) => (u.2.toInt = (mi 21).toInt + 4) ∧ (b255 u.1) ∧ (u.1 = APn (mf 20) ((mi 21).toInt).toNat z_v 4)) (fun u => QW D cI cJ (va_A (MW cI cJ M mr mi mf mg) sz) ((fun (u : (Nat → Int32) × Int32) => (MW cI cJ M mr (upd mi 21 u.2) (va_up mf 20 u.1) mg)) u)) (va_A (MW cI cJ M mr mi mf mg) sz)) 0 0 (va_A (MW cI cJ M mr mi mf mg) sz) := by
  refine mk_met (y := yX12_types) (bytes := cX12_types) (maxL := 3) (avs := [.ref M, .int z_v]) (WS := (MW cI cJ M mr mi mf mg)) (Qf := fun A => va_Qv (fun (u : (Nat → Int32) × Int32) => (u.2.toInt = (mi 21).toInt + 4) ∧ (b255 u.1) ∧ (u.1 = APn (mf 20) ((mi 21).toInt).toNat z_v 4)) (fun u => QW D cI cJ A ((fun (u : (Nat → Int32) × Int32) => (MW cI cJ M mr (upd mi 21 u.2) (va_up mf 20 u.1) mg)) u)) A) (by decide) (Nat.le_of_ble_eq_true rfl) ?_
  intro p e s m below meth c A ls E hr hlk hnm hX hw1 hl2
  have hl3 : lv_has ls 3 [(0, .ref M), (1, .int z_v)] := hl2
  refine lv_bipush (pc := 0) (v := 24) E.1 E.2.1 dX12_types_0 (by decide +kernel) ?_
  refine lv_istore_n (pc := 2) (lv' := [(2, .int 24), (0, .ref M), (1, .int z_v)]) E.1 E.2.1 dX12_types_2 rfl hl3 (by decide) rfl (fun ls hl4 => ?_)
  refine lv_iload_n (pc := 3) E.1 E.2.1 dX12_types_3 rfl (lv_at hl4 0 rfl) ?_
  refine lv_if_lt (pc := 4) (tgt := 39) E.1 E.2.1 dX12_types_4 (by decide) (fun c_5 => absurd c_5 (mnltE (a := 24) (b := 0) (by decide +kernel) (by decide +kernel) (by omega))) (fun _ => ?_)
  refine lv_aload_n (pc := 7) E.1 E.2.1 dX12_types_7 rfl (lv_at hl4 1 rfl) ?_
  refine x_get (pc := 8) (T := TX12) (N := 70) (ci := 12) (v := .ref (mr 20)) E hw1 inX12 0 20 q_1419 rfl rfl (by decide) rfl rfl dX12_types_8 ?_
  refine lv_aload_n (pc := 11) E.1 E.2.1 dX12_types_11 rfl (lv_at hl4 1 rfl) ?_
  refine x_get (pc := 12) (T := TX12) (N := 70) (ci := 12) (v := .int (mi 21)) E hw1 inX12 0 21 q_1420 rfl rfl (by decide) rfl rfl dX12_types_12 ?_
  refine lv_iload_n (pc := 15) E.1 E.2.1 dX12_types_15 rfl (lv_at hl4 2 rfl) ?_
  refine lv_iload_n (pc := 16) E.1 E.2.1 dX12_types_16 rfl (lv_at hl4 0 rfl) ?_
  refine lv_ishr (pc := 17) E.1 E.2.1 dX12_types_17 ?_
  refine lv_topi (fun v_6 ev_6 => ?_)
  refine lv_sipush (pc := 18) (v := 255) E.1 E.2.1 dX12_types_18 (by decide +kernel) ?_
  refine lv_iand (pc := 21) E.1 E.2.1 dX12_types_21 ?_
  refine lv_topi (fun v_7 ev_7 => ?_)
  have hbv_7 := and255 ev_7
  refine x_iastG (pc := 22) (f := (mf 20)) (wf := fun g => (MW cI cJ M mr mi (va_up mf 20 g) mg)) E hw1 12 rfl (inbE (a := (mi 21).toInt) rfl (by omega)) (fun _ => rfl) dX12_types_22 (fun g_8 H locs eg_8 hw9 => ?_)
  have ha_10 : allR 400 (0) 255 g_8 := allR_upd a_tape eg_8 (by omega)
  refine lv_aload_n (pc := 23) E.1 E.2.1 dX12_types_23 rfl (lv_at hl4 1 rfl) ?_
  refine lv_aload_n (pc := 24) E.1 E.2.1 dX12_types_24 rfl (lv_at hl4 1 rfl) ?_
  refine x_get (pc := 25) (T := TX12) (N := 70) (ci := 12) (v := .int (mi 21)) E hw9 inX12 0 21 q_1420 rfl rfl (by decide) rfl rfl dX12_types_25 ?_
  refine lv_iconst (pc := 28) (v := 1) E.1 E.2.1 dX12_types_28 (by decide +kernel) ?_
  refine lv_iadd (pc := 29) E.1 E.2.1 dX12_types_29 ?_
  refine lv_topi (fun v_11 ev_11 => ?_)
  have hv_11 : v_11.toInt = (mi 21).toInt + 1 := by rw [ev_11]; exact addE rfl (by decide +kernel) (by omega)
  refine x_put (pc := 30) (T := TX12) (N := 70) (ci := 12) (ws' := (MW cI cJ M mr (upd mi 21 v_11) (va_up mf 20 g_8) mg)) E hw9 inX12 tyX12_ok nmX12 0 21 q_1420 rfl rfl (by decide) rfl rfl rfl rfl (Nat.le_of_ble_eq_true rfl) rfl dX12_types_30 (fun H locs hw12 => ?_)
  refine lv_iinc (pc := 33) (v := 16) (lv' := [(2, .int 16), (0, .ref M), (1, .int z_v)]) E.1 E.2.1 dX12_types_33 hl4 (k := 0) rfl (by decide +kernel) (by decide) rfl (fun ls hl13 => ?_)
  refine lv_goto (pc := 36) (tgt := 3) E.1 E.2.1 dX12_types_36 (by decide) ?_
  refine lv_iload_n (pc := 3) E.1 E.2.1 dX12_types_3 rfl (lv_at hl13 0 rfl) ?_
  refine lv_if_lt (pc := 4) (tgt := 39) E.1 E.2.1 dX12_types_4 (by decide) (fun c_14 => absurd c_14 (mnltE (a := 16) (b := 0) (by decide +kernel) (by decide +kernel) (by omega))) (fun _ => ?_)
  refine lv_aload_n (pc := 7) E.1 E.2.1 dX12_types_7 rfl (lv_at hl13 1 rfl) ?_
  refine x_get (pc := 8) (T := TX12) (N := 70) (ci := 12) (v := .ref (mr 20)) E hw12 inX12 0 20 q_1419 rfl rfl (by decide) rfl rfl dX12_types_8 ?_
  refine lv_aload_n (pc := 11) E.1 E.2.1 dX12_types_11 rfl (lv_at hl13 1 rfl) ?_
  refine x_get (pc := 12) (T := TX12) (N := 70) (ci := 12) (v := .int v_11) E hw12 inX12 0 21 q_1420 rfl rfl (by decide) rfl rfl dX12_types_12 ?_
  refine lv_iload_n (pc := 15) E.1 E.2.1 dX12_types_15 rfl (lv_at hl13 2 rfl) ?_
  refine lv_iload_n (pc := 16) E.1 E.2.1 dX12_types_16 rfl (lv_at hl13 0 rfl) ?_
  refine lv_ishr (pc := 17) E.1 E.2.1 dX12_types_17 ?_
  refine lv_topi (fun v_15 ev_15 => ?_)
  refine lv_sipush (pc := 18) (v := 255) E.1 E.2.1 dX12_types_18 (by decide +kernel) ?_
  refine lv_iand (pc := 21) E.1 E.2.1 dX12_types_21 ?_
  refine lv_topi (fun v_16 ev_16 => ?_)
  have hbv_16 := and255 ev_16
  refine x_iastG (pc := 22) (f := g_8) (wf := fun g => (MW cI cJ M mr (upd mi 21 v_11) (va_up mf 20 g) mg)) E hw12 12 rfl (inbE (a := v_11.toInt) rfl (by omega)) (fun _ => rfl) dX12_types_22 (fun g_17 H locs eg_17 hw18 => ?_)
  have ha_19 : allR 400 (0) 255 g_17 := allR_upd ha_10 eg_17 (by omega)
  refine lv_aload_n (pc := 23) E.1 E.2.1 dX12_types_23 rfl (lv_at hl13 1 rfl) ?_
  refine lv_aload_n (pc := 24) E.1 E.2.1 dX12_types_24 rfl (lv_at hl13 1 rfl) ?_
  refine x_get (pc := 25) (T := TX12) (N := 70) (ci := 12) (v := .int v_11) E hw18 inX12 0 21 q_1420 rfl rfl (by decide) rfl rfl dX12_types_25 ?_
  refine lv_iconst (pc := 28) (v := 1) E.1 E.2.1 dX12_types_28 (by decide +kernel) ?_
  refine lv_iadd (pc := 29) E.1 E.2.1 dX12_types_29 ?_
  refine lv_topi (fun v_20 ev_20 => ?_)
  have hv_20 : v_20.toInt = v_11.toInt + 1 := by rw [ev_20]; exact addE rfl (by decide +kernel) (by omega)
  refine x_put (pc := 30) (T := TX12) (N := 70) (ci := 12) (ws' := (MW cI cJ M mr (upd mi 21 v_20) (va_up mf 20 g_17) mg)) E hw18 inX12 tyX12_ok nmX12 0 21 q_1420 rfl rfl (by decide) rfl rfl rfl rfl (Nat.le_of_ble_eq_true rfl) rfl dX12_types_30 (fun H locs hw21 => ?_)
  refine lv_iinc (pc := 33) (v := 8) (lv' := [(2, .int 8), (0, .ref M), (1, .int z_v)]) E.1 E.2.1 dX12_types_33 hl13 (k := 0) rfl (by decide +kernel) (by decide) rfl (fun ls hl22 => ?_)
  refine lv_goto (pc := 36) (tgt := 3) E.1 E.2.1 dX12_types_36 (by decide) ?_
  refine lv_iload_n (pc := 3) E.1 E.2.1 dX12_types_3 rfl (lv_at hl22 0 rfl) ?_
  refine lv_if_lt (pc := 4) (tgt := 39) E.1 E.2.1 dX12_types_4 (by decide) (fun c_23 => absurd c_23 (mnltE (a := 8) (b := 0) (by decide +kernel) (by decide +kernel) (by omega))) (fun _ => ?_)
  refine lv_aload_n (pc := 7) E.1 E.2.1 dX12_types_7 rfl (lv_at hl22 1 rfl) ?_
  refine x_get (pc := 8) (T := TX12) (N := 70) (ci := 12) (v := .ref (mr 20)) E hw21 inX12 0 20 q_1419 rfl rfl (by decide) rfl rfl dX12_types_8 ?_
  refine lv_aload_n (pc := 11) E.1 E.2.1 dX12_types_11 rfl (lv_at hl22 1 rfl) ?_
  refine x_get (pc := 12) (T := TX12) (N := 70) (ci := 12) (v := .int v_20) E hw21 inX12 0 21 q_1420 rfl rfl (by decide) rfl rfl dX12_types_12 ?_
  refine lv_iload_n (pc := 15) E.1 E.2.1 dX12_types_15 rfl (lv_at hl22 2 rfl) ?_
  refine lv_iload_n (pc := 16) E.1 E.2.1 dX12_types_16 rfl (lv_at hl22 0 rfl) ?_
  refine lv_ishr (pc := 17) E.1 E.2.1 dX12_types_17 ?_
  refine lv_topi (fun v_24 ev_24 => ?_)
  refine lv_sipush (pc := 18) (v := 255) E.1 E.2.1 dX12_types_18 (by decide +kernel) ?_
  refine lv_iand (pc := 21) E.1 E.2.1 dX12_types_21 ?_
  refine lv_topi (fun v_25 ev_25 => ?_)
  have hbv_25 := and255 ev_25
  refine x_iastG (pc := 22) (f := g_17) (wf := fun g => (MW cI cJ M mr (upd mi 21 v_20) (va_up mf 20 g) mg)) E hw21 12 rfl (inbE (a := v_20.toInt) rfl (by omega)) (fun _ => rfl) dX12_types_22 (fun g_26 H locs eg_26 hw27 => ?_)
  have ha_28 : allR 400 (0) 255 g_26 := allR_upd ha_19 eg_26 (by omega)
  refine lv_aload_n (pc := 23) E.1 E.2.1 dX12_types_23 rfl (lv_at hl22 1 rfl) ?_
  refine lv_aload_n (pc := 24) E.1 E.2.1 dX12_types_24 rfl (lv_at hl22 1 rfl) ?_
  refine x_get (pc := 25) (T := TX12) (N := 70) (ci := 12) (v := .int v_20) E hw27 inX12 0 21 q_1420 rfl rfl (by decide) rfl rfl dX12_types_25 ?_
  refine lv_iconst (pc := 28) (v := 1) E.1 E.2.1 dX12_types_28 (by decide +kernel) ?_
  refine lv_iadd (pc := 29) E.1 E.2.1 dX12_types_29 ?_
  refine lv_topi (fun v_29 ev_29 => ?_)
  have hv_29 : v_29.toInt = v_20.toInt + 1 := by rw [ev_29]; exact addE rfl (by decide +kernel) (by omega)
  refine x_put (pc := 30) (T := TX12) (N := 70) (ci := 12) (ws' := (MW cI cJ M mr (upd mi 21 v_29) (va_up mf 20 g_26) mg)) E hw27 inX12 tyX12_ok nmX12 0 21 q_1420 rfl rfl (by decide) rfl rfl rfl rfl (Nat.le_of_ble_eq_true rfl) rfl dX12_types_30 (fun H locs hw30 => ?_)
  refine lv_iinc (pc := 33) (v := 0) (lv' := [(2, .int 0), (0, .ref M), (1, .int z_v)]) E.1 E.2.1 dX12_types_33 hl22 (k := 0) rfl (by decide +kernel) (by decide) rfl (fun ls hl31 => ?_)
  refine lv_goto (pc := 36) (tgt := 3) E.1 E.2.1 dX12_types_36 (by decide) ?_
  refine lv_iload_n (pc := 3) E.1 E.2.1 dX12_types_3 rfl (lv_at hl31 0 rfl) ?_
  refine lv_if_lt (pc := 4) (tgt := 39) E.1 E.2.1 dX12_types_4 (by decide) (fun c_32 => absurd c_32 (mnltE (a := 0) (b := 0) (by decide +kernel) (by decide +kernel) (by omega))) (fun _ => ?_)
  refine lv_aload_n (pc := 7) E.1 E.2.1 dX12_types_7 rfl (lv_at hl31 1 rfl) ?_
  refine x_get (pc := 8) (T := TX12) (N := 70) (ci := 12) (v := .ref (mr 20)) E hw30 inX12 0 20 q_1419 rfl rfl (by decide) rfl rfl dX12_types_8 ?_
  refine lv_aload_n (pc := 11) E.1 E.2.1 dX12_types_11 rfl (lv_at hl31 1 rfl) ?_
  refine x_get (pc := 12) (T := TX12) (N := 70) (ci := 12) (v := .int v_29) E hw30 inX12 0 21 q_1420 rfl rfl (by decide) rfl rfl dX12_types_12 ?_
  refine lv_iload_n (pc := 15) E.1 E.2.1 dX12_types_15 rfl (lv_at hl31 2 rfl) ?_
  refine lv_iload_n (pc := 16) E.1 E.2.1 dX12_types_16 rfl (lv_at hl31 0 rfl) ?_
  refine lv_ishr (pc := 17) E.1 E.2.1 dX12_types_17 ?_
  refine lv_topi (fun v_33 ev_33 => ?_)
  refine lv_sipush (pc := 18) (v := 255) E.1 E.2.1 dX12_types_18 (by decide +kernel) ?_
  refine lv_iand (pc := 21) E.1 E.2.1 dX12_types_21 ?_
  refine lv_topi (fun v_34 ev_34 => ?_)
  have hbv_34 := and255 ev_34
  refine x_iastG (pc := 22) (f := g_26) (wf := fun g => (MW cI cJ M mr (upd mi 21 v_29) (va_up mf 20 g) mg)) E hw30 12 rfl (inbE (a := v_29.toInt) rfl (by omega)) (fun _ => rfl) dX12_types_22 (fun g_35 H locs eg_35 hw36 => ?_)
  have ha_37 : allR 400 (0) 255 g_35 := allR_upd ha_28 eg_35 (by omega)
  refine lv_aload_n (pc := 23) E.1 E.2.1 dX12_types_23 rfl (lv_at hl31 1 rfl) ?_
  refine lv_aload_n (pc := 24) E.1 E.2.1 dX12_types_24 rfl (lv_at hl31 1 rfl) ?_
  refine x_get (pc := 25) (T := TX12) (N := 70) (ci := 12) (v := .int v_29) E hw36 inX12 0 21 q_1420 rfl rfl (by decide) rfl rfl dX12_types_25 ?_
  refine lv_iconst (pc := 28) (v := 1) E.1 E.2.1 dX12_types_28 (by decide +kernel) ?_
  refine lv_iadd (pc := 29) E.1 E.2.1 dX12_types_29 ?_
  refine lv_topi (fun v_38 ev_38 => ?_)
  have hv_38 : v_38.toInt = v_29.toInt + 1 := by rw [ev_38]; exact addE rfl (by decide +kernel) (by omega)
  refine x_put (pc := 30) (T := TX12) (N := 70) (ci := 12) (ws' := (MW cI cJ M mr (upd mi 21 v_38) (va_up mf 20 g_35) mg)) E hw36 inX12 tyX12_ok nmX12 0 21 q_1420 rfl rfl (by decide) rfl rfl rfl rfl (Nat.le_of_ble_eq_true rfl) rfl dX12_types_30 (fun H locs hw39 => ?_)
  refine lv_iinc (pc := 33) (v := (-8)) (lv' := [(2, .int (-8)), (0, .ref M), (1, .int z_v)]) E.1 E.2.1 dX12_types_33 hl31 (k := 0) rfl (by decide +kernel) (by decide) rfl (fun ls hl40 => ?_)
  refine lv_goto (pc := 36) (tgt := 3) E.1 E.2.1 dX12_types_36 (by decide) ?_
  refine lv_iload_n (pc := 3) E.1 E.2.1 dX12_types_3 rfl (lv_at hl40 0 rfl) ?_
  refine lv_if_lt (pc := 4) (tgt := 39) E.1 E.2.1 dX12_types_4 (by decide) (fun _ => ?_) (fun c_41 => absurd (mltE (a := (-8)) (b := 0) (by decide +kernel) (by decide +kernel) (by omega)) c_41)
  exact em_v (w1 := (fun (u : (Nat → Int32) × Int32) => (MW cI cJ M mr (upd mi 21 u.2) (va_up mf 20 u.1) mg))) E hr hlk (g_35, v_38) hw39 ⟨(by show v_38.toInt = (mi 21).toInt + 4; omega), ha_37, (show g_35 = APn (mf 20) ((mi 21).toInt).toNat z_v 4 from (APn_st (APn_st (APn_st (APn_st (APn_0 rfl) eg_8 (by omega) (byt_r ev_6 ev_7 (by first | exact Or.inl ⟨rfl, rfl⟩ | exact Or.inr (Or.inl ⟨rfl, rfl⟩) | exact Or.inr (Or.inr (Or.inl ⟨rfl, rfl⟩)) | exact Or.inr (Or.inr (Or.inr ⟨rfl, rfl⟩)))) (k := 0) rfl) eg_17 (by omega) (byt_r ev_15 ev_16 (by first | exact Or.inl ⟨rfl, rfl⟩ | exact Or.inr (Or.inl ⟨rfl, rfl⟩) | exact Or.inr (Or.inr (Or.inl ⟨rfl, rfl⟩)) | exact Or.inr (Or.inr (Or.inr ⟨rfl, rfl⟩)))) (k := 1) rfl) eg_26 (by omega) (byt_r ev_24 ev_25 (by first | exact Or.inl ⟨rfl, rfl⟩ | exact Or.inr (Or.inl ⟨rfl, rfl⟩) | exact Or.inr (Or.inr (Or.inl ⟨rfl, rfl⟩)) | exact Or.inr (Or.inr (Or.inr ⟨rfl, rfl⟩)))) (k := 2) rfl) eg_35 (by omega) (byt_r ev_33 ev_34 (by first | exact Or.inl ⟨rfl, rfl⟩ | exact Or.inr (Or.inl ⟨rfl, rfl⟩) | exact Or.inr (Or.inr (Or.inl ⟨rfl, rfl⟩)) | exact Or.inr (Or.inr (Or.inr ⟨rfl, rfl⟩)))) (k := 3) rfl))⟩ (Nat.le_of_ble_eq_true rfl) (Nat.le_of_ble_eq_true rfl) dX12_types_39

set_option maxHeartbeats 4000000 in
set_option maxRecDepth 100000 in
theorem s_feedU (l : Launch) (D : va_G) (cI cJ : ClassId) (sz M : Nat) (mr : Nat → Nat) (mi : Nat → Int32) (mf : Nat → Nat → Int32) (mg : Nat → Nat → Int64) (z_a : Int32) (z_b : Int32) (z_c : Int32) (z_d : Int32) (z_e : Int32) (h0 : 0 ≤ (mi 21).toInt ∧ (mi 21).toInt ≤ 400) (a_tape : b255 (mf 20)) : Met l yX12_feed (Cond.code yX12_feed cX12_feed 6 (some .int) :: GW) ({ frames := 2, cells := 0, slots := 0, locals := 62 } : Room) (va_Pc [.ref M, .int z_a, .int z_b, .int z_c, .int z_d, .int z_e] (PW D cI cJ sz (MW cI cJ M mr mi mf mg) xT)) (va_Qi (fun (r : Int32) (u : Int32 × (Nat → Int32) × Int32) => (0 ≤ u.2.2.toInt ∧ u.2.2.toInt ≤ 400) ∧ (b255 u.2.1) ∧ ((((mi 21).toInt ≤ 380 ∧ u.2.1 = FD (mf 20) ((mi 21).toInt).toNat z_a z_b z_c z_d z_e) ∨ (381 ≤ (mi 21).toInt ∧ u.2.1 = (mf 20)))) ∧ ((r = (-1) ∧ 381 ≤ (mi 21).toInt ∧ u.2.2.toInt = (mi 21).toInt) ∨ ((mi 21).toInt ≤ 380 ∧ u.2.2.toInt = (mi 21).toInt + 20 ∧ r.toInt = (mi 21).toInt + 20))) (fun u => QW D cI cJ (va_A (MW cI cJ M mr mi mf mg) sz) ((fun (u : Int32 × (Nat → Int32) × Int32) => (MW cI cJ M mr (upd (upd mi 0 u.1) 21 u.2.2) (va_up mf 20 u.2.1) mg)) u)) (va_A (MW cI cJ M mr mi mf mg) sz)) 0 0 (va_A (MW cI cJ M mr mi mf mg) sz) := by
  refine mk_met (y := yX12_feed) (bytes := cX12_feed) (maxL := 6) (avs := [.ref M, .int z_a, .int z_b, .int z_c, .int z_d, .int z_e]) (WS := (MW cI cJ M mr mi mf mg)) (Qf := fun A => va_Qi (fun (r : Int32) (u : Int32 × (Nat → Int32) × Int32) => (0 ≤ u.2.2.toInt ∧ u.2.2.toInt ≤ 400) ∧ (b255 u.2.1) ∧ ((((mi 21).toInt ≤ 380 ∧ u.2.1 = FD (mf 20) ((mi 21).toInt).toNat z_a z_b z_c z_d z_e) ∨ (381 ≤ (mi 21).toInt ∧ u.2.1 = (mf 20)))) ∧ ((r = (-1) ∧ 381 ≤ (mi 21).toInt ∧ u.2.2.toInt = (mi 21).toInt) ∨ ((mi 21).toInt ≤ 380 ∧ u.2.2.toInt = (mi 21).toInt + 20 ∧ r.toInt = (mi 21).toInt + 20))) (fun u => QW D cI cJ A ((fun (u : Int32 × (Nat → Int32) × Int32) => (MW cI cJ M mr (upd (upd mi 0 u.1) 21 u.2.2) (va_up mf 20 u.2.1) mg)) u)) A) (by decide) (Nat.le_of_ble_eq_true rfl) ?_
  intro p e s m below meth c A ls E hr hlk hnm hX hw1 hl2
  have hl3 : lv_has ls 6 [(0, .ref M), (1, .int z_a), (2, .int z_b), (3, .int z_c), (4, .int z_d), (5, .int z_e)] := hl2
  refine lv_aload_n (pc := 0) E.1 E.2.1 dX12_feed_0 rfl (lv_at hl3 0 rfl) ?_
  refine lv_iconst (pc := 1) (v := 0) E.1 E.2.1 dX12_feed_1 (by decide +kernel) ?_
  refine x_put (pc := 2) (T := TX12) (N := 70) (ci := 12) (ws' := (MW cI cJ M mr (upd mi 0 0) mf mg)) E hw1 inX12 tyX12_ok nmX12 0 0 q_1399 rfl rfl (by decide) rfl rfl rfl rfl (Nat.le_of_ble_eq_true rfl) rfl dX12_feed_2 (fun H locs hw4 => ?_)
  refine lv_aload_n (pc := 5) E.1 E.2.1 dX12_feed_5 rfl (lv_at hl3 0 rfl) ?_
  refine x_get (pc := 6) (T := TX12) (N := 70) (ci := 12) (v := .int (mi 21)) E hw4 inX12 0 21 q_1420 rfl rfl (by decide) rfl rfl dX12_feed_6 ?_
  refine lv_sipush (pc := 9) (v := 380) E.1 E.2.1 dX12_feed_9 (by decide +kernel) ?_
  refine lv_icmp_le (pc := 12) (tgt := 17) E.1 E.2.1 dX12_feed_12 (by decide) (fun c_5 => ?_) (fun c_5 => ?_)
  · skip
    have hc_5 := leE (a := (mi 21).toInt) (b := 380) rfl (by decide +kernel) c_5
    refine lv_aload_n (pc := 17) E.1 E.2.1 dX12_feed_17 rfl (lv_at hl3 0 rfl) ?_
    refine lv_iload_n (pc := 18) E.1 E.2.1 dX12_feed_18 rfl (lv_at hl3 1 rfl) ?_
    refine cm_v (pc := 19) hw4 (rn_M (As := [.int z_a]) (rest := []) E hw4 (s_typesU l D cI cJ _ M mr (upd mi 0 0) mf mg z_a (by show 0 ≤ (mi 21).toInt ∧ (mi 21).toInt ≤ 396; omega) a_tape) (gdV q_1650 q_1652 q_50 q_162 q_1653) hdV_X12_types ⟨rfl, rfl⟩ ⟨(Nat.le_of_ble_eq_true rfl), (Nat.le_of_ble_eq_true rfl)⟩ ⟨(Nat.le_of_ble_eq_true rfl), (Nat.le_of_ble_eq_true rfl)⟩ 12 rfl rfl rfl rfl hl3.1 rfl (Nat.le_of_ble_eq_true rfl) dX12_feed_19) (fun u_6 H1 locs hp hw8 => ?_)
    obtain ⟨gtape_9, ntaped_10⟩ := u_6
    generalize H1 = H at hw8 ⊢
    have hw11 : WD D A s.heap (MW cI cJ M mr (upd (upd mi 0 0) 21 ntaped_10) (va_up mf 20 gtape_9) mg) H locs := hw8
    obtain ⟨hp_12, hp_13, hp_14⟩ := hp
    have hp_12 : ntaped_10.toInt = (mi 21).toInt + 4 := hp_12
    have hp_14 : gtape_9 = APn (mf 20) ((mi 21).toInt).toNat z_a 4 := hp_14
    refine lv_aload_n (pc := 22) E.1 E.2.1 dX12_feed_22 rfl (lv_at hl3 0 rfl) ?_
    refine lv_iload_n (pc := 23) E.1 E.2.1 dX12_feed_23 rfl (lv_at hl3 2 rfl) ?_
    refine cm_v (pc := 24) hw11 (rn_M (As := [.int z_b]) (rest := []) E hw11 (s_typesU l D cI cJ _ M mr (upd (upd mi 0 0) 21 ntaped_10) (va_up mf 20 gtape_9) mg z_b (by show 0 ≤ ntaped_10.toInt ∧ ntaped_10.toInt ≤ 396; omega) hp_13) (gdV q_1650 q_1652 q_50 q_162 q_1653) hdV_X12_types ⟨rfl, rfl⟩ ⟨(Nat.le_of_ble_eq_true rfl), (Nat.le_of_ble_eq_true rfl)⟩ ⟨(Nat.le_of_ble_eq_true rfl), (Nat.le_of_ble_eq_true rfl)⟩ 12 rfl rfl rfl rfl hl3.1 rfl (Nat.le_of_ble_eq_true rfl) dX12_feed_24) (fun u_15 H1 locs hp hw17 => ?_)
    obtain ⟨gtape_18, ntaped_19⟩ := u_15
    generalize H1 = H at hw17 ⊢
    have hw20 : WD D A s.heap (MW cI cJ M mr (upd (upd mi 0 0) 21 ntaped_19) (va_up mf 20 gtape_18) mg) H locs := hw17
    obtain ⟨hp_21, hp_22, hp_23⟩ := hp
    have hp_21 : ntaped_19.toInt = ntaped_10.toInt + 4 := hp_21
    have hp_23 : gtape_18 = APn gtape_9 (ntaped_10.toInt).toNat z_b 4 := hp_23
    refine lv_aload_n (pc := 27) E.1 E.2.1 dX12_feed_27 rfl (lv_at hl3 0 rfl) ?_
    refine lv_iload_n (pc := 28) E.1 E.2.1 dX12_feed_28 rfl (lv_at hl3 3 rfl) ?_
    refine cm_v (pc := 29) hw20 (rn_M (As := [.int z_c]) (rest := []) E hw20 (s_typesU l D cI cJ _ M mr (upd (upd mi 0 0) 21 ntaped_19) (va_up mf 20 gtape_18) mg z_c (by show 0 ≤ ntaped_19.toInt ∧ ntaped_19.toInt ≤ 396; omega) hp_22) (gdV q_1650 q_1652 q_50 q_162 q_1653) hdV_X12_types ⟨rfl, rfl⟩ ⟨(Nat.le_of_ble_eq_true rfl), (Nat.le_of_ble_eq_true rfl)⟩ ⟨(Nat.le_of_ble_eq_true rfl), (Nat.le_of_ble_eq_true rfl)⟩ 12 rfl rfl rfl rfl hl3.1 rfl (Nat.le_of_ble_eq_true rfl) dX12_feed_29) (fun u_24 H1 locs hp hw26 => ?_)
    obtain ⟨gtape_27, ntaped_28⟩ := u_24
    generalize H1 = H at hw26 ⊢
    have hw29 : WD D A s.heap (MW cI cJ M mr (upd (upd mi 0 0) 21 ntaped_28) (va_up mf 20 gtape_27) mg) H locs := hw26
    obtain ⟨hp_30, hp_31, hp_32⟩ := hp
    have hp_30 : ntaped_28.toInt = ntaped_19.toInt + 4 := hp_30
    have hp_32 : gtape_27 = APn gtape_18 (ntaped_19.toInt).toNat z_c 4 := hp_32
    refine lv_aload_n (pc := 32) E.1 E.2.1 dX12_feed_32 rfl (lv_at hl3 0 rfl) ?_
    refine lv_iload (pc := 33) E.1 E.2.1 dX12_feed_33 (lv_at hl3 4 rfl) ?_
    refine cm_v (pc := 35) hw29 (rn_M (As := [.int z_d]) (rest := []) E hw29 (s_typesU l D cI cJ _ M mr (upd (upd mi 0 0) 21 ntaped_28) (va_up mf 20 gtape_27) mg z_d (by show 0 ≤ ntaped_28.toInt ∧ ntaped_28.toInt ≤ 396; omega) hp_31) (gdV q_1650 q_1652 q_50 q_162 q_1653) hdV_X12_types ⟨rfl, rfl⟩ ⟨(Nat.le_of_ble_eq_true rfl), (Nat.le_of_ble_eq_true rfl)⟩ ⟨(Nat.le_of_ble_eq_true rfl), (Nat.le_of_ble_eq_true rfl)⟩ 12 rfl rfl rfl rfl hl3.1 rfl (Nat.le_of_ble_eq_true rfl) dX12_feed_35) (fun u_33 H1 locs hp hw35 => ?_)
    obtain ⟨gtape_36, ntaped_37⟩ := u_33
    generalize H1 = H at hw35 ⊢
    have hw38 : WD D A s.heap (MW cI cJ M mr (upd (upd mi 0 0) 21 ntaped_37) (va_up mf 20 gtape_36) mg) H locs := hw35
    obtain ⟨hp_39, hp_40, hp_41⟩ := hp
    have hp_39 : ntaped_37.toInt = ntaped_28.toInt + 4 := hp_39
    have hp_41 : gtape_36 = APn gtape_27 (ntaped_28.toInt).toNat z_d 4 := hp_41
    refine lv_aload_n (pc := 38) E.1 E.2.1 dX12_feed_38 rfl (lv_at hl3 0 rfl) ?_
    refine lv_iload (pc := 39) E.1 E.2.1 dX12_feed_39 (lv_at hl3 5 rfl) ?_
    refine cm_v (pc := 41) hw38 (rn_M (As := [.int z_e]) (rest := []) E hw38 (s_typesU l D cI cJ _ M mr (upd (upd mi 0 0) 21 ntaped_37) (va_up mf 20 gtape_36) mg z_e (by show 0 ≤ ntaped_37.toInt ∧ ntaped_37.toInt ≤ 396; omega) hp_40) (gdV q_1650 q_1652 q_50 q_162 q_1653) hdV_X12_types ⟨rfl, rfl⟩ ⟨(Nat.le_of_ble_eq_true rfl), (Nat.le_of_ble_eq_true rfl)⟩ ⟨(Nat.le_of_ble_eq_true rfl), (Nat.le_of_ble_eq_true rfl)⟩ 12 rfl rfl rfl rfl hl3.1 rfl (Nat.le_of_ble_eq_true rfl) dX12_feed_41) (fun u_42 H1 locs hp hw44 => ?_)
    obtain ⟨gtape_45, ntaped_46⟩ := u_42
    generalize H1 = H at hw44 ⊢
    have hw47 : WD D A s.heap (MW cI cJ M mr (upd (upd mi 0 0) 21 ntaped_46) (va_up mf 20 gtape_45) mg) H locs := hw44
    obtain ⟨hp_48, hp_49, hp_50⟩ := hp
    have hp_48 : ntaped_46.toInt = ntaped_37.toInt + 4 := hp_48
    have hp_50 : gtape_45 = APn gtape_36 (ntaped_37.toInt).toNat z_e 4 := hp_50
    refine lv_aload_n (pc := 44) E.1 E.2.1 dX12_feed_44 rfl (lv_at hl3 0 rfl) ?_
    refine x_get (pc := 45) (T := TX12) (N := 70) (ci := 12) (v := .int ntaped_46) E hw47 inX12 0 21 q_1420 rfl rfl (by decide) rfl rfl dX12_feed_45 ?_
    exact em_i (w1 := (fun (u : Int32 × (Nat → Int32) × Int32) => (MW cI cJ M mr (upd (upd mi 0 u.1) 21 u.2.2) (va_up mf 20 u.2.1) mg))) E hr hlk (0, gtape_45, ntaped_46) hw47 ⟨(by show 0 ≤ ntaped_46.toInt ∧ ntaped_46.toInt ≤ 400; have k_0 : (0 : Int32).toInt = 0 := (by decide +kernel); omega), hp_49, (show (((mi 21).toInt ≤ 380 ∧ gtape_45 = FD (mf 20) ((mi 21).toInt).toNat z_a z_b z_c z_d z_e) ∨ (381 ≤ (mi 21).toInt ∧ gtape_45 = (mf 20))) from (Or.inl ⟨by omega, FD_of hp_14 hp_23 hp_32 hp_41 hp_50 rfl (by omega) (by omega) (by omega) (by omega)⟩)), (Or.inr (⟨(by show (mi 21).toInt ≤ 380; omega), (by show ntaped_46.toInt = (mi 21).toInt + 20; omega), (by show ntaped_46.toInt = (mi 21).toInt + 20; omega)⟩))⟩ (Nat.le_of_ble_eq_true rfl) (Nat.le_of_ble_eq_true rfl) dX12_feed_48
  · skip
    have hc_5 := nleE (a := (mi 21).toInt) (b := 380) rfl (by decide +kernel) c_5
    refine lv_iconst (pc := 15) (v := (-1)) E.1 E.2.1 dX12_feed_15 (by decide +kernel) ?_
    exact em_i (w1 := (fun (u : Int32 × (Nat → Int32) × Int32) => (MW cI cJ M mr (upd (upd mi 0 u.1) 21 u.2.2) (va_up mf 20 u.2.1) mg))) E hr hlk (0, (mf 20), (mi 21)) hw4 ⟨h0, a_tape, (show (((mi 21).toInt ≤ 380 ∧ (mf 20) = FD (mf 20) ((mi 21).toInt).toNat z_a z_b z_c z_d z_e) ∨ (381 ≤ (mi 21).toInt ∧ (mf 20) = (mf 20))) from (Or.inr ⟨by omega, rfl⟩)), (Or.inl ⟨rfl, (by show 381 ≤ (mi 21).toInt; omega), rfl⟩)⟩ (Nat.le_of_ble_eq_true rfl) (Nat.le_of_ble_eq_true rfl) dX12_feed_16
set_option maxHeartbeats 4000000 in
set_option maxRecDepth 100000 in
theorem s_readsText2U (l : Launch) (D : va_G) (cI cJ : ClassId) (sz M : Nat) (mr : Nat → Nat) (mi : Nat → Int32) (mf : Nat → Nat → Int32) (mg : Nat → Nat → Int64)  (h0 : 0 ≤ (mi 22).toInt) (h1 : (mi 22).toInt ≤ (mi 21).toInt) (h2 : (mi 21).toInt ≤ 400) (h3 : ((mf 26) 153).toInt = 32) (h4 : 0 ≤ (mi 6).toInt ∧ (mi 6).toInt ≤ 10) (h5 : (mi 22).toInt = 0) (a_paths : pathsOK (mf 43)) (a_tape : b255 (mf 20)) (lf_words : (∀ j : Nat, j < 154 → (mf 26) j = w0 j)) : Met l yX12_readsText (Cond.code yX12_readsText cX12_readsText 2 (some .int) :: GW) ({ frames := 10, cells := 0, slots := 0, locals := 234 } : Room) (va_Pc [.ref M, .int 2] (PW D cI cJ sz (MW cI cJ M mr mi mf mg) xT)) (va_Qi (fun (r : Int32) (u : Int32 × Int32 × Int32 × Int32 × Int32 × Int32 × Int32 × (Nat → Int32)) => (pathsOK u.2.2.2.2.2.2.2) ∧ ((0 ≤ (r : Int32).toInt → PD u.2.2.2.2.2.2.2 (r : Int32).toInt)) ∧ (RC (rdR (mf 20) (mi 21).toInt (pathR (mf 20) (mi 21).toInt ((mi 6).toInt - 1)) 16 40 41 0 0) (r : Int32).toInt u.2.2.2.2.1.toInt u.2.2.2.2.2.1.toInt) ∧ ((r = (-1)) ∨ (0 ≤ r.toInt ∧ r.toInt ≤ 40))) (fun u => QW D cI cJ (va_A (MW cI cJ M mr mi mf mg) sz) ((fun (u : Int32 × Int32 × Int32 × Int32 × Int32 × Int32 × Int32 × (Nat → Int32)) => (MW cI cJ M mr (upd (upd (upd (upd (upd (upd (upd mi 22 u.1) 23 u.2.1) 24 u.2.2.1) 25 u.2.2.2.1) 38 u.2.2.2.2.1) 39 u.2.2.2.2.2.1) 33 u.2.2.2.2.2.2.1) (va_up mf 43 u.2.2.2.2.2.2.2) mg)) u)) (va_A (MW cI cJ M mr mi mf mg) sz)) 0 0 (va_A (MW cI cJ M mr mi mf mg) sz) := by
  refine mk_met (y := yX12_readsText) (bytes := cX12_readsText) (maxL := 2) (avs := [.ref M, .int 2]) (WS := (MW cI cJ M mr mi mf mg)) (Qf := fun A => va_Qi (fun (r : Int32) (u : Int32 × Int32 × Int32 × Int32 × Int32 × Int32 × Int32 × (Nat → Int32)) => (pathsOK u.2.2.2.2.2.2.2) ∧ ((0 ≤ (r : Int32).toInt → PD u.2.2.2.2.2.2.2 (r : Int32).toInt)) ∧ (RC (rdR (mf 20) (mi 21).toInt (pathR (mf 20) (mi 21).toInt ((mi 6).toInt - 1)) 16 40 41 0 0) (r : Int32).toInt u.2.2.2.2.1.toInt u.2.2.2.2.2.1.toInt) ∧ ((r = (-1)) ∨ (0 ≤ r.toInt ∧ r.toInt ≤ 40))) (fun u => QW D cI cJ A ((fun (u : Int32 × Int32 × Int32 × Int32 × Int32 × Int32 × Int32 × (Nat → Int32)) => (MW cI cJ M mr (upd (upd (upd (upd (upd (upd (upd mi 22 u.1) 23 u.2.1) 24 u.2.2.1) 25 u.2.2.2.1) 38 u.2.2.2.2.1) 39 u.2.2.2.2.2.1) 33 u.2.2.2.2.2.2.1) (va_up mf 43 u.2.2.2.2.2.2.2) mg)) u)) A) (by decide) (Nat.le_of_ble_eq_true rfl) ?_
  intro p e s m below meth c A ls E hr hlk hnm hX hw1 hl2
  have hl3 : lv_has ls 2 [(0, .ref M), (1, .int 2)] := hl2
  refine lv_aload_n (pc := 0) E.1 E.2.1 dX12_readsText_0 rfl (lv_at hl3 0 rfl) ?_
  refine lv_iload_n (pc := 1) E.1 E.2.1 dX12_readsText_1 rfl (lv_at hl3 1 rfl) ?_
  refine x_put (pc := 2) (T := TX12) (N := 70) (ci := 12) (ws' := (MW cI cJ M mr (upd mi 33 2) mf mg)) E hw1 inX12 tyX12_ok nmX12 0 33 q_1432 rfl rfl (by decide) rfl rfl rfl rfl (Nat.le_of_ble_eq_true rfl) rfl dX12_readsText_2 (fun H locs hw4 => ?_)
  refine lv_aload_n (pc := 5) E.1 E.2.1 dX12_readsText_5 rfl (lv_at hl3 0 rfl) ?_
  refine cm_v (pc := 6) hw4 (rn_M (As := []) (rest := []) E hw4 (s_readsT l D cI cJ _ M mr (upd mi 33 2) mf mg h0 h1 h2 h3 a_tape (show (∀ j : Nat, j < 154 → (mf 26) j = w0 j) from lf_words)) (gdV q_1666 q_1668 q_52 q_162 q_1669) hdV_X12_reads ⟨rfl, rfl⟩ ⟨(Nat.le_of_ble_eq_true rfl), (Nat.le_of_ble_eq_true rfl)⟩ ⟨(Nat.le_of_ble_eq_true rfl), (Nat.le_of_ble_eq_true rfl)⟩ 12 rfl rfl rfl rfl hl3.1 rfl (Nat.le_of_ble_eq_true rfl) dX12_readsText_6) (fun u_5 H1 locs hp hw7 => ?_)
  obtain ⟨nspot_8, nfrom_9, ntoken_10, nvalue_11⟩ := u_5
  generalize H1 = H at hw7 ⊢
  have hw12 : WD D A s.heap (MW cI cJ M mr (upd (upd (upd (upd (upd mi 22 nspot_8) 23 nfrom_9) 24 ntoken_10) 25 nvalue_11) 33 2) mf mg) H locs := hw7
  obtain ⟨hp_13, hp_14, hp_15, hp_16, hp_17, hp_18, hp_19, hp_20, hp_21⟩ := hp
  have hp_13 : 0 ≤ nfrom_9.toInt := hp_13
  have hp_14 : nfrom_9.toInt ≤ nspot_8.toInt := hp_14
  have hp_15 : nspot_8.toInt ≤ (mi 21).toInt := hp_15
  have hp_16 : 0 ≤ ntoken_10.toInt := hp_16
  have hp_17 : ntoken_10.toInt ≤ 4 := hp_17
  have hp_18 : ntoken_10.toInt ≤ 4 * nspot_8.toInt - 4 * nfrom_9.toInt := hp_18
  have hp_19 : (mi 22).toInt ≤ nfrom_9.toInt := hp_19
  have hp_20 : AGN ntoken_10.toInt nvalue_11.toInt nfrom_9.toInt nspot_8.toInt := hp_20
  have hp_21 : TKR (mf 20) (mi 21).toInt (mi 22).toInt nfrom_9.toInt nspot_8.toInt ntoken_10.toInt nvalue_11.toInt := hp_21
  refine lv_iload_n (pc := 9) E.1 E.2.1 dX12_readsText_9 rfl (lv_at hl3 1 rfl) ?_
  refine lv_iconst (pc := 10) (v := 2) E.1 E.2.1 dX12_readsText_10 (by decide +kernel) ?_
  refine lv_icmp_ne (pc := 11) (tgt := 19) E.1 E.2.1 dX12_readsText_11 (by decide) (fun c_22 => absurd (meqE (a := 2) (b := 2) (by decide +kernel) (by decide +kernel) (by omega)) c_22) (fun _ => ?_)
  refine lv_aload_n (pc := 14) E.1 E.2.1 dX12_readsText_14 rfl (lv_at hl3 0 rfl) ?_
  refine cm_i (pc := 15) hw12 (rn_M (As := []) (rest := []) E hw12 (s_readPathsT l D cI cJ _ M mr (upd (upd (upd (upd (upd mi 22 nspot_8) 23 nfrom_9) 24 ntoken_10) 25 nvalue_11) 33 2) mf mg hp_13 hp_14 hp_15 h2 hp_16 hp_17 hp_18 h3 h4 a_paths a_tape (show (∀ j : Nat, j < 154 → (mf 26) j = w0 j) from lf_words) (show AGN ntoken_10.toInt nvalue_11.toInt nfrom_9.toInt nspot_8.toInt from hp_20)) (gdV q_1690 q_1692 q_58 q_162 q_1693) hdV_X12_readPaths ⟨rfl, rfl⟩ ⟨(Nat.le_of_ble_eq_true rfl), (Nat.le_of_ble_eq_true rfl)⟩ ⟨(Nat.le_of_ble_eq_true rfl), (Nat.le_of_ble_eq_true rfl)⟩ 12 rfl rfl rfl rfl hl3.1 rfl (Nat.le_of_ble_eq_true rfl) dX12_readsText_15) (fun r_24 u_23 H1 locs hp hw25 => ?_)
  obtain ⟨nspot_26, nfrom_27, ntoken_28, nvalue_29, nreadFault_30, nreadPlace_31, gpaths_32⟩ := u_23
  generalize H1 = H at hw25 ⊢
  have hw33 : WD D A s.heap (MW cI cJ M mr (upd (upd (upd (upd (upd (upd (upd mi 22 nspot_26) 23 nfrom_27) 24 ntoken_28) 25 nvalue_29) 33 2) 38 nreadFault_30) 39 nreadPlace_31) (va_up mf 43 gpaths_32) mg) H locs := hw25
  obtain ⟨hp_34, hp_35, hp_36, hp_37, hp_38, hp_39, hp_40, hp_41, hp_42, hp_43, hp_44⟩ := hp
  have hp_34 : 0 ≤ nfrom_27.toInt := hp_34
  have hp_35 : nfrom_27.toInt ≤ nspot_26.toInt := hp_35
  have hp_36 : nspot_26.toInt ≤ (mi 21).toInt := hp_36
  have hp_37 : 0 ≤ ntoken_28.toInt := hp_37
  have hp_38 : ntoken_28.toInt ≤ 4 := hp_38
  have hp_39 : ntoken_28.toInt ≤ 4 * nspot_26.toInt - 4 * nfrom_27.toInt := hp_39
  have hp_41 : AGN ntoken_28.toInt nvalue_29.toInt nfrom_27.toInt nspot_26.toInt := hp_41
  have hp_42 : (0 ≤ (r_24 : Int32).toInt → PD gpaths_32 (r_24 : Int32).toInt) := hp_42
  have hp_43 : (∀ p0 : Int, TKR (mf 20) (mi 21).toInt p0 nfrom_9.toInt nspot_8.toInt ntoken_10.toInt nvalue_11.toInt → RC (rdR (mf 20) (mi 21).toInt (pathR (mf 20) (mi 21).toInt ((mi 6).toInt - 1)) 16 40 41 0 p0) (r_24 : Int32).toInt nreadFault_30.toInt nreadPlace_31.toInt) := hp_43
  rcases hp_44 with rfl | ⟨ha_45, ha_46⟩
  · skip
    exact em_i (w1 := (fun (u : Int32 × Int32 × Int32 × Int32 × Int32 × Int32 × Int32 × (Nat → Int32)) => (MW cI cJ M mr (upd (upd (upd (upd (upd (upd (upd mi 22 u.1) 23 u.2.1) 24 u.2.2.1) 25 u.2.2.2.1) 38 u.2.2.2.2.1) 39 u.2.2.2.2.2.1) 33 u.2.2.2.2.2.2.1) (va_up mf 43 u.2.2.2.2.2.2.2) mg))) E hr hlk (nspot_26, nfrom_27, ntoken_28, nvalue_29, nreadFault_30, nreadPlace_31, 2, gpaths_32) hw33 ⟨hp_40, (show (0 ≤ ((-1) : Int32).toInt → PD gpaths_32 ((-1) : Int32).toInt) from (fun h => absurd h (by decide +kernel))), (show RC (rdR (mf 20) (mi 21).toInt (pathR (mf 20) (mi 21).toInt ((mi 6).toInt - 1)) 16 40 41 0 0) ((-1) : Int32).toInt nreadFault_30.toInt nreadPlace_31.toInt from (hp_43 0 (by have q := hp_21; rw [show (mi 22).toInt = 0 from by omega] at q; exact q))), (Or.inl rfl)⟩ (Nat.le_of_ble_eq_true rfl) (Nat.le_of_ble_eq_true rfl) dX12_readsText_18
  · skip
    have ha_45 : 0 ≤ r_24.toInt := ha_45
    have ha_46 : r_24.toInt ≤ 40 := ha_46
    exact em_i (w1 := (fun (u : Int32 × Int32 × Int32 × Int32 × Int32 × Int32 × Int32 × (Nat → Int32)) => (MW cI cJ M mr (upd (upd (upd (upd (upd (upd (upd mi 22 u.1) 23 u.2.1) 24 u.2.2.1) 25 u.2.2.2.1) 38 u.2.2.2.2.1) 39 u.2.2.2.2.2.1) 33 u.2.2.2.2.2.2.1) (va_up mf 43 u.2.2.2.2.2.2.2) mg))) E hr hlk (nspot_26, nfrom_27, ntoken_28, nvalue_29, nreadFault_30, nreadPlace_31, 2, gpaths_32) hw33 ⟨hp_40, (show (0 ≤ (r_24 : Int32).toInt → PD gpaths_32 (r_24 : Int32).toInt) from hp_42), (show RC (rdR (mf 20) (mi 21).toInt (pathR (mf 20) (mi 21).toInt ((mi 6).toInt - 1)) 16 40 41 0 0) (r_24 : Int32).toInt nreadFault_30.toInt nreadPlace_31.toInt from (hp_43 0 (by have q := hp_21; rw [show (mi 22).toInt = 0 from by omega] at q; exact q))), (Or.inr (⟨(by show 0 ≤ r_24.toInt; omega), (by show r_24.toInt ≤ 40; omega)⟩))⟩ (Nat.le_of_ble_eq_true rfl) (Nat.le_of_ble_eq_true rfl) dX12_readsText_18
set_option maxHeartbeats 4000000 in
set_option maxRecDepth 100000 in
theorem s_readsText3U (l : Launch) (D : va_G) (cI cJ : ClassId) (sz M : Nat) (mr : Nat → Nat) (mi : Nat → Int32) (mf : Nat → Nat → Int32) (mg : Nat → Nat → Int64)  (h0 : 0 ≤ (mi 22).toInt) (h1 : (mi 22).toInt ≤ (mi 21).toInt) (h2 : (mi 21).toInt ≤ 400) (h3 : ((mf 26) 153).toInt = 32) (h4 : 0 ≤ (mi 6).toInt ∧ (mi 6).toInt ≤ 10) (h5 : (mi 22).toInt = 0) (a_tape : b255 (mf 20)) (lf_words : (∀ j : Nat, j < 154 → (mf 26) j = w0 j)) : Met l yX12_readsText (Cond.code yX12_readsText cX12_readsText 2 (some .int) :: GW) ({ frames := 10, cells := 0, slots := 0, locals := 234 } : Room) (va_Pc [.ref M, .int 3] (PW D cI cJ sz (MW cI cJ M mr mi mf mg) xT)) (va_Qi (fun (r : Int32) (u : Int32 × Int32 × Int32 × Int32 × Int32 × Int32 × Int32 × (Nat → Int32)) => (RC (rdR (mf 20) (mi 21).toInt (needR (mf 20) (mi 21).toInt ((mi 6).toInt - 1)) 20 10 11 0 0) (r : Int32).toInt u.2.2.2.2.1.toInt u.2.2.2.2.2.1.toInt) ∧ ((r = (-1)) ∨ (0 ≤ r.toInt ∧ r.toInt ≤ 10))) (fun u => QW D cI cJ (va_A (MW cI cJ M mr mi mf mg) sz) ((fun (u : Int32 × Int32 × Int32 × Int32 × Int32 × Int32 × Int32 × (Nat → Int32)) => (MW cI cJ M mr (upd (upd (upd (upd (upd (upd (upd mi 22 u.1) 23 u.2.1) 24 u.2.2.1) 25 u.2.2.2.1) 38 u.2.2.2.2.1) 39 u.2.2.2.2.2.1) 33 u.2.2.2.2.2.2.1) (va_up mf 45 u.2.2.2.2.2.2.2) mg)) u)) (va_A (MW cI cJ M mr mi mf mg) sz)) 0 0 (va_A (MW cI cJ M mr mi mf mg) sz) := by
  refine mk_met (y := yX12_readsText) (bytes := cX12_readsText) (maxL := 2) (avs := [.ref M, .int 3]) (WS := (MW cI cJ M mr mi mf mg)) (Qf := fun A => va_Qi (fun (r : Int32) (u : Int32 × Int32 × Int32 × Int32 × Int32 × Int32 × Int32 × (Nat → Int32)) => (RC (rdR (mf 20) (mi 21).toInt (needR (mf 20) (mi 21).toInt ((mi 6).toInt - 1)) 20 10 11 0 0) (r : Int32).toInt u.2.2.2.2.1.toInt u.2.2.2.2.2.1.toInt) ∧ ((r = (-1)) ∨ (0 ≤ r.toInt ∧ r.toInt ≤ 10))) (fun u => QW D cI cJ A ((fun (u : Int32 × Int32 × Int32 × Int32 × Int32 × Int32 × Int32 × (Nat → Int32)) => (MW cI cJ M mr (upd (upd (upd (upd (upd (upd (upd mi 22 u.1) 23 u.2.1) 24 u.2.2.1) 25 u.2.2.2.1) 38 u.2.2.2.2.1) 39 u.2.2.2.2.2.1) 33 u.2.2.2.2.2.2.1) (va_up mf 45 u.2.2.2.2.2.2.2) mg)) u)) A) (by decide) (Nat.le_of_ble_eq_true rfl) ?_
  intro p e s m below meth c A ls E hr hlk hnm hX hw1 hl2
  have hl3 : lv_has ls 2 [(0, .ref M), (1, .int 3)] := hl2
  refine lv_aload_n (pc := 0) E.1 E.2.1 dX12_readsText_0 rfl (lv_at hl3 0 rfl) ?_
  refine lv_iload_n (pc := 1) E.1 E.2.1 dX12_readsText_1 rfl (lv_at hl3 1 rfl) ?_
  refine x_put (pc := 2) (T := TX12) (N := 70) (ci := 12) (ws' := (MW cI cJ M mr (upd mi 33 3) mf mg)) E hw1 inX12 tyX12_ok nmX12 0 33 q_1432 rfl rfl (by decide) rfl rfl rfl rfl (Nat.le_of_ble_eq_true rfl) rfl dX12_readsText_2 (fun H locs hw4 => ?_)
  refine lv_aload_n (pc := 5) E.1 E.2.1 dX12_readsText_5 rfl (lv_at hl3 0 rfl) ?_
  refine cm_v (pc := 6) hw4 (rn_M (As := []) (rest := []) E hw4 (s_readsT l D cI cJ _ M mr (upd mi 33 3) mf mg h0 h1 h2 h3 a_tape (show (∀ j : Nat, j < 154 → (mf 26) j = w0 j) from lf_words)) (gdV q_1666 q_1668 q_52 q_162 q_1669) hdV_X12_reads ⟨rfl, rfl⟩ ⟨(Nat.le_of_ble_eq_true rfl), (Nat.le_of_ble_eq_true rfl)⟩ ⟨(Nat.le_of_ble_eq_true rfl), (Nat.le_of_ble_eq_true rfl)⟩ 12 rfl rfl rfl rfl hl3.1 rfl (Nat.le_of_ble_eq_true rfl) dX12_readsText_6) (fun u_5 H1 locs hp hw7 => ?_)
  obtain ⟨nspot_8, nfrom_9, ntoken_10, nvalue_11⟩ := u_5
  generalize H1 = H at hw7 ⊢
  have hw12 : WD D A s.heap (MW cI cJ M mr (upd (upd (upd (upd (upd mi 22 nspot_8) 23 nfrom_9) 24 ntoken_10) 25 nvalue_11) 33 3) mf mg) H locs := hw7
  obtain ⟨hp_13, hp_14, hp_15, hp_16, hp_17, hp_18, hp_19, hp_20, hp_21⟩ := hp
  have hp_13 : 0 ≤ nfrom_9.toInt := hp_13
  have hp_14 : nfrom_9.toInt ≤ nspot_8.toInt := hp_14
  have hp_15 : nspot_8.toInt ≤ (mi 21).toInt := hp_15
  have hp_16 : 0 ≤ ntoken_10.toInt := hp_16
  have hp_17 : ntoken_10.toInt ≤ 4 := hp_17
  have hp_18 : ntoken_10.toInt ≤ 4 * nspot_8.toInt - 4 * nfrom_9.toInt := hp_18
  have hp_19 : (mi 22).toInt ≤ nfrom_9.toInt := hp_19
  have hp_20 : AGN ntoken_10.toInt nvalue_11.toInt nfrom_9.toInt nspot_8.toInt := hp_20
  have hp_21 : TKR (mf 20) (mi 21).toInt (mi 22).toInt nfrom_9.toInt nspot_8.toInt ntoken_10.toInt nvalue_11.toInt := hp_21
  refine lv_iload_n (pc := 9) E.1 E.2.1 dX12_readsText_9 rfl (lv_at hl3 1 rfl) ?_
  refine lv_iconst (pc := 10) (v := 2) E.1 E.2.1 dX12_readsText_10 (by decide +kernel) ?_
  refine lv_icmp_ne (pc := 11) (tgt := 19) E.1 E.2.1 dX12_readsText_11 (by decide) (fun _ => ?_) (fun c_22 => absurd c_22 (mneE (a := 3) (b := 2) (by decide +kernel) (by decide +kernel) (by omega)))
  refine lv_iload_n (pc := 19) E.1 E.2.1 dX12_readsText_19 rfl (lv_at hl3 1 rfl) ?_
  refine lv_iconst (pc := 20) (v := 3) E.1 E.2.1 dX12_readsText_20 (by decide +kernel) ?_
  refine lv_icmp_ne (pc := 21) (tgt := 29) E.1 E.2.1 dX12_readsText_21 (by decide) (fun c_23 => absurd (meqE (a := 3) (b := 3) (by decide +kernel) (by decide +kernel) (by omega)) c_23) (fun _ => ?_)
  refine lv_aload_n (pc := 24) E.1 E.2.1 dX12_readsText_24 rfl (lv_at hl3 0 rfl) ?_
  refine cm_i (pc := 25) hw12 (rn_M (As := []) (rest := []) E hw12 (s_readNeedsT l D cI cJ _ M mr (upd (upd (upd (upd (upd mi 22 nspot_8) 23 nfrom_9) 24 ntoken_10) 25 nvalue_11) 33 3) mf mg hp_13 hp_14 hp_15 h2 hp_16 hp_17 hp_18 h3 h4 a_tape (show (∀ j : Nat, j < 154 → (mf 26) j = w0 j) from lf_words) (show AGN ntoken_10.toInt nvalue_11.toInt nfrom_9.toInt nspot_8.toInt from hp_20)) (gdV q_1722 q_1724 q_66 q_162 q_1725) hdV_X12_readNeeds ⟨rfl, rfl⟩ ⟨(Nat.le_of_ble_eq_true rfl), (Nat.le_of_ble_eq_true rfl)⟩ ⟨(Nat.le_of_ble_eq_true rfl), (Nat.le_of_ble_eq_true rfl)⟩ 12 rfl rfl rfl rfl hl3.1 rfl (Nat.le_of_ble_eq_true rfl) dX12_readsText_25) (fun r_25 u_24 H1 locs hp hw26 => ?_)
  obtain ⟨nspot_27, nfrom_28, ntoken_29, nvalue_30, nreadFault_31, nreadPlace_32, gneeds_33⟩ := u_24
  generalize H1 = H at hw26 ⊢
  have hw34 : WD D A s.heap (MW cI cJ M mr (upd (upd (upd (upd (upd (upd (upd mi 22 nspot_27) 23 nfrom_28) 24 ntoken_29) 25 nvalue_30) 33 3) 38 nreadFault_31) 39 nreadPlace_32) (va_up mf 45 gneeds_33) mg) H locs := hw26
  obtain ⟨hp_35, hp_36, hp_37, hp_38, hp_39, hp_40, hp_41, hp_42, hp_43⟩ := hp
  have hp_35 : 0 ≤ nfrom_28.toInt := hp_35
  have hp_36 : nfrom_28.toInt ≤ nspot_27.toInt := hp_36
  have hp_37 : nspot_27.toInt ≤ (mi 21).toInt := hp_37
  have hp_38 : 0 ≤ ntoken_29.toInt := hp_38
  have hp_39 : ntoken_29.toInt ≤ 4 := hp_39
  have hp_40 : ntoken_29.toInt ≤ 4 * nspot_27.toInt - 4 * nfrom_28.toInt := hp_40
  have hp_41 : AGN ntoken_29.toInt nvalue_30.toInt nfrom_28.toInt nspot_27.toInt := hp_41
  have hp_42 : (∀ p0 : Int, TKR (mf 20) (mi 21).toInt p0 nfrom_9.toInt nspot_8.toInt ntoken_10.toInt nvalue_11.toInt → RC (rdR (mf 20) (mi 21).toInt (needR (mf 20) (mi 21).toInt ((mi 6).toInt - 1)) 20 10 11 0 p0) (r_25 : Int32).toInt nreadFault_31.toInt nreadPlace_32.toInt) := hp_42
  rcases hp_43 with rfl | ⟨ha_44, ha_45⟩
  · skip
    exact em_i (w1 := (fun (u : Int32 × Int32 × Int32 × Int32 × Int32 × Int32 × Int32 × (Nat → Int32)) => (MW cI cJ M mr (upd (upd (upd (upd (upd (upd (upd mi 22 u.1) 23 u.2.1) 24 u.2.2.1) 25 u.2.2.2.1) 38 u.2.2.2.2.1) 39 u.2.2.2.2.2.1) 33 u.2.2.2.2.2.2.1) (va_up mf 45 u.2.2.2.2.2.2.2) mg))) E hr hlk (nspot_27, nfrom_28, ntoken_29, nvalue_30, nreadFault_31, nreadPlace_32, 3, gneeds_33) hw34 ⟨(show RC (rdR (mf 20) (mi 21).toInt (needR (mf 20) (mi 21).toInt ((mi 6).toInt - 1)) 20 10 11 0 0) ((-1) : Int32).toInt nreadFault_31.toInt nreadPlace_32.toInt from (hp_42 0 (by have q := hp_21; rw [show (mi 22).toInt = 0 from by omega] at q; exact q))), (Or.inl rfl)⟩ (Nat.le_of_ble_eq_true rfl) (Nat.le_of_ble_eq_true rfl) dX12_readsText_28
  · skip
    have ha_44 : 0 ≤ r_25.toInt := ha_44
    have ha_45 : r_25.toInt ≤ 10 := ha_45
    exact em_i (w1 := (fun (u : Int32 × Int32 × Int32 × Int32 × Int32 × Int32 × Int32 × (Nat → Int32)) => (MW cI cJ M mr (upd (upd (upd (upd (upd (upd (upd mi 22 u.1) 23 u.2.1) 24 u.2.2.1) 25 u.2.2.2.1) 38 u.2.2.2.2.1) 39 u.2.2.2.2.2.1) 33 u.2.2.2.2.2.2.1) (va_up mf 45 u.2.2.2.2.2.2.2) mg))) E hr hlk (nspot_27, nfrom_28, ntoken_29, nvalue_30, nreadFault_31, nreadPlace_32, 3, gneeds_33) hw34 ⟨(show RC (rdR (mf 20) (mi 21).toInt (needR (mf 20) (mi 21).toInt ((mi 6).toInt - 1)) 20 10 11 0 0) (r_25 : Int32).toInt nreadFault_31.toInt nreadPlace_32.toInt from (hp_42 0 (by have q := hp_21; rw [show (mi 22).toInt = 0 from by omega] at q; exact q))), (Or.inr (⟨(by show 0 ≤ r_25.toInt; omega), (by show r_25.toInt ≤ 10; omega)⟩))⟩ (Nat.le_of_ble_eq_true rfl) (Nat.le_of_ble_eq_true rfl) dX12_readsText_28
set_option maxHeartbeats 4000000 in
set_option maxRecDepth 100000 in
theorem s_readsText4U (l : Launch) (D : va_G) (cI cJ : ClassId) (sz M : Nat) (mr : Nat → Nat) (mi : Nat → Int32) (mf : Nat → Nat → Int32) (mg : Nat → Nat → Int64)  (h0 : 0 ≤ (mi 22).toInt) (h1 : (mi 22).toInt ≤ (mi 21).toInt) (h2 : (mi 21).toInt ≤ 400) (h3 : ((mf 26) 153).toInt = 32) (h4 : 0 ≤ (mi 6).toInt ∧ (mi 6).toInt ≤ 10) (h5 : (mi 35).toInt = 0) (h6 : (mi 49).toInt ≤ 200) (h7 : (mi 22).toInt = 0) (a_tape : b255 (mf 20)) (lf_words : (∀ j : Nat, j < 154 → (mf 26) j = w0 j)) (lf_round : rndOK (mi 49).toInt (mi 6).toInt (mf 50)) : Met l yX12_readsText (Cond.code yX12_readsText cX12_readsText 2 (some .int) :: GW) ({ frames := 10, cells := 0, slots := 0, locals := 234 } : Room) (va_Pc [.ref M, .int 4] (PW D cI cJ sz (MW cI cJ M mr mi mf mg) xT)) (va_Qi (fun (r : Int32) (u : Int32 × Int32 × Int32 × Int32 × Int32 × Int32 × (Nat → Int32) × (Nat → Int32) × Int32 × Int32 × (Nat → Int32) × (Nat → Int32) × (Nat → Int32) × Int32) => (rndOK (mi 49).toInt (mi 6).toInt u.2.2.2.2.2.2.2.2.2.2.2.2.1) ∧ ((0 ≤ (r : Int32).toInt → rnd2 u.2.2.2.2.2.2.2.2.2.2.2.2.1 (r : Int32).toInt (mi 6).toInt)) ∧ (RC (roundR (mf 20) (mi 21).toInt ((mi 6).toInt - 1) 0) (r : Int32).toInt u.2.2.2.2.1.toInt u.2.2.2.2.2.1.toInt) ∧ ((r = (-1)) ∨ (0 ≤ r.toInt ∧ r.toInt ≤ 200))) (fun u => QW D cI cJ (va_A (MW cI cJ M mr mi mf mg) sz) ((fun (u : Int32 × Int32 × Int32 × Int32 × Int32 × Int32 × (Nat → Int32) × (Nat → Int32) × Int32 × Int32 × (Nat → Int32) × (Nat → Int32) × (Nat → Int32) × Int32) => (MW cI cJ M mr (upd (upd (upd (upd (upd (upd (upd (upd (upd mi 22 u.1) 23 u.2.1) 24 u.2.2.1) 25 u.2.2.2.1) 38 u.2.2.2.2.1) 39 u.2.2.2.2.2.1) 48 u.2.2.2.2.2.2.2.2.1) 35 u.2.2.2.2.2.2.2.2.2.1) 33 u.2.2.2.2.2.2.2.2.2.2.2.2.2) (va_up (va_up (va_up (va_up (va_up mf 46 u.2.2.2.2.2.2.1) 47 u.2.2.2.2.2.2.2.1) 51 u.2.2.2.2.2.2.2.2.2.2.1) 52 u.2.2.2.2.2.2.2.2.2.2.2.1) 50 u.2.2.2.2.2.2.2.2.2.2.2.2.1) mg)) u)) (va_A (MW cI cJ M mr mi mf mg) sz)) 0 0 (va_A (MW cI cJ M mr mi mf mg) sz) := by
  refine mk_met (y := yX12_readsText) (bytes := cX12_readsText) (maxL := 2) (avs := [.ref M, .int 4]) (WS := (MW cI cJ M mr mi mf mg)) (Qf := fun A => va_Qi (fun (r : Int32) (u : Int32 × Int32 × Int32 × Int32 × Int32 × Int32 × (Nat → Int32) × (Nat → Int32) × Int32 × Int32 × (Nat → Int32) × (Nat → Int32) × (Nat → Int32) × Int32) => (rndOK (mi 49).toInt (mi 6).toInt u.2.2.2.2.2.2.2.2.2.2.2.2.1) ∧ ((0 ≤ (r : Int32).toInt → rnd2 u.2.2.2.2.2.2.2.2.2.2.2.2.1 (r : Int32).toInt (mi 6).toInt)) ∧ (RC (roundR (mf 20) (mi 21).toInt ((mi 6).toInt - 1) 0) (r : Int32).toInt u.2.2.2.2.1.toInt u.2.2.2.2.2.1.toInt) ∧ ((r = (-1)) ∨ (0 ≤ r.toInt ∧ r.toInt ≤ 200))) (fun u => QW D cI cJ A ((fun (u : Int32 × Int32 × Int32 × Int32 × Int32 × Int32 × (Nat → Int32) × (Nat → Int32) × Int32 × Int32 × (Nat → Int32) × (Nat → Int32) × (Nat → Int32) × Int32) => (MW cI cJ M mr (upd (upd (upd (upd (upd (upd (upd (upd (upd mi 22 u.1) 23 u.2.1) 24 u.2.2.1) 25 u.2.2.2.1) 38 u.2.2.2.2.1) 39 u.2.2.2.2.2.1) 48 u.2.2.2.2.2.2.2.2.1) 35 u.2.2.2.2.2.2.2.2.2.1) 33 u.2.2.2.2.2.2.2.2.2.2.2.2.2) (va_up (va_up (va_up (va_up (va_up mf 46 u.2.2.2.2.2.2.1) 47 u.2.2.2.2.2.2.2.1) 51 u.2.2.2.2.2.2.2.2.2.2.1) 52 u.2.2.2.2.2.2.2.2.2.2.2.1) 50 u.2.2.2.2.2.2.2.2.2.2.2.2.1) mg)) u)) A) (by decide) (Nat.le_of_ble_eq_true rfl) ?_
  intro p e s m below meth c A ls E hr hlk hnm hX hw1 hl2
  have hl3 : lv_has ls 2 [(0, .ref M), (1, .int 4)] := hl2
  refine lv_aload_n (pc := 0) E.1 E.2.1 dX12_readsText_0 rfl (lv_at hl3 0 rfl) ?_
  refine lv_iload_n (pc := 1) E.1 E.2.1 dX12_readsText_1 rfl (lv_at hl3 1 rfl) ?_
  refine x_put (pc := 2) (T := TX12) (N := 70) (ci := 12) (ws' := (MW cI cJ M mr (upd mi 33 4) mf mg)) E hw1 inX12 tyX12_ok nmX12 0 33 q_1432 rfl rfl (by decide) rfl rfl rfl rfl (Nat.le_of_ble_eq_true rfl) rfl dX12_readsText_2 (fun H locs hw4 => ?_)
  refine lv_aload_n (pc := 5) E.1 E.2.1 dX12_readsText_5 rfl (lv_at hl3 0 rfl) ?_
  refine cm_v (pc := 6) hw4 (rn_M (As := []) (rest := []) E hw4 (s_readsT l D cI cJ _ M mr (upd mi 33 4) mf mg h0 h1 h2 h3 a_tape (show (∀ j : Nat, j < 154 → (mf 26) j = w0 j) from lf_words)) (gdV q_1666 q_1668 q_52 q_162 q_1669) hdV_X12_reads ⟨rfl, rfl⟩ ⟨(Nat.le_of_ble_eq_true rfl), (Nat.le_of_ble_eq_true rfl)⟩ ⟨(Nat.le_of_ble_eq_true rfl), (Nat.le_of_ble_eq_true rfl)⟩ 12 rfl rfl rfl rfl hl3.1 rfl (Nat.le_of_ble_eq_true rfl) dX12_readsText_6) (fun u_5 H1 locs hp hw7 => ?_)
  obtain ⟨nspot_8, nfrom_9, ntoken_10, nvalue_11⟩ := u_5
  generalize H1 = H at hw7 ⊢
  have hw12 : WD D A s.heap (MW cI cJ M mr (upd (upd (upd (upd (upd mi 22 nspot_8) 23 nfrom_9) 24 ntoken_10) 25 nvalue_11) 33 4) mf mg) H locs := hw7
  obtain ⟨hp_13, hp_14, hp_15, hp_16, hp_17, hp_18, hp_19, hp_20, hp_21⟩ := hp
  have hp_13 : 0 ≤ nfrom_9.toInt := hp_13
  have hp_14 : nfrom_9.toInt ≤ nspot_8.toInt := hp_14
  have hp_15 : nspot_8.toInt ≤ (mi 21).toInt := hp_15
  have hp_16 : 0 ≤ ntoken_10.toInt := hp_16
  have hp_17 : ntoken_10.toInt ≤ 4 := hp_17
  have hp_18 : ntoken_10.toInt ≤ 4 * nspot_8.toInt - 4 * nfrom_9.toInt := hp_18
  have hp_19 : (mi 22).toInt ≤ nfrom_9.toInt := hp_19
  have hp_20 : AGN ntoken_10.toInt nvalue_11.toInt nfrom_9.toInt nspot_8.toInt := hp_20
  have hp_21 : TKR (mf 20) (mi 21).toInt (mi 22).toInt nfrom_9.toInt nspot_8.toInt ntoken_10.toInt nvalue_11.toInt := hp_21
  refine lv_iload_n (pc := 9) E.1 E.2.1 dX12_readsText_9 rfl (lv_at hl3 1 rfl) ?_
  refine lv_iconst (pc := 10) (v := 2) E.1 E.2.1 dX12_readsText_10 (by decide +kernel) ?_
  refine lv_icmp_ne (pc := 11) (tgt := 19) E.1 E.2.1 dX12_readsText_11 (by decide) (fun _ => ?_) (fun c_22 => absurd c_22 (mneE (a := 4) (b := 2) (by decide +kernel) (by decide +kernel) (by omega)))
  refine lv_iload_n (pc := 19) E.1 E.2.1 dX12_readsText_19 rfl (lv_at hl3 1 rfl) ?_
  refine lv_iconst (pc := 20) (v := 3) E.1 E.2.1 dX12_readsText_20 (by decide +kernel) ?_
  refine lv_icmp_ne (pc := 21) (tgt := 29) E.1 E.2.1 dX12_readsText_21 (by decide) (fun _ => ?_) (fun c_23 => absurd c_23 (mneE (a := 4) (b := 3) (by decide +kernel) (by decide +kernel) (by omega)))
  refine lv_iload_n (pc := 29) E.1 E.2.1 dX12_readsText_29 rfl (lv_at hl3 1 rfl) ?_
  refine lv_iconst (pc := 30) (v := 4) E.1 E.2.1 dX12_readsText_30 (by decide +kernel) ?_
  refine lv_icmp_ne (pc := 31) (tgt := 41) E.1 E.2.1 dX12_readsText_31 (by decide) (fun c_24 => absurd (meqE (a := 4) (b := 4) (by decide +kernel) (by decide +kernel) (by omega)) c_24) (fun _ => ?_)
  refine lv_aload_n (pc := 34) E.1 E.2.1 dX12_readsText_34 rfl (lv_at hl3 0 rfl) ?_
  refine cm_i (pc := 35) hw12 (rn_M (As := []) (rest := []) E hw12 (s_readRoundT l D cI cJ _ M mr (upd (upd (upd (upd (upd mi 22 nspot_8) 23 nfrom_9) 24 ntoken_10) 25 nvalue_11) 33 4) mf mg hp_13 hp_14 hp_15 h2 hp_16 hp_17 hp_18 h3 h4 h5 h6 a_tape (show (∀ j : Nat, j < 154 → (mf 26) j = w0 j) from lf_words) (show AGN ntoken_10.toInt nvalue_11.toInt nfrom_9.toInt nspot_8.toInt from hp_20) (show rndOK (mi 49).toInt (mi 6).toInt (mf 50) from lf_round)) (gdV q_1730 q_1732 q_68 q_162 q_1733) hdV_X12_readRound ⟨rfl, rfl⟩ ⟨(Nat.le_of_ble_eq_true rfl), (Nat.le_of_ble_eq_true rfl)⟩ ⟨(Nat.le_of_ble_eq_true rfl), (Nat.le_of_ble_eq_true rfl)⟩ 12 rfl rfl rfl rfl hl3.1 rfl (Nat.le_of_ble_eq_true rfl) dX12_readsText_35) (fun r_26 u_25 H1 locs hp hw27 => ?_)
  obtain ⟨nspot_28, nfrom_29, ntoken_30, nvalue_31, nreadFault_32, nreadPlace_33, gstepOp_34, gstepHow_35, nsteps_36, nopen_37, gbackTo_38, gtimesLeft_39, ground_40⟩ := u_25
  generalize H1 = H at hw27 ⊢
  have hw41 : WD D A s.heap (MW cI cJ M mr (upd (upd (upd (upd (upd (upd (upd (upd (upd mi 22 nspot_28) 23 nfrom_29) 24 ntoken_30) 25 nvalue_31) 33 4) 35 nopen_37) 38 nreadFault_32) 39 nreadPlace_33) 48 nsteps_36) (va_up (va_up (va_up (va_up (va_up mf 46 gstepOp_34) 47 gstepHow_35) 50 ground_40) 51 gbackTo_38) 52 gtimesLeft_39) mg) H locs := hw27
  obtain ⟨hp_42, hp_43, hp_44, hp_45⟩ := hp
  have hp_42 : rndOK (mi 49).toInt (mi 6).toInt ground_40 := hp_42
  have hp_43 : (0 ≤ (r_26 : Int32).toInt → rnd2 ground_40 (r_26 : Int32).toInt (mi 6).toInt) := hp_43
  have hp_44 : (∀ p0 : Int, TKR (mf 20) (mi 21).toInt p0 nfrom_9.toInt nspot_8.toInt ntoken_10.toInt nvalue_11.toInt → RC (roundR (mf 20) (mi 21).toInt ((mi 6).toInt - 1) p0) (r_26 : Int32).toInt nreadFault_32.toInt nreadPlace_33.toInt) := hp_44
  rcases hp_45 with rfl | ⟨ha_46, ha_47⟩
  · skip
    refine lv_goto (pc := 38) (tgt := 45) E.1 E.2.1 dX12_readsText_38 (by decide) ?_
    exact em_i (w1 := (fun (u : Int32 × Int32 × Int32 × Int32 × Int32 × Int32 × (Nat → Int32) × (Nat → Int32) × Int32 × Int32 × (Nat → Int32) × (Nat → Int32) × (Nat → Int32) × Int32) => (MW cI cJ M mr (upd (upd (upd (upd (upd (upd (upd (upd (upd mi 22 u.1) 23 u.2.1) 24 u.2.2.1) 25 u.2.2.2.1) 38 u.2.2.2.2.1) 39 u.2.2.2.2.2.1) 48 u.2.2.2.2.2.2.2.2.1) 35 u.2.2.2.2.2.2.2.2.2.1) 33 u.2.2.2.2.2.2.2.2.2.2.2.2.2) (va_up (va_up (va_up (va_up (va_up mf 46 u.2.2.2.2.2.2.1) 47 u.2.2.2.2.2.2.2.1) 51 u.2.2.2.2.2.2.2.2.2.2.1) 52 u.2.2.2.2.2.2.2.2.2.2.2.1) 50 u.2.2.2.2.2.2.2.2.2.2.2.2.1) mg))) E hr hlk (nspot_28, nfrom_29, ntoken_30, nvalue_31, nreadFault_32, nreadPlace_33, gstepOp_34, gstepHow_35, nsteps_36, nopen_37, gbackTo_38, gtimesLeft_39, ground_40, 4) hw41 ⟨hp_42, (show (0 ≤ ((-1) : Int32).toInt → rnd2 ground_40 ((-1) : Int32).toInt (mi 6).toInt) from (fun h => absurd h (by decide +kernel))), (show RC (roundR (mf 20) (mi 21).toInt ((mi 6).toInt - 1) 0) ((-1) : Int32).toInt nreadFault_32.toInt nreadPlace_33.toInt from (hp_44 0 (by have q := hp_21; rw [show (mi 22).toInt = 0 from by omega] at q; exact q))), (Or.inl rfl)⟩ (Nat.le_of_ble_eq_true rfl) (Nat.le_of_ble_eq_true rfl) dX12_readsText_45
  · skip
    have ha_46 : 0 ≤ r_26.toInt := ha_46
    have ha_47 : r_26.toInt ≤ 200 := ha_47
    refine lv_goto (pc := 38) (tgt := 45) E.1 E.2.1 dX12_readsText_38 (by decide) ?_
    exact em_i (w1 := (fun (u : Int32 × Int32 × Int32 × Int32 × Int32 × Int32 × (Nat → Int32) × (Nat → Int32) × Int32 × Int32 × (Nat → Int32) × (Nat → Int32) × (Nat → Int32) × Int32) => (MW cI cJ M mr (upd (upd (upd (upd (upd (upd (upd (upd (upd mi 22 u.1) 23 u.2.1) 24 u.2.2.1) 25 u.2.2.2.1) 38 u.2.2.2.2.1) 39 u.2.2.2.2.2.1) 48 u.2.2.2.2.2.2.2.2.1) 35 u.2.2.2.2.2.2.2.2.2.1) 33 u.2.2.2.2.2.2.2.2.2.2.2.2.2) (va_up (va_up (va_up (va_up (va_up mf 46 u.2.2.2.2.2.2.1) 47 u.2.2.2.2.2.2.2.1) 51 u.2.2.2.2.2.2.2.2.2.2.1) 52 u.2.2.2.2.2.2.2.2.2.2.2.1) 50 u.2.2.2.2.2.2.2.2.2.2.2.2.1) mg))) E hr hlk (nspot_28, nfrom_29, ntoken_30, nvalue_31, nreadFault_32, nreadPlace_33, gstepOp_34, gstepHow_35, nsteps_36, nopen_37, gbackTo_38, gtimesLeft_39, ground_40, 4) hw41 ⟨hp_42, (show (0 ≤ (r_26 : Int32).toInt → rnd2 ground_40 (r_26 : Int32).toInt (mi 6).toInt) from hp_43), (show RC (roundR (mf 20) (mi 21).toInt ((mi 6).toInt - 1) 0) (r_26 : Int32).toInt nreadFault_32.toInt nreadPlace_33.toInt from (hp_44 0 (by have q := hp_21; rw [show (mi 22).toInt = 0 from by omega] at q; exact q))), (Or.inr (⟨(by show 0 ≤ r_26.toInt; omega), (by show r_26.toInt ≤ 200; omega)⟩))⟩ (Nat.le_of_ble_eq_true rfl) (Nat.le_of_ble_eq_true rfl) dX12_readsText_45
set_option maxHeartbeats 4000000 in
set_option maxRecDepth 100000 in
theorem s_takesOther2U (l : Launch) (D : va_G) (cI cJ : ClassId) (sz M : Nat) (mr : Nat → Nat) (mi : Nat → Int32) (mf : Nat → Nat → Int32) (mg : Nat → Nat → Int64) (z_n : Int32) (h0 : 0 ≤ z_n.toInt ∧ z_n.toInt ≤ 40) (a_paths : pathsOK (mf 43)) (x_pd : PD (mf 43) z_n.toInt) : Met l yX12_takesOther (Cond.code yX12_takesOther cX12_takesOther 4 none :: GW) ({ frames := 1, cells := 0, slots := 0, locals := 40 } : Room) (va_Pc [.ref M, .int 2, .int z_n] (PW D cI cJ sz (MW cI cJ M mr mi mf mg) xT)) (va_Qv (fun (u : (Nat → Int32) × Int32 × Int32) => (u.2.1.toInt = z_n.toInt) ∧ (u.2.2.toInt = 0) ∧ (pathsOK u.1) ∧ (rowsOK u.2.2.toInt (mi 6).toInt (mf 2)) ∧ (RKN u.2.2.toInt (((mf 1) 0).toInt) (mf 2)) ∧ (RKD u.2.2.toInt ((mf 1) 1) (mi 12).toInt (mf 2))) (fun u => QW D cI cJ (va_A (MW cI cJ M mr mi mf mg) sz) ((fun (u : (Nat → Int32) × Int32 × Int32) => (MW cI cJ M mr (upd (upd mi 42 u.2.1) 3 u.2.2) (va_up mf 43 u.1) mg)) u)) (va_A (MW cI cJ M mr mi mf mg) sz)) 0 0 (va_A (MW cI cJ M mr mi mf mg) sz) := by
  refine mk_met (y := yX12_takesOther) (bytes := cX12_takesOther) (maxL := 4) (avs := [.ref M, .int 2, .int z_n]) (WS := (MW cI cJ M mr mi mf mg)) (Qf := fun A => va_Qv (fun (u : (Nat → Int32) × Int32 × Int32) => (u.2.1.toInt = z_n.toInt) ∧ (u.2.2.toInt = 0) ∧ (pathsOK u.1) ∧ (rowsOK u.2.2.toInt (mi 6).toInt (mf 2)) ∧ (RKN u.2.2.toInt (((mf 1) 0).toInt) (mf 2)) ∧ (RKD u.2.2.toInt ((mf 1) 1) (mi 12).toInt (mf 2))) (fun u => QW D cI cJ A ((fun (u : (Nat → Int32) × Int32 × Int32) => (MW cI cJ M mr (upd (upd mi 42 u.2.1) 3 u.2.2) (va_up mf 43 u.1) mg)) u)) A) (by decide) (Nat.le_of_ble_eq_true rfl) ?_
  intro p e s m below meth c A ls E hr hlk hnm hX hw1 hl2
  have hl3 : lv_has ls 4 [(0, .ref M), (1, .int 2), (2, .int z_n)] := hl2
  refine lv_iload_n (pc := 0) E.1 E.2.1 dX12_takesOther_0 rfl (lv_at hl3 1 rfl) ?_
  refine lv_iconst (pc := 1) (v := 2) E.1 E.2.1 dX12_takesOther_1 (by decide +kernel) ?_
  refine lv_icmp_ne (pc := 2) (tgt := 41) E.1 E.2.1 dX12_takesOther_2 (by decide) (fun c_4 => absurd (meqE (a := 2) (b := 2) (by decide +kernel) (by decide +kernel) (by omega)) c_4) (fun _ => ?_)
  refine lv_iconst (pc := 5) (v := 0) E.1 E.2.1 dX12_takesOther_5 (by decide +kernel) ?_
  refine lv_istore_n (pc := 6) (lv' := [(3, .int 0), (0, .ref M), (1, .int 2), (2, .int z_n)]) E.1 E.2.1 dX12_takesOther_6 rfl hl3 (by decide) rfl (fun ls hl5 => ?_)
  have loop_6 : ∀ (k : Nat) (x_7 : Int32) (g_8 : Nat → Int32) (H : Heap) (locs : List Loc) (ls : Array Slot), (0 ≤ x_7.toInt) ∧ (x_7.toInt ≤ 4 * z_n.toInt) ∧ (MV g_8 (mf 43) 0 160 x_7.toInt) → 4 * z_n.toInt - x_7.toInt < (k : Int) → WD D A s.heap (MW cI cJ M mr mi (va_up mf 43 g_8) mg) H locs → lv_has ls 4 [(3, .int x_7), (0, .ref M), (1, .int 2), (2, .int z_n)] → W p l e ({ frames := 1, cells := 0, slots := 0, locals := 40 } : Room) s m ([.ref M, .int 2, .int z_n] : List Value).toArray below meth c H locs 0 0 (MQ below (va_Qv (fun (u : (Nat → Int32) × Int32 × Int32) => (u.2.1.toInt = z_n.toInt) ∧ (u.2.2.toInt = 0) ∧ (pathsOK u.1) ∧ (rowsOK u.2.2.toInt (mi 6).toInt (mf 2)) ∧ (RKN u.2.2.toInt (((mf 1) 0).toInt) (mf 2)) ∧ (RKD u.2.2.toInt ((mf 1) 1) (mi 12).toInt (mf 2))) (fun u => QW D cI cJ A ((fun (u : (Nat → Int32) × Int32 × Int32) => (MW cI cJ M mr (upd (upd mi 42 u.2.1) 3 u.2.2) (va_up mf 43 u.1) mg)) u)) A) ([.ref M, .int 2, .int z_n] : List Value).toArray s 0 0 A) (F0 m 7 ls []) := by
    intro k
    induction k with
    | zero =>
      intro x_7 g_8 _ _ _ hinv hm
      obtain ⟨hi_8_0, hi_8_1, hi_8_2⟩ := hinv
      exact absurd hm (by omega)
    | succ k ih_9 =>
      intro x_7 g_8 H locs ls hinv hm hw10 hl11
      obtain ⟨hi_8_0, hi_8_1, hi_8_2⟩ := hinv
      refine lv_iload_n (pc := 7) E.1 E.2.1 dX12_takesOther_7 rfl (lv_at hl11 0 rfl) ?_
      refine lv_iconst (pc := 8) (v := 4) E.1 E.2.1 dX12_takesOther_8 (by decide +kernel) ?_
      refine lv_iload_n (pc := 9) E.1 E.2.1 dX12_takesOther_9 rfl (lv_at hl11 3 rfl) ?_
      refine lv_imul (pc := 10) E.1 E.2.1 dX12_takesOther_10 ?_
      refine lv_topi (fun v_12 ev_12 => ?_)
      have hv_12 : v_12.toInt = 4 * z_n.toInt := by rw [ev_12]; exact mulE (by decide +kernel) rfl (by omega)
      refine lv_icmp_ge (pc := 11) (tgt := 36) E.1 E.2.1 dX12_takesOther_11 (by decide) (fun c_13 => ?_) (fun c_13 => ?_)
      · skip
        have hc_13 := leE (a := v_12.toInt) (b := x_7.toInt) rfl rfl c_13
        have hpk_14 : pathsOK g_8 := pathsOK_MV a_paths x_pd hi_8_2 (by omega) (by omega)
        refine lv_aload_n (pc := 36) E.1 E.2.1 dX12_takesOther_36 rfl (lv_at hl11 1 rfl) ?_
        refine lv_iload_n (pc := 37) E.1 E.2.1 dX12_takesOther_37 rfl (lv_at hl11 3 rfl) ?_
        refine x_put (pc := 38) (T := TX12) (N := 70) (ci := 12) (ws' := (MW cI cJ M mr (upd mi 42 z_n) (va_up mf 43 g_8) mg)) E hw10 inX12 tyX12_ok nmX12 0 42 q_1441 rfl rfl (by decide) rfl rfl rfl rfl (Nat.le_of_ble_eq_true rfl) rfl dX12_takesOther_38 (fun H locs hw15 => ?_)
        refine lv_iload_n (pc := 41) E.1 E.2.1 dX12_takesOther_41 rfl (lv_at hl11 2 rfl) ?_
        refine lv_iconst (pc := 42) (v := 3) E.1 E.2.1 dX12_takesOther_42 (by decide +kernel) ?_
        refine lv_icmp_ne (pc := 43) (tgt := 115) E.1 E.2.1 dX12_takesOther_43 (by decide) (fun _ => ?_) (fun c_16 => absurd c_16 (mneE (a := 2) (b := 3) (by decide +kernel) (by decide +kernel) (by omega)))
        refine lv_iload_n (pc := 115) E.1 E.2.1 dX12_takesOther_115 rfl (lv_at hl11 2 rfl) ?_
        refine lv_iconst (pc := 116) (v := 4) E.1 E.2.1 dX12_takesOther_116 (by decide +kernel) ?_
        refine lv_icmp_ne (pc := 117) (tgt := 161) E.1 E.2.1 dX12_takesOther_117 (by decide) (fun _ => ?_) (fun c_17 => absurd c_17 (mneE (a := 2) (b := 4) (by decide +kernel) (by decide +kernel) (by omega)))
        refine lv_aload_n (pc := 161) E.1 E.2.1 dX12_takesOther_161 rfl (lv_at hl11 1 rfl) ?_
        refine lv_iconst (pc := 162) (v := 0) E.1 E.2.1 dX12_takesOther_162 (by decide +kernel) ?_
        refine x_put (pc := 163) (T := TX12) (N := 70) (ci := 12) (ws' := (MW cI cJ M mr (upd (upd mi 3 0) 42 z_n) (va_up mf 43 g_8) mg)) E hw15 inX12 tyX12_ok nmX12 0 3 q_1402 rfl rfl (by decide) rfl rfl rfl rfl (Nat.le_of_ble_eq_true rfl) rfl dX12_takesOther_163 (fun H locs hw18 => ?_)
        exact em_v (w1 := (fun (u : (Nat → Int32) × Int32 × Int32) => (MW cI cJ M mr (upd (upd mi 42 u.2.1) 3 u.2.2) (va_up mf 43 u.1) mg))) E hr hlk (g_8, z_n, 0) hw18 ⟨rfl, (by show (0 : Int32).toInt = 0; have k_0 : (0 : Int32).toInt = 0 := (by decide +kernel); omega), hpk_14, (show rowsOK (0 : Int32).toInt (mi 6).toInt (mf 2) from (rowsOK_nil (by decide +kernel))), (show RKN (0 : Int32).toInt (((mf 1) 0).toInt) (mf 2) from (RKN_nil (by first | omega | decide +kernel))), (show RKD (0 : Int32).toInt ((mf 1) 1) (mi 12).toInt (mf 2) from (RKD_nil (by first | omega | decide +kernel)))⟩ (Nat.le_of_ble_eq_true rfl) (Nat.le_of_ble_eq_true rfl) dX12_takesOther_166
      · skip
        have hc_13 := nleE (a := v_12.toInt) (b := x_7.toInt) rfl rfl c_13
        refine lv_aload_n (pc := 14) E.1 E.2.1 dX12_takesOther_14 rfl (lv_at hl11 1 rfl) ?_
        refine x_get (pc := 15) (T := TX12) (N := 70) (ci := 12) (v := .ref (mr 43)) E hw10 inX12 0 43 q_1442 rfl rfl (by decide) rfl rfl dX12_takesOther_15 ?_
        refine lv_iload_n (pc := 18) E.1 E.2.1 dX12_takesOther_18 rfl (lv_at hl11 0 rfl) ?_
        refine lv_aload_n (pc := 19) E.1 E.2.1 dX12_takesOther_19 rfl (lv_at hl11 1 rfl) ?_
        refine x_get (pc := 20) (T := TX12) (N := 70) (ci := 12) (v := .ref (mr 43)) E hw10 inX12 0 43 q_1442 rfl rfl (by decide) rfl rfl dX12_takesOther_20 ?_
        refine lv_sipush (pc := 23) (v := 160) E.1 E.2.1 dX12_takesOther_23 (by decide +kernel) ?_
        refine lv_iload_n (pc := 26) E.1 E.2.1 dX12_takesOther_26 rfl (lv_at hl11 0 rfl) ?_
        refine lv_iadd (pc := 27) E.1 E.2.1 dX12_takesOther_27 ?_
        refine lv_topi (fun v_19 ev_19 => ?_)
        have hv_19 : v_19.toInt = 160 + x_7.toInt := by rw [ev_19]; exact addE (by decide +kernel) rfl (by omega)
        refine x_iald (pc := 28) (f := g_8) E hw10 21 rfl (inbE (a := v_19.toInt) rfl (by omega)) dX12_takesOther_28 ?_
        refine lv_topi (fun v_20 ev_20 => ?_)
        refine x_iastG (pc := 29) (f := g_8) (wf := fun g => (MW cI cJ M mr mi (va_up mf 43 g) mg)) E hw10 21 rfl (inbE (a := x_7.toInt) rfl (by omega)) (fun _ => rfl) dX12_takesOther_29 (fun g_21 H locs eg_21 hw22 => ?_)
        obtain ⟨v_23, ev_23⟩ : ∃ z : Int32, x_7 + Int32.ofInt (1) = z := ⟨_, rfl⟩
        have hv_23 : v_23.toInt = x_7.toInt + (1) := by rw [← ev_23]; exact incE rfl (by decide) (by omega)
        refine lv_iinc (pc := 30) (v := v_23) (lv' := [(3, .int v_23), (0, .ref M), (1, .int 2), (2, .int z_n)]) E.1 E.2.1 dX12_takesOther_30 hl11 (k := 0) rfl ev_23 (by decide) rfl (fun ls hl24 => ?_)
        refine lv_goto (pc := 33) (tgt := 7) E.1 E.2.1 dX12_takesOther_33 (by decide) ?_
        exact ih_9 v_23 g_21 _ _ _ ⟨(by show 0 ≤ v_23.toInt; omega), (by show v_23.toInt ≤ 4 * z_n.toInt; omega), (MV_step (i := x_7) (j := v_23) (m := 160) hi_8_2 eg_21 ev_20 (by omega) (by omega) (by omega) (by omega) (by omega) (by omega))⟩ (by omega) hw22 (lv_sub hl24 [0, 1, 2, 3] rfl)
  exact loop_6 (Int.toNat (4 * z_n.toInt - 0) + 1) 0 (mf 43) _ _ _ ⟨(by show 0 ≤ (0 : Int32).toInt; have k_0 : (0 : Int32).toInt = 0 := (by decide +kernel); omega), (by show (0 : Int32).toInt ≤ 4 * z_n.toInt; have k_0 : (0 : Int32).toInt = 0 := (by decide +kernel); omega), (MV_nil (by decide +kernel))⟩ (by have k_0 : (0 : Int32).toInt = 0 := (by decide +kernel); omega) hw1 (lv_sub hl5 [0, 1, 2, 3] rfl)
