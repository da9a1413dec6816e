set_option maxHeartbeats 4000000 in
set_option maxRecDepth 100000 in
theorem t_drawSnow_D2 (l : Launch) (D : va_G) (cI cJ : ClassId) (sz : Nat) (mr : Nat → Nat) (mi : Nat → Int32) (mf : Nat → Nat → Int32) (mg : Nat → Nat → Int64)  (mv : Nat → Value) (h0 : 0 ≤ (mi 2).toInt) : Met l yX10_drawSnow (Cond.code yX10_drawSnow cX10_drawSnow 2 none :: GW) ({ frames := 2, cells := 0, slots := 0, locals := 61 } : Room) (va_Pc [.ref (mr 0), .ref (mr 10)] (PW D cI cJ sz (WZ_VO cI cJ mv mr mi mf mg) xT)) (va_Qv (fun (u : Int32 × Int32) => (u.1 = fw1 (mi 2).toInt (mi 20))) (fun u => QW D cI cJ (va_A (WZ_VO cI cJ mv mr mi mf mg) sz) ((fun (u : Int32 × Int32) => (WZ_VO cI cJ mv mr (upd (upd mi 20 u.1) 19 u.2) mf mg)) u)) (va_A (WZ_VO cI cJ mv mr mi mf mg) sz)) 0 0 (va_A (WZ_VO cI cJ mv mr mi mf mg) sz) := by
  refine mk_met (y := yX10_drawSnow) (bytes := cX10_drawSnow) (maxL := 2) (avs := [.ref (mr 0), .ref (mr 10)]) (WS := (WZ_VO cI cJ mv mr mi mf mg)) (Qf := fun A => va_Qv (fun (u : Int32 × Int32) => (u.1 = fw1 (mi 2).toInt (mi 20))) (fun u => QW D cI cJ A ((fun (u : Int32 × Int32) => (WZ_VO cI cJ mv mr (upd (upd mi 20 u.1) 19 u.2) mf mg)) u)) A) (by decide) (Nat.le_of_ble_eq_true rfl) ?_
  intro p e s m below meth c A ls E hr hlk hnm hX hw1 hl2
  have hl3 : lv_has ls 2 [(0, .ref (mr 0)), (1, .ref (mr 10))] := hl2
  refine lv_aload_n (pc := 0) E.1 E.2.1 dX10_drawSnow_0 rfl (lv_at hl3 0 rfl) ?_
  refine x_get (pc := 1) (T := TX10) (N := 17) (ci := 10) (v := .int (mi 2)) E hw1 inX10 0 9 q_481 rfl rfl (by decide) rfl rfl dX10_drawSnow_1 ?_
  refine lv_if_gt (pc := 4) (tgt := 8) E.1 E.2.1 dX10_drawSnow_4 (by decide) (fun c_4 => ?_) (fun c_4 => ?_)
  · skip
    have hc_4 := ltE (a := 0) (b := (mi 2).toInt) (by decide +kernel) rfl c_4
    refine lv_aload_n (pc := 8) E.1 E.2.1 dX10_drawSnow_8 rfl (lv_at hl3 1 rfl) ?_
    refine lv_sipush (pc := 9) (v := 1000) E.1 E.2.1 dX10_drawSnow_9 (by decide +kernel) ?_
    refine cq_i (pc := 12) (ws' := (fun (u : Int32) => (WZ_VO cI cJ mv mr (upd mi 20 u) mf mg))) hw1 [6, 7, 8, 9, 10, 11] [0, 1, 2, 3, 4, 5, 12, 13, 14, 15, 16, 17, 18, 19, 20, 21, 22, 23, 24, 25, 26, 27, 28, 29, 30, 31, 32, 33, 34, 35, 36, 37, 38, 39, 40, 41, 42, 43, 44, 45, 46, 47, 48, 49] [0, 1, 2, 3, 4, 5, 44, 45, 46, 47, 48, 49, 6, 7, 8, 9, 10, 11, 12, 13, 14, 15, 16, 17, 18, 19, 20, 21, 22, 23, 24, 25, 26, 27, 28, 29, 30, 31, 32, 33, 34, 35, 36, 37, 38, 39, 40, 41, 42, 43] rfl rfl (by decide) (by decide) (fun _ => rfl) (by decide) (rn_V (As := [.int 1000]) (rest := []) E hw1 (t_draw_D2 l D cI cJ _ (ixf [10, 11, 12, 13, 14, 15, 16, 17, 18, 19, 20, 21, 22] mr) (ixf [10, 11, 12, 13, 14, 15, 16, 17, 18, 19, 20, 21, 22] mi) (ixf [10, 11, 12, 13, 14, 15, 16, 17, 18, 19, 20, 21, 22] mf) (ixf [10, 11, 12, 13, 14, 15, 16, 17, 18, 19, 20, 21, 22] mg) 1000) (gdV q_1094 q_1095 q_1096 q_153 q_1097) hdV_X4_draw ⟨rfl, rfl⟩ ⟨(Nat.le_of_ble_eq_true rfl), (Nat.le_of_ble_eq_true rfl)⟩ ⟨(Nat.le_of_ble_eq_true rfl), (Nat.le_of_ble_eq_true rfl)⟩ xT_b xT_at 6 4 rfl rfl rfl [6, 7, 8, 9, 10, 11] rfl (by decide) rfl hl3.1 rfl (Nat.le_of_ble_eq_true rfl) dX10_drawSnow_12) (fun r_6 u_5 H1 locs hp hw7 => ?_)
    obtain ⟨ndraws_8, rfl⟩ : ∃ z, z = u_5 := ⟨_, rfl⟩
    generalize H1 = H at hw7 ⊢
    have hw9 : WD D A s.heap (WZ_VO cI cJ mv mr (upd mi 20 ndraws_8) mf mg) H locs := hw7
    have hp_10 := hp
    have hp_10 : ndraws_8 = LCG (mi 20) := hp_10
    refine lv_aload_n (pc := 15) E.1 E.2.1 dX10_drawSnow_15 rfl (lv_at hl3 0 rfl) ?_
    refine x_get (pc := 16) (T := TX10) (N := 17) (ci := 10) (v := .int (mi 2)) E hw9 inX10 0 9 q_481 rfl rfl (by decide) rfl rfl dX10_drawSnow_16 ?_
    refine lv_icmp_ge (pc := 19) (tgt := 40) E.1 E.2.1 dX10_drawSnow_19 (by decide) (fun c_11 => ?_) (fun c_11 => ?_)
    · skip
      have hc_11 := leE (a := (mi 2).toInt) (b := r_6.toInt) rfl rfl c_11
      refine lv_aload_n (pc := 40) E.1 E.2.1 dX10_drawSnow_40 rfl (lv_at hl3 1 rfl) ?_
      refine lv_iconst (pc := 41) (v := 0) E.1 E.2.1 dX10_drawSnow_41 (by decide +kernel) ?_
      refine lv_aload_n (pc := 42) E.1 E.2.1 dX10_drawSnow_42 rfl (lv_at hl3 1 rfl) ?_
      refine x_get (pc := 43) (T := TX4) (N := 12) (ci := 4) (v := .int (mi 19)) E hw9 inX4 6 8 q_223 rfl rfl (by decide) rfl rfl dX10_drawSnow_43 ?_
      refine lv_iconst (pc := 46) (v := 1) E.1 E.2.1 dX10_drawSnow_46 (by decide +kernel) ?_
      refine lv_isub (pc := 47) E.1 E.2.1 dX10_drawSnow_47 ?_
      refine lv_topi (fun v_12 ev_12 => ?_)
      refine x_max (pc := 48) E hl3.1 q_1068 q_805 q_167 q_806 (Nat.le_of_ble_eq_true rfl) (Nat.le_of_ble_eq_true rfl) (Nat.le_of_ble_eq_true rfl) (Nat.le_of_ble_eq_true rfl) dX10_drawSnow_48 (fun v_13 hv_13 => ?_)
      rw [show (0 : Int32).toInt = 0 from by decide +kernel] at hv_13
      have hv_13a : 0 ≤ v_13.toInt ∧ v_12.toInt ≤ v_13.toInt := by omega
      clear hv_13
      refine x_put (pc := 51) (T := TX4) (N := 12) (ci := 4) (ws' := (WZ_VO cI cJ mv mr (upd (upd mi 19 v_13) 20 ndraws_8) mf mg)) E hw9 inX4 tyX4_ok nmX4 6 8 q_223 rfl rfl (by decide) rfl rfl rfl rfl (Nat.le_of_ble_eq_true rfl) rfl dX10_drawSnow_51 (fun H locs hw14 => ?_)
      exact em_v (w1 := (fun (u : Int32 × Int32) => (WZ_VO cI cJ mv mr (upd (upd mi 20 u.1) 19 u.2) mf mg))) E hr hlk (ndraws_8, v_13) hw14 (show ndraws_8 = fw1 (mi 2).toInt (mi 20) from (fw1_n (by omega) hp_10)) (Nat.le_of_ble_eq_true rfl) (Nat.le_of_ble_eq_true rfl) dX10_drawSnow_54
    · skip
      have hc_11 := nleE (a := (mi 2).toInt) (b := r_6.toInt) rfl rfl c_11
      refine lv_aload_n (pc := 22) E.1 E.2.1 dX10_drawSnow_22 rfl (lv_at hl3 1 rfl) ?_
      refine lv_bipush (pc := 23) (v := 9) E.1 E.2.1 dX10_drawSnow_23 (by decide +kernel) ?_
      refine lv_aload_n (pc := 25) E.1 E.2.1 dX10_drawSnow_25 rfl (lv_at hl3 1 rfl) ?_
      refine x_get (pc := 26) (T := TX4) (N := 12) (ci := 4) (v := .int (mi 19)) E hw9 inX4 6 8 q_223 rfl rfl (by decide) rfl rfl dX10_drawSnow_26 ?_
      refine lv_iconst (pc := 29) (v := 1) E.1 E.2.1 dX10_drawSnow_29 (by decide +kernel) ?_
      refine lv_iadd (pc := 30) E.1 E.2.1 dX10_drawSnow_30 ?_
      refine lv_topi (fun v_15 ev_15 => ?_)
      refine x_min (pc := 31) E hl3.1 q_1067 q_808 q_167 q_809 (Nat.le_of_ble_eq_true rfl) (Nat.le_of_ble_eq_true rfl) (Nat.le_of_ble_eq_true rfl) (Nat.le_of_ble_eq_true rfl) dX10_drawSnow_31 (fun v_16 hv_16 => ?_)
      rw [show (9 : Int32).toInt = 9 from by decide +kernel] at hv_16
      have hv_16a : v_16.toInt ≤ 9 ∧ v_16.toInt ≤ v_15.toInt := by omega
      clear hv_16
      refine x_put (pc := 34) (T := TX4) (N := 12) (ci := 4) (ws' := (WZ_VO cI cJ mv mr (upd (upd mi 19 v_16) 20 ndraws_8) mf mg)) E hw9 inX4 tyX4_ok nmX4 6 8 q_223 rfl rfl (by decide) rfl rfl rfl rfl (Nat.le_of_ble_eq_true rfl) rfl dX10_drawSnow_34 (fun H locs hw17 => ?_)
      refine lv_goto (pc := 37) (tgt := 54) E.1 E.2.1 dX10_drawSnow_37 (by decide) ?_
      exact em_v (w1 := (fun (u : Int32 × Int32) => (WZ_VO cI cJ mv mr (upd (upd mi 20 u.1) 19 u.2) mf mg))) E hr hlk (ndraws_8, v_16) hw17 (show ndraws_8 = fw1 (mi 2).toInt (mi 20) from (fw1_n (by omega) hp_10)) (Nat.le_of_ble_eq_true rfl) (Nat.le_of_ble_eq_true rfl) dX10_drawSnow_54
  · skip
    have hc_4 := nltE (a := 0) (b := (mi 2).toInt) (by decide +kernel) rfl c_4
    exact em_v (w1 := (fun (u : Int32 × Int32) => (WZ_VO cI cJ mv mr (upd (upd mi 20 u.1) 19 u.2) mf mg))) E hr hlk ((mi 20), (mi 19)) hw1 (show (mi 20) = fw1 (mi 2).toInt (mi 20) from (fw1_0 (by omega) rfl)) (Nat.le_of_ble_eq_true rfl) (Nat.le_of_ble_eq_true rfl) dX10_drawSnow_7
