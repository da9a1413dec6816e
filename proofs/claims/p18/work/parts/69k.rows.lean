set_option maxHeartbeats 4000000 in
set_option maxRecDepth 100000 in
theorem t_keepA (l : Launch) (D : va_G) (cI cJ : ClassId) (sz : Nat) (mr : Nat → Nat) (mi : Nat → Int32) (mf : Nat → Nat → Int32) (mg : Nat → Nat → Int64)  (cN : ClassId) (mv : Nat → Value) (h0 : 0 ≤ (mi 2).toInt ∧ (mi 2).toInt ≤ 5) (h1 : 0 ≤ (mi 3).toInt ∧ (mi 3).toInt ≤ 6) (h2 : 0 ≤ (mi 20).toInt ∧ (mi 20).toInt ≤ 200) (h3 : 0 ≤ (mi 33).toInt ∧ (mi 33).toInt ≤ 200) (h4 : 0 ≤ (mi 46).toInt ∧ (mi 46).toInt ≤ 200) (h5 : 0 ≤ (mi 59).toInt ∧ (mi 59).toInt ≤ 200) (h6 : 0 ≤ (mi 72).toInt ∧ (mi 72).toInt ≤ 200) (h7 : 0 ≤ (mi 85).toInt ∧ (mi 85).toInt ≤ 200) (h8 : 0 ≤ (mi 98).toInt ∧ (mi 98).toInt ≤ 200) : Met l yX11_keepNight (Cond.code yX11_keepNight cX11_keepNight 2 none :: GW) ({ frames := 2, cells := 0, slots := 0, locals := 81 } : Room) (va_Pc [.ref (mr 0)] (PW D cI cJ sz (WZ_Lkeep cI cJ cN mv mr mi mf mg) (xN D cI cJ cN))) (va_Qv (fun (u : (Nat → Int32) × (Nat → Nat → Int32) × (Nat → Nat → Int64)) => (0 ≤ (u.1 2).toInt) ∧ ((u.1 2).toInt ≤ 5) ∧ (0 ≤ (u.1 3).toInt) ∧ ((u.1 3).toInt ≤ 6) ∧ (0 ≤ (u.1 20).toInt) ∧ ((u.1 20).toInt ≤ 200) ∧ (0 ≤ (u.1 33).toInt) ∧ ((u.1 33).toInt ≤ 200) ∧ (0 ≤ (u.1 46).toInt) ∧ ((u.1 46).toInt ≤ 200) ∧ (0 ≤ (u.1 59).toInt) ∧ ((u.1 59).toInt ≤ 200) ∧ (0 ≤ (u.1 72).toInt) ∧ ((u.1 72).toInt ≤ 200) ∧ (0 ≤ (u.1 85).toInt) ∧ ((u.1 85).toInt ≤ 200) ∧ (0 ≤ (u.1 98).toInt) ∧ ((u.1 98).toInt ≤ 200)) (fun u => QW D cI cJ (va_A (WZ_Lkeep cI cJ cN mv mr mi mf mg) sz) ((fun (u : (Nat → Int32) × (Nat → Nat → Int32) × (Nat → Nat → Int64)) => (WZ_Lkeep cI cJ cN mv mr u.1 u.2.1 u.2.2)) u)) (va_A (WZ_Lkeep cI cJ cN mv mr mi mf mg) sz)) 0 0 (va_A (WZ_Lkeep cI cJ cN mv mr mi mf mg) sz) := by
  refine mk_met (y := yX11_keepNight) (bytes := cX11_keepNight) (maxL := 2) (avs := [.ref (mr 0)]) (WS := (WZ_Lkeep cI cJ cN mv mr mi mf mg)) (Qf := fun A => va_Qv (fun (u : (Nat → Int32) × (Nat → Nat → Int32) × (Nat → Nat → Int64)) => (0 ≤ (u.1 2).toInt) ∧ ((u.1 2).toInt ≤ 5) ∧ (0 ≤ (u.1 3).toInt) ∧ ((u.1 3).toInt ≤ 6) ∧ (0 ≤ (u.1 20).toInt) ∧ ((u.1 20).toInt ≤ 200) ∧ (0 ≤ (u.1 33).toInt) ∧ ((u.1 33).toInt ≤ 200) ∧ (0 ≤ (u.1 46).toInt) ∧ ((u.1 46).toInt ≤ 200) ∧ (0 ≤ (u.1 59).toInt) ∧ ((u.1 59).toInt ≤ 200) ∧ (0 ≤ (u.1 72).toInt) ∧ ((u.1 72).toInt ≤ 200) ∧ (0 ≤ (u.1 85).toInt) ∧ ((u.1 85).toInt ≤ 200) ∧ (0 ≤ (u.1 98).toInt) ∧ ((u.1 98).toInt ≤ 200)) (fun u => QW D cI cJ A ((fun (u : (Nat → Int32) × (Nat → Nat → Int32) × (Nat → Nat → Int64)) => (WZ_Lkeep cI cJ cN mv mr u.1 u.2.1 u.2.2)) u)) A) (by decide) (Nat.le_of_ble_eq_true rfl) ?_
  intro p e s m below meth c A ls E hr hlk hnm hX hw1 hl2
  have hl3 : lv_has ls 2 [(0, .ref (mr 0))] := hl2
  rcases (show (mi 2).toInt + (mi 3).toInt = 0 ∨ (mi 2).toInt + (mi 3).toInt = 1 ∨ (mi 2).toInt + (mi 3).toInt = 2 ∨ (mi 2).toInt + (mi 3).toInt = 3 ∨ (mi 2).toInt + (mi 3).toInt = 4 ∨ (mi 2).toInt + (mi 3).toInt = 5 ∨ (mi 2).toInt + (mi 3).toInt = 6 ∨ (mi 2).toInt + (mi 3).toInt = 7 ∨ (mi 2).toInt + (mi 3).toInt = 8 ∨ (mi 2).toInt + (mi 3).toInt = 9 ∨ (mi 2).toInt + (mi 3).toInt = 10 ∨ (mi 2).toInt + (mi 3).toInt = 11 from by omega) with hsp | hsp | hsp | hsp | hsp | hsp | hsp | hsp | hsp | hsp | hsp | hsp
  · skip
    refine lv_aload_n (pc := 0) E.1 E.2.1 dX11_keepNight_0 rfl (lv_at hl3 0 rfl) ?_
    refine x_get (pc := 1) (T := TX11) (N := 13) (ci := 11) (v := .ref (mr 1)) E hw1 inX11 0 8 q_614 rfl rfl (by decide) rfl rfl dX11_keepNight_1 ?_
    refine lv_aload_n (pc := 4) E.1 E.2.1 dX11_keepNight_4 rfl (lv_at hl3 0 rfl) ?_
    refine x_get (pc := 5) (T := TX11) (N := 13) (ci := 11) (v := .int (mi 2)) E hw1 inX11 0 9 q_615 rfl rfl (by decide) rfl rfl dX11_keepNight_5 ?_
    refine lv_aload_n (pc := 8) E.1 E.2.1 dX11_keepNight_8 rfl (lv_at hl3 0 rfl) ?_
    refine x_get (pc := 9) (T := TX11) (N := 13) (ci := 11) (v := .int (mi 3)) E hw1 inX11 0 10 q_616 rfl rfl (by decide) rfl rfl dX11_keepNight_9 ?_
    refine lv_iadd (pc := 12) E.1 E.2.1 dX11_keepNight_12 ?_
    refine lv_topi (fun v_4 ev_4 => ?_)
    have hv_4 : v_4.toInt = (mi 2).toInt + (mi 3).toInt := by rw [ev_4]; exact addE rfl rfl (by omega)
    refine lv_bipush (pc := 13) (v := 6) E.1 E.2.1 dX11_keepNight_13 (by decide +kernel) ?_
    refine lv_irem (pc := 15) E.1 E.2.1 dX11_keepNight_15 (by decide +kernel) ?_
    refine lv_topi (fun v_5 ev_5 => ?_)
    have hbv_5 : v_5.toInt = v_4.toInt := by rw [ev_5]; exact rem6a (by omega)
    refine x_aldq (pc := 16) (k := 0) E hX hw1 1 rfl (by show v_5.toInt = 0; omega) (by decide) rfl dX11_keepNight_16 ?_
    refine lv_astore_n (pc := 17) (lv' := [(1, .ref (mr 22)), (0, .ref (mr 0))]) E.1 E.2.1 dX11_keepNight_17 rfl hl3 (by decide) rfl (fun ls hl6 => ?_)
    refine lv_aload_n (pc := 18) E.1 E.2.1 dX11_keepNight_18 rfl (lv_at hl6 0 rfl) ?_
    refine lv_ifnull (pc := 19) E.1 E.2.1 dX11_keepNight_19 ?_
    refine lv_aload_n (pc := 22) E.1 E.2.1 dX11_keepNight_22 rfl (lv_at hl6 0 rfl) ?_
    refine lv_aload_n (pc := 23) E.1 E.2.1 dX11_keepNight_23 rfl (lv_at hl6 1 rfl) ?_
    refine x_get (pc := 24) (T := TX11) (N := 13) (ci := 11) (v := .ref (mr 4)) E hw1 inX11 0 0 q_606 rfl rfl (by decide) rfl rfl dX11_keepNight_24 ?_
    refine x_get (pc := 27) (T := TX10) (N := 17) (ci := 10) (v := .ref (mr 9)) E hw1 inX10 2 0 q_458 rfl rfl (by decide) rfl rfl dX11_keepNight_27 ?_
    refine cq_v (pc := 30) (ws' := (fun (u : (Nat → Int32) × (Nat → Int32) × (Nat → Int32) × (Nat → Int32) × (Nat → Int32) × Int32 × Int32 × Int32 × Int32 × Int32 × Int32 × Int32) => (WZ_Lkeep cI cJ cN mv mr (upd (upd (upd (upd (upd (upd (upd mi 28 u.2.2.2.2.2.1) 29 u.2.2.2.2.2.2.1) 30 u.2.2.2.2.2.2.2.1) 31 u.2.2.2.2.2.2.2.2.1) 32 u.2.2.2.2.2.2.2.2.2.1) 33 u.2.2.2.2.2.2.2.2.2.2.1) 34 u.2.2.2.2.2.2.2.2.2.2.2) (va_up (va_up (va_up (va_up (va_up mf 23 u.1) 24 u.2.1) 25 u.2.2.1) 26 u.2.2.2.1) 27 u.2.2.2.2.1) mg))) hw1 [9, 10, 11, 12, 13, 14, 3, 4, 5, 6, 7, 8] [0, 1, 2, 15, 16, 17, 18, 19, 20, 21, 22, 23, 24, 25, 26, 27, 28, 29, 30, 31, 32, 33, 34, 35, 36, 37, 38, 39, 40, 41, 42, 43, 44] [0, 1, 2, 39, 40, 41, 42, 43, 44, 33, 34, 35, 36, 37, 38, 3, 4, 5, 6, 7, 8, 9, 10, 11, 12, 13, 14, 15, 16, 17, 18, 19, 20, 21, 22, 23, 24, 25, 26, 27, 28, 29, 30, 31, 32] rfl rfl (by decide) (by decide) (fun _ => rfl) (by decide) (rn_V (As := [.ref (mr 9)]) (rest := []) E hw1 (t_nowTake l D cI cJ _ (shs [(0, 22, 13), (13, 9, 13)] mr) (shs [(0, 22, 13), (13, 9, 13)] mi) (shs [(0, 22, 13), (13, 9, 13)] mf) (shs [(0, 22, 13), (13, 9, 13)] mg) ) (gdV q_999 q_1000 q_1001 q_153 q_1002) hdV_X4_take ⟨rfl, rfl⟩ ⟨(Nat.le_of_ble_eq_true rfl), (Nat.le_of_ble_eq_true rfl)⟩ ⟨(Nat.le_of_ble_eq_true rfl), (Nat.le_of_ble_eq_true rfl)⟩ xT_b xT_at 9 4 rfl rfl rfl [9, 10, 11, 12, 13, 14, 3, 4, 5, 6, 7, 8] rfl (by decide) rfl hl6.1 rfl (Nat.le_of_ble_eq_true rfl) dX11_keepNight_30) (fun u_7 H1 locs hp hw9 => ?_)
    obtain ⟨goil_10, gowed_11, ghad_12, glast_13, gdone_14, nspoilt_15, nlamp_16, nnight_17, nsnow_18, ndraws_19, ngone_20, nlines_21⟩ := u_7
    generalize H1 = H at hw9 ⊢
    have hw22 : WD D A s.heap (WZ_Lkeep cI cJ cN mv mr (upd (upd (upd (upd (upd (upd (upd mi 28 nspoilt_15) 29 nlamp_16) 30 nnight_17) 31 nsnow_18) 32 ndraws_19) 33 ngone_20) 34 nlines_21) (va_up (va_up (va_up (va_up (va_up mf 23 goil_10) 24 gowed_11) 25 ghad_12) 26 glast_13) 27 gdone_14) mg) H locs := hw9
    obtain ⟨hp_23, hp_24, hp_25, hp_26, hp_27, hp_28, hp_29⟩ := hp
    have hp_23 : nspoilt_15.toInt = (mi 15).toInt := hp_23
    have hp_24 : nlamp_16.toInt = (mi 16).toInt := hp_24
    have hp_25 : nnight_17.toInt = (mi 17).toInt := hp_25
    have hp_26 : nsnow_18.toInt = (mi 18).toInt := hp_26
    have hp_27 : ndraws_19.toInt = (mi 19).toInt := hp_27
    have hp_28 : ngone_20.toInt = (mi 20).toInt := hp_28
    have hp_29 : nlines_21.toInt = (mi 21).toInt := hp_29
    refine lv_aload_n (pc := 33) E.1 E.2.1 dX11_keepNight_33 rfl (lv_at hl6 1 rfl) ?_
    refine x_get (pc := 34) (T := TX11) (N := 13) (ci := 11) (v := .int (mi 3)) E hw22 inX11 0 10 q_616 rfl rfl (by decide) rfl rfl dX11_keepNight_34 ?_
    refine lv_bipush (pc := 37) (v := 6) E.1 E.2.1 dX11_keepNight_37 (by decide +kernel) ?_
    refine lv_icmp_ge (pc := 39) (tgt := 55) E.1 E.2.1 dX11_keepNight_39 (by decide) (fun c_30 => absurd c_30 (mnleE (a := 6) (b := (mi 3).toInt) (by decide +kernel) rfl (by omega))) (fun _ => ?_)
    refine lv_aload_n (pc := 42) E.1 E.2.1 dX11_keepNight_42 rfl (lv_at hl6 1 rfl) ?_
    refine lv_dup (pc := 43) E.1 E.2.1 dX11_keepNight_43 rfl ?_
    refine x_get (pc := 44) (T := TX11) (N := 13) (ci := 11) (v := .int (mi 3)) E hw22 inX11 0 10 q_616 rfl rfl (by decide) rfl rfl dX11_keepNight_44 ?_
    refine lv_iconst (pc := 47) (v := 1) E.1 E.2.1 dX11_keepNight_47 (by decide +kernel) ?_
    refine lv_iadd (pc := 48) E.1 E.2.1 dX11_keepNight_48 ?_
    refine lv_topi (fun v_31 ev_31 => ?_)
    have hv_31 : v_31.toInt = (mi 3).toInt + 1 := by rw [ev_31]; exact addE rfl (by decide +kernel) (by omega)
    refine x_put (pc := 49) (T := TX11) (N := 13) (ci := 11) (ws' := (WZ_Lkeep cI cJ cN mv mr (upd (upd (upd (upd (upd (upd (upd (upd mi 3 v_31) 28 nspoilt_15) 29 nlamp_16) 30 nnight_17) 31 nsnow_18) 32 ndraws_19) 33 ngone_20) 34 nlines_21) (va_up (va_up (va_up (va_up (va_up mf 23 goil_10) 24 gowed_11) 25 ghad_12) 26 glast_13) 27 gdone_14) mg)) E hw22 inX11 tyX11_ok nmX11 0 10 q_616 rfl rfl (by decide) rfl rfl rfl rfl (Nat.le_of_ble_eq_true rfl) rfl dX11_keepNight_49 (fun H locs hw32 => ?_)
    refine lv_goto (pc := 52) (tgt := 68) E.1 E.2.1 dX11_keepNight_52 (by decide) ?_
    exact em_v (w1 := (fun (u : (Nat → Int32) × (Nat → Nat → Int32) × (Nat → Nat → Int64)) => (WZ_Lkeep cI cJ cN mv mr u.1 u.2.1 u.2.2))) E hr hlk ((upd (upd (upd (upd (upd (upd (upd (upd mi 3 v_31) 28 nspoilt_15) 29 nlamp_16) 30 nnight_17) 31 nsnow_18) 32 ndraws_19) 33 ngone_20) 34 nlines_21), (va_up (va_up (va_up (va_up (va_up mf 23 goil_10) 24 gowed_11) 25 ghad_12) 26 glast_13) 27 gdone_14), mg) hw32 ⟨h0.1, h0.2, (by show 0 ≤ v_31.toInt; omega), (by show v_31.toInt ≤ 6; omega), h2.1, h2.2, (by show 0 ≤ ngone_20.toInt; omega), (by show ngone_20.toInt ≤ 200; omega), h4.1, h4.2, h5.1, h5.2, h6.1, h6.2, h7.1, h7.2, h8.1, h8.2⟩ (Nat.le_of_ble_eq_true rfl) (Nat.le_of_ble_eq_true rfl) dX11_keepNight_68
  · skip
    refine lv_aload_n (pc := 0) E.1 E.2.1 dX11_keepNight_0 rfl (lv_at hl3 0 rfl) ?_
    refine x_get (pc := 1) (T := TX11) (N := 13) (ci := 11) (v := .ref (mr 1)) E hw1 inX11 0 8 q_614 rfl rfl (by decide) rfl rfl dX11_keepNight_1 ?_
    refine lv_aload_n (pc := 4) E.1 E.2.1 dX11_keepNight_4 rfl (lv_at hl3 0 rfl) ?_
    refine x_get (pc := 5) (T := TX11) (N := 13) (ci := 11) (v := .int (mi 2)) E hw1 inX11 0 9 q_615 rfl rfl (by decide) rfl rfl dX11_keepNight_5 ?_
    refine lv_aload_n (pc := 8) E.1 E.2.1 dX11_keepNight_8 rfl (lv_at hl3 0 rfl) ?_
    refine x_get (pc := 9) (T := TX11) (N := 13) (ci := 11) (v := .int (mi 3)) E hw1 inX11 0 10 q_616 rfl rfl (by decide) rfl rfl dX11_keepNight_9 ?_
    refine lv_iadd (pc := 12) E.1 E.2.1 dX11_keepNight_12 ?_
    refine lv_topi (fun v_33 ev_33 => ?_)
    have hv_33 : v_33.toInt = (mi 2).toInt + (mi 3).toInt := by rw [ev_33]; exact addE rfl rfl (by omega)
    refine lv_bipush (pc := 13) (v := 6) E.1 E.2.1 dX11_keepNight_13 (by decide +kernel) ?_
    refine lv_irem (pc := 15) E.1 E.2.1 dX11_keepNight_15 (by decide +kernel) ?_
    refine lv_topi (fun v_34 ev_34 => ?_)
    have hbv_34 : v_34.toInt = v_33.toInt := by rw [ev_34]; exact rem6a (by omega)
    refine x_aldq (pc := 16) (k := 1) E hX hw1 1 rfl (by show v_34.toInt = 1; omega) (by decide) rfl dX11_keepNight_16 ?_
    refine lv_astore_n (pc := 17) (lv' := [(1, .ref (mr 35)), (0, .ref (mr 0))]) E.1 E.2.1 dX11_keepNight_17 rfl hl3 (by decide) rfl (fun ls hl35 => ?_)
    refine lv_aload_n (pc := 18) E.1 E.2.1 dX11_keepNight_18 rfl (lv_at hl35 0 rfl) ?_
    refine lv_ifnull (pc := 19) E.1 E.2.1 dX11_keepNight_19 ?_
    refine lv_aload_n (pc := 22) E.1 E.2.1 dX11_keepNight_22 rfl (lv_at hl35 0 rfl) ?_
    refine lv_aload_n (pc := 23) E.1 E.2.1 dX11_keepNight_23 rfl (lv_at hl35 1 rfl) ?_
    refine x_get (pc := 24) (T := TX11) (N := 13) (ci := 11) (v := .ref (mr 4)) E hw1 inX11 0 0 q_606 rfl rfl (by decide) rfl rfl dX11_keepNight_24 ?_
    refine x_get (pc := 27) (T := TX10) (N := 17) (ci := 10) (v := .ref (mr 9)) E hw1 inX10 2 0 q_458 rfl rfl (by decide) rfl rfl dX11_keepNight_27 ?_
    refine cq_v (pc := 30) (ws' := (fun (u : (Nat → Int32) × (Nat → Int32) × (Nat → Int32) × (Nat → Int32) × (Nat → Int32) × Int32 × Int32 × Int32 × Int32 × Int32 × Int32 × Int32) => (WZ_Lkeep cI cJ cN mv mr (upd (upd (upd (upd (upd (upd (upd mi 41 u.2.2.2.2.2.1) 42 u.2.2.2.2.2.2.1) 43 u.2.2.2.2.2.2.2.1) 44 u.2.2.2.2.2.2.2.2.1) 45 u.2.2.2.2.2.2.2.2.2.1) 46 u.2.2.2.2.2.2.2.2.2.2.1) 47 u.2.2.2.2.2.2.2.2.2.2.2) (va_up (va_up (va_up (va_up (va_up mf 36 u.1) 37 u.2.1) 38 u.2.2.1) 39 u.2.2.2.1) 40 u.2.2.2.2.1) mg))) hw1 [15, 16, 17, 18, 19, 20, 3, 4, 5, 6, 7, 8] [0, 1, 2, 9, 10, 11, 12, 13, 14, 21, 22, 23, 24, 25, 26, 27, 28, 29, 30, 31, 32, 33, 34, 35, 36, 37, 38, 39, 40, 41, 42, 43, 44] [0, 1, 2, 39, 40, 41, 42, 43, 44, 3, 4, 5, 6, 7, 8, 33, 34, 35, 36, 37, 38, 9, 10, 11, 12, 13, 14, 15, 16, 17, 18, 19, 20, 21, 22, 23, 24, 25, 26, 27, 28, 29, 30, 31, 32] rfl rfl (by decide) (by decide) (fun _ => rfl) (by decide) (rn_V (As := [.ref (mr 9)]) (rest := []) E hw1 (t_nowTake l D cI cJ _ (shs [(0, 35, 13), (13, 9, 13)] mr) (shs [(0, 35, 13), (13, 9, 13)] mi) (shs [(0, 35, 13), (13, 9, 13)] mf) (shs [(0, 35, 13), (13, 9, 13)] mg) ) (gdV q_999 q_1000 q_1001 q_153 q_1002) hdV_X4_take ⟨rfl, rfl⟩ ⟨(Nat.le_of_ble_eq_true rfl), (Nat.le_of_ble_eq_true rfl)⟩ ⟨(Nat.le_of_ble_eq_true rfl), (Nat.le_of_ble_eq_true rfl)⟩ xT_b xT_at 15 4 rfl rfl rfl [15, 16, 17, 18, 19, 20, 3, 4, 5, 6, 7, 8] rfl (by decide) rfl hl35.1 rfl (Nat.le_of_ble_eq_true rfl) dX11_keepNight_30) (fun u_36 H1 locs hp hw38 => ?_)
    obtain ⟨goil_39, gowed_40, ghad_41, glast_42, gdone_43, nspoilt_44, nlamp_45, nnight_46, nsnow_47, ndraws_48, ngone_49, nlines_50⟩ := u_36
    generalize H1 = H at hw38 ⊢
    have hw51 : WD D A s.heap (WZ_Lkeep cI cJ cN mv mr (upd (upd (upd (upd (upd (upd (upd mi 41 nspoilt_44) 42 nlamp_45) 43 nnight_46) 44 nsnow_47) 45 ndraws_48) 46 ngone_49) 47 nlines_50) (va_up (va_up (va_up (va_up (va_up mf 36 goil_39) 37 gowed_40) 38 ghad_41) 39 glast_42) 40 gdone_43) mg) H locs := hw38
    obtain ⟨hp_52, hp_53, hp_54, hp_55, hp_56, hp_57, hp_58⟩ := hp
    have hp_52 : nspoilt_44.toInt = (mi 15).toInt := hp_52
    have hp_53 : nlamp_45.toInt = (mi 16).toInt := hp_53
    have hp_54 : nnight_46.toInt = (mi 17).toInt := hp_54
    have hp_55 : nsnow_47.toInt = (mi 18).toInt := hp_55
    have hp_56 : ndraws_48.toInt = (mi 19).toInt := hp_56
    have hp_57 : ngone_49.toInt = (mi 20).toInt := hp_57
    have hp_58 : nlines_50.toInt = (mi 21).toInt := hp_58
    refine lv_aload_n (pc := 33) E.1 E.2.1 dX11_keepNight_33 rfl (lv_at hl35 1 rfl) ?_
    refine x_get (pc := 34) (T := TX11) (N := 13) (ci := 11) (v := .int (mi 3)) E hw51 inX11 0 10 q_616 rfl rfl (by decide) rfl rfl dX11_keepNight_34 ?_
    refine lv_bipush (pc := 37) (v := 6) E.1 E.2.1 dX11_keepNight_37 (by decide +kernel) ?_
    refine lv_icmp_ge (pc := 39) (tgt := 55) E.1 E.2.1 dX11_keepNight_39 (by decide) (fun c_59 => absurd c_59 (mnleE (a := 6) (b := (mi 3).toInt) (by decide +kernel) rfl (by omega))) (fun _ => ?_)
    refine lv_aload_n (pc := 42) E.1 E.2.1 dX11_keepNight_42 rfl (lv_at hl35 1 rfl) ?_
    refine lv_dup (pc := 43) E.1 E.2.1 dX11_keepNight_43 rfl ?_
    refine x_get (pc := 44) (T := TX11) (N := 13) (ci := 11) (v := .int (mi 3)) E hw51 inX11 0 10 q_616 rfl rfl (by decide) rfl rfl dX11_keepNight_44 ?_
    refine lv_iconst (pc := 47) (v := 1) E.1 E.2.1 dX11_keepNight_47 (by decide +kernel) ?_
    refine lv_iadd (pc := 48) E.1 E.2.1 dX11_keepNight_48 ?_
    refine lv_topi (fun v_60 ev_60 => ?_)
    have hv_60 : v_60.toInt = (mi 3).toInt + 1 := by rw [ev_60]; exact addE rfl (by decide +kernel) (by omega)
    refine x_put (pc := 49) (T := TX11) (N := 13) (ci := 11) (ws' := (WZ_Lkeep cI cJ cN mv mr (upd (upd (upd (upd (upd (upd (upd (upd mi 3 v_60) 41 nspoilt_44) 42 nlamp_45) 43 nnight_46) 44 nsnow_47) 45 ndraws_48) 46 ngone_49) 47 nlines_50) (va_up (va_up (va_up (va_up (va_up mf 36 goil_39) 37 gowed_40) 38 ghad_41) 39 glast_42) 40 gdone_43) mg)) E hw51 inX11 tyX11_ok nmX11 0 10 q_616 rfl rfl (by decide) rfl rfl rfl rfl (Nat.le_of_ble_eq_true rfl) rfl dX11_keepNight_49 (fun H locs hw61 => ?_)
    refine lv_goto (pc := 52) (tgt := 68) E.1 E.2.1 dX11_keepNight_52 (by decide) ?_
    exact em_v (w1 := (fun (u : (Nat → Int32) × (Nat → Nat → Int32) × (Nat → Nat → Int64)) => (WZ_Lkeep cI cJ cN mv mr u.1 u.2.1 u.2.2))) E hr hlk ((upd (upd (upd (upd (upd (upd (upd (upd mi 3 v_60) 41 nspoilt_44) 42 nlamp_45) 43 nnight_46) 44 nsnow_47) 45 ndraws_48) 46 ngone_49) 47 nlines_50), (va_up (va_up (va_up (va_up (va_up mf 36 goil_39) 37 gowed_40) 38 ghad_41) 39 glast_42) 40 gdone_43), mg) hw61 ⟨h0.1, h0.2, (by show 0 ≤ v_60.toInt; omega), (by show v_60.toInt ≤ 6; omega), h2.1, h2.2, h3.1, h3.2, (by show 0 ≤ ngone_49.toInt; omega), (by show ngone_49.toInt ≤ 200; omega), h5.1, h5.2, h6.1, h6.2, h7.1, h7.2, h8.1, h8.2⟩ (Nat.le_of_ble_eq_true rfl) (Nat.le_of_ble_eq_true rfl) dX11_keepNight_68
  · skip
    refine lv_aload_n (pc := 0) E.1 E.2.1 dX11_keepNight_0 rfl (lv_at hl3 0 rfl) ?_
    refine x_get (pc := 1) (T := TX11) (N := 13) (ci := 11) (v := .ref (mr 1)) E hw1 inX11 0 8 q_614 rfl rfl (by decide) rfl rfl dX11_keepNight_1 ?_
    refine lv_aload_n (pc := 4) E.1 E.2.1 dX11_keepNight_4 rfl (lv_at hl3 0 rfl) ?_
    refine x_get (pc := 5) (T := TX11) (N := 13) (ci := 11) (v := .int (mi 2)) E hw1 inX11 0 9 q_615 rfl rfl (by decide) rfl rfl dX11_keepNight_5 ?_
    refine lv_aload_n (pc := 8) E.1 E.2.1 dX11_keepNight_8 rfl (lv_at hl3 0 rfl) ?_
    refine x_get (pc := 9) (T := TX11) (N := 13) (ci := 11) (v := .int (mi 3)) E hw1 inX11 0 10 q_616 rfl rfl (by decide) rfl rfl dX11_keepNight_9 ?_
    refine lv_iadd (pc := 12) E.1 E.2.1 dX11_keepNight_12 ?_
    refine lv_topi (fun v_62 ev_62 => ?_)
    have hv_62 : v_62.toInt = (mi 2).toInt + (mi 3).toInt := by rw [ev_62]; exact addE rfl rfl (by omega)
    refine lv_bipush (pc := 13) (v := 6) E.1 E.2.1 dX11_keepNight_13 (by decide +kernel) ?_
    refine lv_irem (pc := 15) E.1 E.2.1 dX11_keepNight_15 (by decide +kernel) ?_
    refine lv_topi (fun v_63 ev_63 => ?_)
    have hbv_63 : v_63.toInt = v_62.toInt := by rw [ev_63]; exact rem6a (by omega)
    refine x_aldq (pc := 16) (k := 2) E hX hw1 1 rfl (by show v_63.toInt = 2; omega) (by decide) rfl dX11_keepNight_16 ?_
    refine lv_astore_n (pc := 17) (lv' := [(1, .ref (mr 48)), (0, .ref (mr 0))]) E.1 E.2.1 dX11_keepNight_17 rfl hl3 (by decide) rfl (fun ls hl64 => ?_)
    refine lv_aload_n (pc := 18) E.1 E.2.1 dX11_keepNight_18 rfl (lv_at hl64 0 rfl) ?_
    refine lv_ifnull (pc := 19) E.1 E.2.1 dX11_keepNight_19 ?_
    refine lv_aload_n (pc := 22) E.1 E.2.1 dX11_keepNight_22 rfl (lv_at hl64 0 rfl) ?_
    refine lv_aload_n (pc := 23) E.1 E.2.1 dX11_keepNight_23 rfl (lv_at hl64 1 rfl) ?_
    refine x_get (pc := 24) (T := TX11) (N := 13) (ci := 11) (v := .ref (mr 4)) E hw1 inX11 0 0 q_606 rfl rfl (by decide) rfl rfl dX11_keepNight_24 ?_
    refine x_get (pc := 27) (T := TX10) (N := 17) (ci := 10) (v := .ref (mr 9)) E hw1 inX10 2 0 q_458 rfl rfl (by decide) rfl rfl dX11_keepNight_27 ?_
    refine cq_v (pc := 30) (ws' := (fun (u : (Nat → Int32) × (Nat → Int32) × (Nat → Int32) × (Nat → Int32) × (Nat → Int32) × Int32 × Int32 × Int32 × Int32 × Int32 × Int32 × Int32) => (WZ_Lkeep cI cJ cN mv mr (upd (upd (upd (upd (upd (upd (upd mi 54 u.2.2.2.2.2.1) 55 u.2.2.2.2.2.2.1) 56 u.2.2.2.2.2.2.2.1) 57 u.2.2.2.2.2.2.2.2.1) 58 u.2.2.2.2.2.2.2.2.2.1) 59 u.2.2.2.2.2.2.2.2.2.2.1) 60 u.2.2.2.2.2.2.2.2.2.2.2) (va_up (va_up (va_up (va_up (va_up mf 49 u.1) 50 u.2.1) 51 u.2.2.1) 52 u.2.2.2.1) 53 u.2.2.2.2.1) mg))) hw1 [21, 22, 23, 24, 25, 26, 3, 4, 5, 6, 7, 8] [0, 1, 2, 9, 10, 11, 12, 13, 14, 15, 16, 17, 18, 19, 20, 27, 28, 29, 30, 31, 32, 33, 34, 35, 36, 37, 38, 39, 40, 41, 42, 43, 44] [0, 1, 2, 39, 40, 41, 42, 43, 44, 3, 4, 5, 6, 7, 8, 9, 10, 11, 12, 13, 14, 33, 34, 35, 36, 37, 38, 15, 16, 17, 18, 19, 20, 21, 22, 23, 24, 25, 26, 27, 28, 29, 30, 31, 32] rfl rfl (by decide) (by decide) (fun _ => rfl) (by decide) (rn_V (As := [.ref (mr 9)]) (rest := []) E hw1 (t_nowTake l D cI cJ _ (shs [(0, 48, 13), (13, 9, 13)] mr) (shs [(0, 48, 13), (13, 9, 13)] mi) (shs [(0, 48, 13), (13, 9, 13)] mf) (shs [(0, 48, 13), (13, 9, 13)] mg) ) (gdV q_999 q_1000 q_1001 q_153 q_1002) hdV_X4_take ⟨rfl, rfl⟩ ⟨(Nat.le_of_ble_eq_true rfl), (Nat.le_of_ble_eq_true rfl)⟩ ⟨(Nat.le_of_ble_eq_true rfl), (Nat.le_of_ble_eq_true rfl)⟩ xT_b xT_at 21 4 rfl rfl rfl [21, 22, 23, 24, 25, 26, 3, 4, 5, 6, 7, 8] rfl (by decide) rfl hl64.1 rfl (Nat.le_of_ble_eq_true rfl) dX11_keepNight_30) (fun u_65 H1 locs hp hw67 => ?_)
    obtain ⟨goil_68, gowed_69, ghad_70, glast_71, gdone_72, nspoilt_73, nlamp_74, nnight_75, nsnow_76, ndraws_77, ngone_78, nlines_79⟩ := u_65
    generalize H1 = H at hw67 ⊢
    have hw80 : WD D A s.heap (WZ_Lkeep cI cJ cN mv mr (upd (upd (upd (upd (upd (upd (upd mi 54 nspoilt_73) 55 nlamp_74) 56 nnight_75) 57 nsnow_76) 58 ndraws_77) 59 ngone_78) 60 nlines_79) (va_up (va_up (va_up (va_up (va_up mf 49 goil_68) 50 gowed_69) 51 ghad_70) 52 glast_71) 53 gdone_72) mg) H locs := hw67
    obtain ⟨hp_81, hp_82, hp_83, hp_84, hp_85, hp_86, hp_87⟩ := hp
    have hp_81 : nspoilt_73.toInt = (mi 15).toInt := hp_81
    have hp_82 : nlamp_74.toInt = (mi 16).toInt := hp_82
    have hp_83 : nnight_75.toInt = (mi 17).toInt := hp_83
    have hp_84 : nsnow_76.toInt = (mi 18).toInt := hp_84
    have hp_85 : ndraws_77.toInt = (mi 19).toInt := hp_85
    have hp_86 : ngone_78.toInt = (mi 20).toInt := hp_86
    have hp_87 : nlines_79.toInt = (mi 21).toInt := hp_87
    refine lv_aload_n (pc := 33) E.1 E.2.1 dX11_keepNight_33 rfl (lv_at hl64 1 rfl) ?_
    refine x_get (pc := 34) (T := TX11) (N := 13) (ci := 11) (v := .int (mi 3)) E hw80 inX11 0 10 q_616 rfl rfl (by decide) rfl rfl dX11_keepNight_34 ?_
    refine lv_bipush (pc := 37) (v := 6) E.1 E.2.1 dX11_keepNight_37 (by decide +kernel) ?_
    refine lv_icmp_ge (pc := 39) (tgt := 55) E.1 E.2.1 dX11_keepNight_39 (by decide) (fun c_88 => absurd c_88 (mnleE (a := 6) (b := (mi 3).toInt) (by decide +kernel) rfl (by omega))) (fun _ => ?_)
    refine lv_aload_n (pc := 42) E.1 E.2.1 dX11_keepNight_42 rfl (lv_at hl64 1 rfl) ?_
    refine lv_dup (pc := 43) E.1 E.2.1 dX11_keepNight_43 rfl ?_
    refine x_get (pc := 44) (T := TX11) (N := 13) (ci := 11) (v := .int (mi 3)) E hw80 inX11 0 10 q_616 rfl rfl (by decide) rfl rfl dX11_keepNight_44 ?_
    refine lv_iconst (pc := 47) (v := 1) E.1 E.2.1 dX11_keepNight_47 (by decide +kernel) ?_
    refine lv_iadd (pc := 48) E.1 E.2.1 dX11_keepNight_48 ?_
    refine lv_topi (fun v_89 ev_89 => ?_)
    have hv_89 : v_89.toInt = (mi 3).toInt + 1 := by rw [ev_89]; exact addE rfl (by decide +kernel) (by omega)
    refine x_put (pc := 49) (T := TX11) (N := 13) (ci := 11) (ws' := (WZ_Lkeep cI cJ cN mv mr (upd (upd (upd (upd (upd (upd (upd (upd mi 3 v_89) 54 nspoilt_73) 55 nlamp_74) 56 nnight_75) 57 nsnow_76) 58 ndraws_77) 59 ngone_78) 60 nlines_79) (va_up (va_up (va_up (va_up (va_up mf 49 goil_68) 50 gowed_69) 51 ghad_70) 52 glast_71) 53 gdone_72) mg)) E hw80 inX11 tyX11_ok nmX11 0 10 q_616 rfl rfl (by decide) rfl rfl rfl rfl (Nat.le_of_ble_eq_true rfl) rfl dX11_keepNight_49 (fun H locs hw90 => ?_)
    refine lv_goto (pc := 52) (tgt := 68) E.1 E.2.1 dX11_keepNight_52 (by decide) ?_
    exact em_v (w1 := (fun (u : (Nat → Int32) × (Nat → Nat → Int32) × (Nat → Nat → Int64)) => (WZ_Lkeep cI cJ cN mv mr u.1 u.2.1 u.2.2))) E hr hlk ((upd (upd (upd (upd (upd (upd (upd (upd mi 3 v_89) 54 nspoilt_73) 55 nlamp_74) 56 nnight_75) 57 nsnow_76) 58 ndraws_77) 59 ngone_78) 60 nlines_79), (va_up (va_up (va_up (va_up (va_up mf 49 goil_68) 50 gowed_69) 51 ghad_70) 52 glast_71) 53 gdone_72), mg) hw90 ⟨h0.1, h0.2, (by show 0 ≤ v_89.toInt; omega), (by show v_89.toInt ≤ 6; omega), h2.1, h2.2, h3.1, h3.2, h4.1, h4.2, (by show 0 ≤ ngone_78.toInt; omega), (by show ngone_78.toInt ≤ 200; omega), h6.1, h6.2, h7.1, h7.2, h8.1, h8.2⟩ (Nat.le_of_ble_eq_true rfl) (Nat.le_of_ble_eq_true rfl) dX11_keepNight_68
  · skip
    refine lv_aload_n (pc := 0) E.1 E.2.1 dX11_keepNight_0 rfl (lv_at hl3 0 rfl) ?_
    refine x_get (pc := 1) (T := TX11) (N := 13) (ci := 11) (v := .ref (mr 1)) E hw1 inX11 0 8 q_614 rfl rfl (by decide) rfl rfl dX11_keepNight_1 ?_
    refine lv_aload_n (pc := 4) E.1 E.2.1 dX11_keepNight_4 rfl (lv_at hl3 0 rfl) ?_
    refine x_get (pc := 5) (T := TX11) (N := 13) (ci := 11) (v := .int (mi 2)) E hw1 inX11 0 9 q_615 rfl rfl (by decide) rfl rfl dX11_keepNight_5 ?_
    refine lv_aload_n (pc := 8) E.1 E.2.1 dX11_keepNight_8 rfl (lv_at hl3 0 rfl) ?_
    refine x_get (pc := 9) (T := TX11) (N := 13) (ci := 11) (v := .int (mi 3)) E hw1 inX11 0 10 q_616 rfl rfl (by decide) rfl rfl dX11_keepNight_9 ?_
    refine lv_iadd (pc := 12) E.1 E.2.1 dX11_keepNight_12 ?_
    refine lv_topi (fun v_91 ev_91 => ?_)
    have hv_91 : v_91.toInt = (mi 2).toInt + (mi 3).toInt := by rw [ev_91]; exact addE rfl rfl (by omega)
    refine lv_bipush (pc := 13) (v := 6) E.1 E.2.1 dX11_keepNight_13 (by decide +kernel) ?_
    refine lv_irem (pc := 15) E.1 E.2.1 dX11_keepNight_15 (by decide +kernel) ?_
    refine lv_topi (fun v_92 ev_92 => ?_)
    have hbv_92 : v_92.toInt = v_91.toInt := by rw [ev_92]; exact rem6a (by omega)
    refine x_aldq (pc := 16) (k := 3) E hX hw1 1 rfl (by show v_92.toInt = 3; omega) (by decide) rfl dX11_keepNight_16 ?_
    refine lv_astore_n (pc := 17) (lv' := [(1, .ref (mr 61)), (0, .ref (mr 0))]) E.1 E.2.1 dX11_keepNight_17 rfl hl3 (by decide) rfl (fun ls hl93 => ?_)
    refine lv_aload_n (pc := 18) E.1 E.2.1 dX11_keepNight_18 rfl (lv_at hl93 0 rfl) ?_
    refine lv_ifnull (pc := 19) E.1 E.2.1 dX11_keepNight_19 ?_
    refine lv_aload_n (pc := 22) E.1 E.2.1 dX11_keepNight_22 rfl (lv_at hl93 0 rfl) ?_
    refine lv_aload_n (pc := 23) E.1 E.2.1 dX11_keepNight_23 rfl (lv_at hl93 1 rfl) ?_
    refine x_get (pc := 24) (T := TX11) (N := 13) (ci := 11) (v := .ref (mr 4)) E hw1 inX11 0 0 q_606 rfl rfl (by decide) rfl rfl dX11_keepNight_24 ?_
    refine x_get (pc := 27) (T := TX10) (N := 17) (ci := 10) (v := .ref (mr 9)) E hw1 inX10 2 0 q_458 rfl rfl (by decide) rfl rfl dX11_keepNight_27 ?_
    refine cq_v (pc := 30) (ws' := (fun (u : (Nat → Int32) × (Nat → Int32) × (Nat → Int32) × (Nat → Int32) × (Nat → Int32) × Int32 × Int32 × Int32 × Int32 × Int32 × Int32 × Int32) => (WZ_Lkeep cI cJ cN mv mr (upd (upd (upd (upd (upd (upd (upd mi 67 u.2.2.2.2.2.1) 68 u.2.2.2.2.2.2.1) 69 u.2.2.2.2.2.2.2.1) 70 u.2.2.2.2.2.2.2.2.1) 71 u.2.2.2.2.2.2.2.2.2.1) 72 u.2.2.2.2.2.2.2.2.2.2.1) 73 u.2.2.2.2.2.2.2.2.2.2.2) (va_up (va_up (va_up (va_up (va_up mf 62 u.1) 63 u.2.1) 64 u.2.2.1) 65 u.2.2.2.1) 66 u.2.2.2.2.1) mg))) hw1 [27, 28, 29, 30, 31, 32, 3, 4, 5, 6, 7, 8] [0, 1, 2, 9, 10, 11, 12, 13, 14, 15, 16, 17, 18, 19, 20, 21, 22, 23, 24, 25, 26, 33, 34, 35, 36, 37, 38, 39, 40, 41, 42, 43, 44] [0, 1, 2, 39, 40, 41, 42, 43, 44, 3, 4, 5, 6, 7, 8, 9, 10, 11, 12, 13, 14, 15, 16, 17, 18, 19, 20, 33, 34, 35, 36, 37, 38, 21, 22, 23, 24, 25, 26, 27, 28, 29, 30, 31, 32] rfl rfl (by decide) (by decide) (fun _ => rfl) (by decide) (rn_V (As := [.ref (mr 9)]) (rest := []) E hw1 (t_nowTake l D cI cJ _ (shs [(0, 61, 13), (13, 9, 13)] mr) (shs [(0, 61, 13), (13, 9, 13)] mi) (shs [(0, 61, 13), (13, 9, 13)] mf) (shs [(0, 61, 13), (13, 9, 13)] mg) ) (gdV q_999 q_1000 q_1001 q_153 q_1002) hdV_X4_take ⟨rfl, rfl⟩ ⟨(Nat.le_of_ble_eq_true rfl), (Nat.le_of_ble_eq_true rfl)⟩ ⟨(Nat.le_of_ble_eq_true rfl), (Nat.le_of_ble_eq_true rfl)⟩ xT_b xT_at 27 4 rfl rfl rfl [27, 28, 29, 30, 31, 32, 3, 4, 5, 6, 7, 8] rfl (by decide) rfl hl93.1 rfl (Nat.le_of_ble_eq_true rfl) dX11_keepNight_30) (fun u_94 H1 locs hp hw96 => ?_)
    obtain ⟨goil_97, gowed_98, ghad_99, glast_100, gdone_101, nspoilt_102, nlamp_103, nnight_104, nsnow_105, ndraws_106, ngone_107, nlines_108⟩ := u_94
    generalize H1 = H at hw96 ⊢
    have hw109 : WD D A s.heap (WZ_Lkeep cI cJ cN mv mr (upd (upd (upd (upd (upd (upd (upd mi 67 nspoilt_102) 68 nlamp_103) 69 nnight_104) 70 nsnow_105) 71 ndraws_106) 72 ngone_107) 73 nlines_108) (va_up (va_up (va_up (va_up (va_up mf 62 goil_97) 63 gowed_98) 64 ghad_99) 65 glast_100) 66 gdone_101) mg) H locs := hw96
    obtain ⟨hp_110, hp_111, hp_112, hp_113, hp_114, hp_115, hp_116⟩ := hp
    have hp_110 : nspoilt_102.toInt = (mi 15).toInt := hp_110
    have hp_111 : nlamp_103.toInt = (mi 16).toInt := hp_111
    have hp_112 : nnight_104.toInt = (mi 17).toInt := hp_112
    have hp_113 : nsnow_105.toInt = (mi 18).toInt := hp_113
    have hp_114 : ndraws_106.toInt = (mi 19).toInt := hp_114
    have hp_115 : ngone_107.toInt = (mi 20).toInt := hp_115
    have hp_116 : nlines_108.toInt = (mi 21).toInt := hp_116
    refine lv_aload_n (pc := 33) E.1 E.2.1 dX11_keepNight_33 rfl (lv_at hl93 1 rfl) ?_
    refine x_get (pc := 34) (T := TX11) (N := 13) (ci := 11) (v := .int (mi 3)) E hw109 inX11 0 10 q_616 rfl rfl (by decide) rfl rfl dX11_keepNight_34 ?_
    refine lv_bipush (pc := 37) (v := 6) E.1 E.2.1 dX11_keepNight_37 (by decide +kernel) ?_
    refine lv_icmp_ge (pc := 39) (tgt := 55) E.1 E.2.1 dX11_keepNight_39 (by decide) (fun c_117 => absurd c_117 (mnleE (a := 6) (b := (mi 3).toInt) (by decide +kernel) rfl (by omega))) (fun _ => ?_)
    refine lv_aload_n (pc := 42) E.1 E.2.1 dX11_keepNight_42 rfl (lv_at hl93 1 rfl) ?_
    refine lv_dup (pc := 43) E.1 E.2.1 dX11_keepNight_43 rfl ?_
    refine x_get (pc := 44) (T := TX11) (N := 13) (ci := 11) (v := .int (mi 3)) E hw109 inX11 0 10 q_616 rfl rfl (by decide) rfl rfl dX11_keepNight_44 ?_
    refine lv_iconst (pc := 47) (v := 1) E.1 E.2.1 dX11_keepNight_47 (by decide +kernel) ?_
    refine lv_iadd (pc := 48) E.1 E.2.1 dX11_keepNight_48 ?_
    refine lv_topi (fun v_118 ev_118 => ?_)
    have hv_118 : v_118.toInt = (mi 3).toInt + 1 := by rw [ev_118]; exact addE rfl (by decide +kernel) (by omega)
    refine x_put (pc := 49) (T := TX11) (N := 13) (ci := 11) (ws' := (WZ_Lkeep cI cJ cN mv mr (upd (upd (upd (upd (upd (upd (upd (upd mi 3 v_118) 67 nspoilt_102) 68 nlamp_103) 69 nnight_104) 70 nsnow_105) 71 ndraws_106) 72 ngone_107) 73 nlines_108) (va_up (va_up (va_up (va_up (va_up mf 62 goil_97) 63 gowed_98) 64 ghad_99) 65 glast_100) 66 gdone_101) mg)) E hw109 inX11 tyX11_ok nmX11 0 10 q_616 rfl rfl (by decide) rfl rfl rfl rfl (Nat.le_of_ble_eq_true rfl) rfl dX11_keepNight_49 (fun H locs hw119 => ?_)
    refine lv_goto (pc := 52) (tgt := 68) E.1 E.2.1 dX11_keepNight_52 (by decide) ?_
    exact em_v (w1 := (fun (u : (Nat → Int32) × (Nat → Nat → Int32) × (Nat → Nat → Int64)) => (WZ_Lkeep cI cJ cN mv mr u.1 u.2.1 u.2.2))) E hr hlk ((upd (upd (upd (upd (upd (upd (upd (upd mi 3 v_118) 67 nspoilt_102) 68 nlamp_103) 69 nnight_104) 70 nsnow_105) 71 ndraws_106) 72 ngone_107) 73 nlines_108), (va_up (va_up (va_up (va_up (va_up mf 62 goil_97) 63 gowed_98) 64 ghad_99) 65 glast_100) 66 gdone_101), mg) hw119 ⟨h0.1, h0.2, (by show 0 ≤ v_118.toInt; omega), (by show v_118.toInt ≤ 6; omega), h2.1, h2.2, h3.1, h3.2, h4.1, h4.2, h5.1, h5.2, (by show 0 ≤ ngone_107.toInt; omega), (by show ngone_107.toInt ≤ 200; omega), h7.1, h7.2, h8.1, h8.2⟩ (Nat.le_of_ble_eq_true rfl) (Nat.le_of_ble_eq_true rfl) dX11_keepNight_68
  · skip
    refine lv_aload_n (pc := 0) E.1 E.2.1 dX11_keepNight_0 rfl (lv_at hl3 0 rfl) ?_
    refine x_get (pc := 1) (T := TX11) (N := 13) (ci := 11) (v := .ref (mr 1)) E hw1 inX11 0 8 q_614 rfl rfl (by decide) rfl rfl dX11_keepNight_1 ?_
    refine lv_aload_n (pc := 4) E.1 E.2.1 dX11_keepNight_4 rfl (lv_at hl3 0 rfl) ?_
    refine x_get (pc := 5) (T := TX11) (N := 13) (ci := 11) (v := .int (mi 2)) E hw1 inX11 0 9 q_615 rfl rfl (by decide) rfl rfl dX11_keepNight_5 ?_
    refine lv_aload_n (pc := 8) E.1 E.2.1 dX11_keepNight_8 rfl (lv_at hl3 0 rfl) ?_
    refine x_get (pc := 9) (T := TX11) (N := 13) (ci := 11) (v := .int (mi 3)) E hw1 inX11 0 10 q_616 rfl rfl (by decide) rfl rfl dX11_keepNight_9 ?_
    refine lv_iadd (pc := 12) E.1 E.2.1 dX11_keepNight_12 ?_
    refine lv_topi (fun v_120 ev_120 => ?_)
    have hv_120 : v_120.toInt = (mi 2).toInt + (mi 3).toInt := by rw [ev_120]; exact addE rfl rfl (by omega)
    refine lv_bipush (pc := 13) (v := 6) E.1 E.2.1 dX11_keepNight_13 (by decide +kernel) ?_
    refine lv_irem (pc := 15) E.1 E.2.1 dX11_keepNight_15 (by decide +kernel) ?_
    refine lv_topi (fun v_121 ev_121 => ?_)
    have hbv_121 : v_121.toInt = v_120.toInt := by rw [ev_121]; exact rem6a (by omega)
    refine x_aldq (pc := 16) (k := 4) E hX hw1 1 rfl (by show v_121.toInt = 4; omega) (by decide) rfl dX11_keepNight_16 ?_
    refine lv_astore_n (pc := 17) (lv' := [(1, .ref (mr 74)), (0, .ref (mr 0))]) E.1 E.2.1 dX11_keepNight_17 rfl hl3 (by decide) rfl (fun ls hl122 => ?_)
    refine lv_aload_n (pc := 18) E.1 E.2.1 dX11_keepNight_18 rfl (lv_at hl122 0 rfl) ?_
    refine lv_ifnull (pc := 19) E.1 E.2.1 dX11_keepNight_19 ?_
    refine lv_aload_n (pc := 22) E.1 E.2.1 dX11_keepNight_22 rfl (lv_at hl122 0 rfl) ?_
    refine lv_aload_n (pc := 23) E.1 E.2.1 dX11_keepNight_23 rfl (lv_at hl122 1 rfl) ?_
    refine x_get (pc := 24) (T := TX11) (N := 13) (ci := 11) (v := .ref (mr 4)) E hw1 inX11 0 0 q_606 rfl rfl (by decide) rfl rfl dX11_keepNight_24 ?_
    refine x_get (pc := 27) (T := TX10) (N := 17) (ci := 10) (v := .ref (mr 9)) E hw1 inX10 2 0 q_458 rfl rfl (by decide) rfl rfl dX11_keepNight_27 ?_
    refine cq_v (pc := 30) (ws' := (fun (u : (Nat → Int32) × (Nat → Int32) × (Nat → Int32) × (Nat → Int32) × (Nat → Int32) × Int32 × Int32 × Int32 × Int32 × Int32 × Int32 × Int32) => (WZ_Lkeep cI cJ cN mv mr (upd (upd (upd (upd (upd (upd (upd mi 80 u.2.2.2.2.2.1) 81 u.2.2.2.2.2.2.1) 82 u.2.2.2.2.2.2.2.1) 83 u.2.2.2.2.2.2.2.2.1) 84 u.2.2.2.2.2.2.2.2.2.1) 85 u.2.2.2.2.2.2.2.2.2.2.1) 86 u.2.2.2.2.2.2.2.2.2.2.2) (va_up (va_up (va_up (va_up (va_up mf 75 u.1) 76 u.2.1) 77 u.2.2.1) 78 u.2.2.2.1) 79 u.2.2.2.2.1) mg))) hw1 [33, 34, 35, 36, 37, 38, 3, 4, 5, 6, 7, 8] [0, 1, 2, 9, 10, 11, 12, 13, 14, 15, 16, 17, 18, 19, 20, 21, 22, 23, 24, 25, 26, 27, 28, 29, 30, 31, 32, 39, 40, 41, 42, 43, 44] [0, 1, 2, 39, 40, 41, 42, 43, 44, 3, 4, 5, 6, 7, 8, 9, 10, 11, 12, 13, 14, 15, 16, 17, 18, 19, 20, 21, 22, 23, 24, 25, 26, 33, 34, 35, 36, 37, 38, 27, 28, 29, 30, 31, 32] rfl rfl (by decide) (by decide) (fun _ => rfl) (by decide) (rn_V (As := [.ref (mr 9)]) (rest := []) E hw1 (t_nowTake l D cI cJ _ (shs [(0, 74, 13), (13, 9, 13)] mr) (shs [(0, 74, 13), (13, 9, 13)] mi) (shs [(0, 74, 13), (13, 9, 13)] mf) (shs [(0, 74, 13), (13, 9, 13)] mg) ) (gdV q_999 q_1000 q_1001 q_153 q_1002) hdV_X4_take ⟨rfl, rfl⟩ ⟨(Nat.le_of_ble_eq_true rfl), (Nat.le_of_ble_eq_true rfl)⟩ ⟨(Nat.le_of_ble_eq_true rfl), (Nat.le_of_ble_eq_true rfl)⟩ xT_b xT_at 33 4 rfl rfl rfl [33, 34, 35, 36, 37, 38, 3, 4, 5, 6, 7, 8] rfl (by decide) rfl hl122.1 rfl (Nat.le_of_ble_eq_true rfl) dX11_keepNight_30) (fun u_123 H1 locs hp hw125 => ?_)
    obtain ⟨goil_126, gowed_127, ghad_128, glast_129, gdone_130, nspoilt_131, nlamp_132, nnight_133, nsnow_134, ndraws_135, ngone_136, nlines_137⟩ := u_123
    generalize H1 = H at hw125 ⊢
    have hw138 : WD D A s.heap (WZ_Lkeep cI cJ cN mv mr (upd (upd (upd (upd (upd (upd (upd mi 80 nspoilt_131) 81 nlamp_132) 82 nnight_133) 83 nsnow_134) 84 ndraws_135) 85 ngone_136) 86 nlines_137) (va_up (va_up (va_up (va_up (va_up mf 75 goil_126) 76 gowed_127) 77 ghad_128) 78 glast_129) 79 gdone_130) mg) H locs := hw125
    obtain ⟨hp_139, hp_140, hp_141, hp_142, hp_143, hp_144, hp_145⟩ := hp
    have hp_139 : nspoilt_131.toInt = (mi 15).toInt := hp_139
    have hp_140 : nlamp_132.toInt = (mi 16).toInt := hp_140
    have hp_141 : nnight_133.toInt = (mi 17).toInt := hp_141
    have hp_142 : nsnow_134.toInt = (mi 18).toInt := hp_142
    have hp_143 : ndraws_135.toInt = (mi 19).toInt := hp_143
    have hp_144 : ngone_136.toInt = (mi 20).toInt := hp_144
    have hp_145 : nlines_137.toInt = (mi 21).toInt := hp_145
    refine lv_aload_n (pc := 33) E.1 E.2.1 dX11_keepNight_33 rfl (lv_at hl122 1 rfl) ?_
    refine x_get (pc := 34) (T := TX11) (N := 13) (ci := 11) (v := .int (mi 3)) E hw138 inX11 0 10 q_616 rfl rfl (by decide) rfl rfl dX11_keepNight_34 ?_
    refine lv_bipush (pc := 37) (v := 6) E.1 E.2.1 dX11_keepNight_37 (by decide +kernel) ?_
    refine lv_icmp_ge (pc := 39) (tgt := 55) E.1 E.2.1 dX11_keepNight_39 (by decide) (fun c_146 => absurd c_146 (mnleE (a := 6) (b := (mi 3).toInt) (by decide +kernel) rfl (by omega))) (fun _ => ?_)
    refine lv_aload_n (pc := 42) E.1 E.2.1 dX11_keepNight_42 rfl (lv_at hl122 1 rfl) ?_
    refine lv_dup (pc := 43) E.1 E.2.1 dX11_keepNight_43 rfl ?_
    refine x_get (pc := 44) (T := TX11) (N := 13) (ci := 11) (v := .int (mi 3)) E hw138 inX11 0 10 q_616 rfl rfl (by decide) rfl rfl dX11_keepNight_44 ?_
    refine lv_iconst (pc := 47) (v := 1) E.1 E.2.1 dX11_keepNight_47 (by decide +kernel) ?_
    refine lv_iadd (pc := 48) E.1 E.2.1 dX11_keepNight_48 ?_
    refine lv_topi (fun v_147 ev_147 => ?_)
    have hv_147 : v_147.toInt = (mi 3).toInt + 1 := by rw [ev_147]; exact addE rfl (by decide +kernel) (by omega)
    refine x_put (pc := 49) (T := TX11) (N := 13) (ci := 11) (ws' := (WZ_Lkeep cI cJ cN mv mr (upd (upd (upd (upd (upd (upd (upd (upd mi 3 v_147) 80 nspoilt_131) 81 nlamp_132) 82 nnight_133) 83 nsnow_134) 84 ndraws_135) 85 ngone_136) 86 nlines_137) (va_up (va_up (va_up (va_up (va_up mf 75 goil_126) 76 gowed_127) 77 ghad_128) 78 glast_129) 79 gdone_130) mg)) E hw138 inX11 tyX11_ok nmX11 0 10 q_616 rfl rfl (by decide) rfl rfl rfl rfl (Nat.le_of_ble_eq_true rfl) rfl dX11_keepNight_49 (fun H locs hw148 => ?_)
    refine lv_goto (pc := 52) (tgt := 68) E.1 E.2.1 dX11_keepNight_52 (by decide) ?_
    exact em_v (w1 := (fun (u : (Nat → Int32) × (Nat → Nat → Int32) × (Nat → Nat → Int64)) => (WZ_Lkeep cI cJ cN mv mr u.1 u.2.1 u.2.2))) E hr hlk ((upd (upd (upd (upd (upd (upd (upd (upd mi 3 v_147) 80 nspoilt_131) 81 nlamp_132) 82 nnight_133) 83 nsnow_134) 84 ndraws_135) 85 ngone_136) 86 nlines_137), (va_up (va_up (va_up (va_up (va_up mf 75 goil_126) 76 gowed_127) 77 ghad_128) 78 glast_129) 79 gdone_130), mg) hw148 ⟨h0.1, h0.2, (by show 0 ≤ v_147.toInt; omega), (by show v_147.toInt ≤ 6; omega), h2.1, h2.2, h3.1, h3.2, h4.1, h4.2, h5.1, h5.2, h6.1, h6.2, (by show 0 ≤ ngone_136.toInt; omega), (by show ngone_136.toInt ≤ 200; omega), h8.1, h8.2⟩ (Nat.le_of_ble_eq_true rfl) (Nat.le_of_ble_eq_true rfl) dX11_keepNight_68
  · skip
    refine lv_aload_n (pc := 0) E.1 E.2.1 dX11_keepNight_0 rfl (lv_at hl3 0 rfl) ?_
    refine x_get (pc := 1) (T := TX11) (N := 13) (ci := 11) (v := .ref (mr 1)) E hw1 inX11 0 8 q_614 rfl rfl (by decide) rfl rfl dX11_keepNight_1 ?_
    refine lv_aload_n (pc := 4) E.1 E.2.1 dX11_keepNight_4 rfl (lv_at hl3 0 rfl) ?_
    refine x_get (pc := 5) (T := TX11) (N := 13) (ci := 11) (v := .int (mi 2)) E hw1 inX11 0 9 q_615 rfl rfl (by decide) rfl rfl dX11_keepNight_5 ?_
    refine lv_aload_n (pc := 8) E.1 E.2.1 dX11_keepNight_8 rfl (lv_at hl3 0 rfl) ?_
    refine x_get (pc := 9) (T := TX11) (N := 13) (ci := 11) (v := .int (mi 3)) E hw1 inX11 0 10 q_616 rfl rfl (by decide) rfl rfl dX11_keepNight_9 ?_
    refine lv_iadd (pc := 12) E.1 E.2.1 dX11_keepNight_12 ?_
    refine lv_topi (fun v_149 ev_149 => ?_)
    have hv_149 : v_149.toInt = (mi 2).toInt + (mi 3).toInt := by rw [ev_149]; exact addE rfl rfl (by omega)
    refine lv_bipush (pc := 13) (v := 6) E.1 E.2.1 dX11_keepNight_13 (by decide +kernel) ?_
    refine lv_irem (pc := 15) E.1 E.2.1 dX11_keepNight_15 (by decide +kernel) ?_
    refine lv_topi (fun v_150 ev_150 => ?_)
    have hbv_150 : v_150.toInt = v_149.toInt := by rw [ev_150]; exact rem6a (by omega)
    refine x_aldq (pc := 16) (k := 5) E hX hw1 1 rfl (by show v_150.toInt = 5; omega) (by decide) rfl dX11_keepNight_16 ?_
    refine lv_astore_n (pc := 17) (lv' := [(1, .ref (mr 87)), (0, .ref (mr 0))]) E.1 E.2.1 dX11_keepNight_17 rfl hl3 (by decide) rfl (fun ls hl151 => ?_)
    refine lv_aload_n (pc := 18) E.1 E.2.1 dX11_keepNight_18 rfl (lv_at hl151 0 rfl) ?_
    refine lv_ifnull (pc := 19) E.1 E.2.1 dX11_keepNight_19 ?_
    refine lv_aload_n (pc := 22) E.1 E.2.1 dX11_keepNight_22 rfl (lv_at hl151 0 rfl) ?_
    refine lv_aload_n (pc := 23) E.1 E.2.1 dX11_keepNight_23 rfl (lv_at hl151 1 rfl) ?_
    refine x_get (pc := 24) (T := TX11) (N := 13) (ci := 11) (v := .ref (mr 4)) E hw1 inX11 0 0 q_606 rfl rfl (by decide) rfl rfl dX11_keepNight_24 ?_
    refine x_get (pc := 27) (T := TX10) (N := 17) (ci := 10) (v := .ref (mr 9)) E hw1 inX10 2 0 q_458 rfl rfl (by decide) rfl rfl dX11_keepNight_27 ?_
    refine cq_v (pc := 30) (ws' := (fun (u : (Nat → Int32) × (Nat → Int32) × (Nat → Int32) × (Nat → Int32) × (Nat → Int32) × Int32 × Int32 × Int32 × Int32 × Int32 × Int32 × Int32) => (WZ_Lkeep cI cJ cN mv mr (upd (upd (upd (upd (upd (upd (upd mi 93 u.2.2.2.2.2.1) 94 u.2.2.2.2.2.2.1) 95 u.2.2.2.2.2.2.2.1) 96 u.2.2.2.2.2.2.2.2.1) 97 u.2.2.2.2.2.2.2.2.2.1) 98 u.2.2.2.2.2.2.2.2.2.2.1) 99 u.2.2.2.2.2.2.2.2.2.2.2) (va_up (va_up (va_up (va_up (va_up mf 88 u.1) 89 u.2.1) 90 u.2.2.1) 91 u.2.2.2.1) 92 u.2.2.2.2.1) mg))) hw1 [39, 40, 41, 42, 43, 44, 3, 4, 5, 6, 7, 8] [0, 1, 2, 9, 10, 11, 12, 13, 14, 15, 16, 17, 18, 19, 20, 21, 22, 23, 24, 25, 26, 27, 28, 29, 30, 31, 32, 33, 34, 35, 36, 37, 38] [0, 1, 2, 39, 40, 41, 42, 43, 44, 3, 4, 5, 6, 7, 8, 9, 10, 11, 12, 13, 14, 15, 16, 17, 18, 19, 20, 21, 22, 23, 24, 25, 26, 27, 28, 29, 30, 31, 32, 33, 34, 35, 36, 37, 38] rfl rfl (by decide) (by decide) (fun _ => rfl) (by decide) (rn_V (As := [.ref (mr 9)]) (rest := []) E hw1 (t_nowTake l D cI cJ _ (shs [(0, 87, 13), (13, 9, 13)] mr) (shs [(0, 87, 13), (13, 9, 13)] mi) (shs [(0, 87, 13), (13, 9, 13)] mf) (shs [(0, 87, 13), (13, 9, 13)] mg) ) (gdV q_999 q_1000 q_1001 q_153 q_1002) hdV_X4_take ⟨rfl, rfl⟩ ⟨(Nat.le_of_ble_eq_true rfl), (Nat.le_of_ble_eq_true rfl)⟩ ⟨(Nat.le_of_ble_eq_true rfl), (Nat.le_of_ble_eq_true rfl)⟩ xT_b xT_at 39 4 rfl rfl rfl [39, 40, 41, 42, 43, 44, 3, 4, 5, 6, 7, 8] rfl (by decide) rfl hl151.1 rfl (Nat.le_of_ble_eq_true rfl) dX11_keepNight_30) (fun u_152 H1 locs hp hw154 => ?_)
    obtain ⟨goil_155, gowed_156, ghad_157, glast_158, gdone_159, nspoilt_160, nlamp_161, nnight_162, nsnow_163, ndraws_164, ngone_165, nlines_166⟩ := u_152
    generalize H1 = H at hw154 ⊢
    have hw167 : WD D A s.heap (WZ_Lkeep cI cJ cN mv mr (upd (upd (upd (upd (upd (upd (upd mi 93 nspoilt_160) 94 nlamp_161) 95 nnight_162) 96 nsnow_163) 97 ndraws_164) 98 ngone_165) 99 nlines_166) (va_up (va_up (va_up (va_up (va_up mf 88 goil_155) 89 gowed_156) 90 ghad_157) 91 glast_158) 92 gdone_159) mg) H locs := hw154
    obtain ⟨hp_168, hp_169, hp_170, hp_171, hp_172, hp_173, hp_174⟩ := hp
    have hp_168 : nspoilt_160.toInt = (mi 15).toInt := hp_168
    have hp_169 : nlamp_161.toInt = (mi 16).toInt := hp_169
    have hp_170 : nnight_162.toInt = (mi 17).toInt := hp_170
    have hp_171 : nsnow_163.toInt = (mi 18).toInt := hp_171
    have hp_172 : ndraws_164.toInt = (mi 19).toInt := hp_172
    have hp_173 : ngone_165.toInt = (mi 20).toInt := hp_173
    have hp_174 : nlines_166.toInt = (mi 21).toInt := hp_174
    refine lv_aload_n (pc := 33) E.1 E.2.1 dX11_keepNight_33 rfl (lv_at hl151 1 rfl) ?_
    refine x_get (pc := 34) (T := TX11) (N := 13) (ci := 11) (v := .int (mi 3)) E hw167 inX11 0 10 q_616 rfl rfl (by decide) rfl rfl dX11_keepNight_34 ?_
    refine lv_bipush (pc := 37) (v := 6) E.1 E.2.1 dX11_keepNight_37 (by decide +kernel) ?_
    refine lv_icmp_ge (pc := 39) (tgt := 55) E.1 E.2.1 dX11_keepNight_39 (by decide) (fun c_175 => absurd c_175 (mnleE (a := 6) (b := (mi 3).toInt) (by decide +kernel) rfl (by omega))) (fun _ => ?_)
    refine lv_aload_n (pc := 42) E.1 E.2.1 dX11_keepNight_42 rfl (lv_at hl151 1 rfl) ?_
    refine lv_dup (pc := 43) E.1 E.2.1 dX11_keepNight_43 rfl ?_
    refine x_get (pc := 44) (T := TX11) (N := 13) (ci := 11) (v := .int (mi 3)) E hw167 inX11 0 10 q_616 rfl rfl (by decide) rfl rfl dX11_keepNight_44 ?_
    refine lv_iconst (pc := 47) (v := 1) E.1 E.2.1 dX11_keepNight_47 (by decide +kernel) ?_
    refine lv_iadd (pc := 48) E.1 E.2.1 dX11_keepNight_48 ?_
    refine lv_topi (fun v_176 ev_176 => ?_)
    have hv_176 : v_176.toInt = (mi 3).toInt + 1 := by rw [ev_176]; exact addE rfl (by decide +kernel) (by omega)
    refine x_put (pc := 49) (T := TX11) (N := 13) (ci := 11) (ws' := (WZ_Lkeep cI cJ cN mv mr (upd (upd (upd (upd (upd (upd (upd (upd mi 3 v_176) 93 nspoilt_160) 94 nlamp_161) 95 nnight_162) 96 nsnow_163) 97 ndraws_164) 98 ngone_165) 99 nlines_166) (va_up (va_up (va_up (va_up (va_up mf 88 goil_155) 89 gowed_156) 90 ghad_157) 91 glast_158) 92 gdone_159) mg)) E hw167 inX11 tyX11_ok nmX11 0 10 q_616 rfl rfl (by decide) rfl rfl rfl rfl (Nat.le_of_ble_eq_true rfl) rfl dX11_keepNight_49 (fun H locs hw177 => ?_)
    refine lv_goto (pc := 52) (tgt := 68) E.1 E.2.1 dX11_keepNight_52 (by decide) ?_
    exact em_v (w1 := (fun (u : (Nat → Int32) × (Nat → Nat → Int32) × (Nat → Nat → Int64)) => (WZ_Lkeep cI cJ cN mv mr u.1 u.2.1 u.2.2))) E hr hlk ((upd (upd (upd (upd (upd (upd (upd (upd mi 3 v_176) 93 nspoilt_160) 94 nlamp_161) 95 nnight_162) 96 nsnow_163) 97 ndraws_164) 98 ngone_165) 99 nlines_166), (va_up (va_up (va_up (va_up (va_up mf 88 goil_155) 89 gowed_156) 90 ghad_157) 91 glast_158) 92 gdone_159), mg) hw177 ⟨h0.1, h0.2, (by show 0 ≤ v_176.toInt; omega), (by show v_176.toInt ≤ 6; omega), h2.1, h2.2, h3.1, h3.2, h4.1, h4.2, h5.1, h5.2, h6.1, h6.2, h7.1, h7.2, (by show 0 ≤ ngone_165.toInt; omega), (by show ngone_165.toInt ≤ 200; omega)⟩ (Nat.le_of_ble_eq_true rfl) (Nat.le_of_ble_eq_true rfl) dX11_keepNight_68
  · skip
    refine lv_aload_n (pc := 0) E.1 E.2.1 dX11_keepNight_0 rfl (lv_at hl3 0 rfl) ?_
    refine x_get (pc := 1) (T := TX11) (N := 13) (ci := 11) (v := .ref (mr 1)) E hw1 inX11 0 8 q_614 rfl rfl (by decide) rfl rfl dX11_keepNight_1 ?_
    refine lv_aload_n (pc := 4) E.1 E.2.1 dX11_keepNight_4 rfl (lv_at hl3 0 rfl) ?_
    refine x_get (pc := 5) (T := TX11) (N := 13) (ci := 11) (v := .int (mi 2)) E hw1 inX11 0 9 q_615 rfl rfl (by decide) rfl rfl dX11_keepNight_5 ?_
    refine lv_aload_n (pc := 8) E.1 E.2.1 dX11_keepNight_8 rfl (lv_at hl3 0 rfl) ?_
    refine x_get (pc := 9) (T := TX11) (N := 13) (ci := 11) (v := .int (mi 3)) E hw1 inX11 0 10 q_616 rfl rfl (by decide) rfl rfl dX11_keepNight_9 ?_
    refine lv_iadd (pc := 12) E.1 E.2.1 dX11_keepNight_12 ?_
    refine lv_topi (fun v_178 ev_178 => ?_)
    have hv_178 : v_178.toInt = (mi 2).toInt + (mi 3).toInt := by rw [ev_178]; exact addE rfl rfl (by omega)
    refine lv_bipush (pc := 13) (v := 6) E.1 E.2.1 dX11_keepNight_13 (by decide +kernel) ?_
    refine lv_irem (pc := 15) E.1 E.2.1 dX11_keepNight_15 (by decide +kernel) ?_
    refine lv_topi (fun v_179 ev_179 => ?_)
    have hbv_179 : v_179.toInt = v_178.toInt - 6 := by rw [ev_179]; exact rem6b (by omega)
    refine x_aldq (pc := 16) (k := 0) E hX hw1 1 rfl (by show v_179.toInt = 0; omega) (by decide) rfl dX11_keepNight_16 ?_
    refine lv_astore_n (pc := 17) (lv' := [(1, .ref (mr 22)), (0, .ref (mr 0))]) E.1 E.2.1 dX11_keepNight_17 rfl hl3 (by decide) rfl (fun ls hl180 => ?_)
    refine lv_aload_n (pc := 18) E.1 E.2.1 dX11_keepNight_18 rfl (lv_at hl180 0 rfl) ?_
    refine lv_ifnull (pc := 19) E.1 E.2.1 dX11_keepNight_19 ?_
    refine lv_aload_n (pc := 22) E.1 E.2.1 dX11_keepNight_22 rfl (lv_at hl180 0 rfl) ?_
    refine lv_aload_n (pc := 23) E.1 E.2.1 dX11_keepNight_23 rfl (lv_at hl180 1 rfl) ?_
    refine x_get (pc := 24) (T := TX11) (N := 13) (ci := 11) (v := .ref (mr 4)) E hw1 inX11 0 0 q_606 rfl rfl (by decide) rfl rfl dX11_keepNight_24 ?_
    refine x_get (pc := 27) (T := TX10) (N := 17) (ci := 10) (v := .ref (mr 9)) E hw1 inX10 2 0 q_458 rfl rfl (by decide) rfl rfl dX11_keepNight_27 ?_
    refine cq_v (pc := 30) (ws' := (fun (u : (Nat → Int32) × (Nat → Int32) × (Nat → Int32) × (Nat → Int32) × (Nat → Int32) × Int32 × Int32 × Int32 × Int32 × Int32 × Int32 × Int32) => (WZ_Lkeep cI cJ cN mv mr (upd (upd (upd (upd (upd (upd (upd mi 28 u.2.2.2.2.2.1) 29 u.2.2.2.2.2.2.1) 30 u.2.2.2.2.2.2.2.1) 31 u.2.2.2.2.2.2.2.2.1) 32 u.2.2.2.2.2.2.2.2.2.1) 33 u.2.2.2.2.2.2.2.2.2.2.1) 34 u.2.2.2.2.2.2.2.2.2.2.2) (va_up (va_up (va_up (va_up (va_up mf 23 u.1) 24 u.2.1) 25 u.2.2.1) 26 u.2.2.2.1) 27 u.2.2.2.2.1) mg))) hw1 [9, 10, 11, 12, 13, 14, 3, 4, 5, 6, 7, 8] [0, 1, 2, 15, 16, 17, 18, 19, 20, 21, 22, 23, 24, 25, 26, 27, 28, 29, 30, 31, 32, 33, 34, 35, 36, 37, 38, 39, 40, 41, 42, 43, 44] [0, 1, 2, 39, 40, 41, 42, 43, 44, 33, 34, 35, 36, 37, 38, 3, 4, 5, 6, 7, 8, 9, 10, 11, 12, 13, 14, 15, 16, 17, 18, 19, 20, 21, 22, 23, 24, 25, 26, 27, 28, 29, 30, 31, 32] rfl rfl (by decide) (by decide) (fun _ => rfl) (by decide) (rn_V (As := [.ref (mr 9)]) (rest := []) E hw1 (t_nowTake l D cI cJ _ (shs [(0, 22, 13), (13, 9, 13)] mr) (shs [(0, 22, 13), (13, 9, 13)] mi) (shs [(0, 22, 13), (13, 9, 13)] mf) (shs [(0, 22, 13), (13, 9, 13)] mg) ) (gdV q_999 q_1000 q_1001 q_153 q_1002) hdV_X4_take ⟨rfl, rfl⟩ ⟨(Nat.le_of_ble_eq_true rfl), (Nat.le_of_ble_eq_true rfl)⟩ ⟨(Nat.le_of_ble_eq_true rfl), (Nat.le_of_ble_eq_true rfl)⟩ xT_b xT_at 9 4 rfl rfl rfl [9, 10, 11, 12, 13, 14, 3, 4, 5, 6, 7, 8] rfl (by decide) rfl hl180.1 rfl (Nat.le_of_ble_eq_true rfl) dX11_keepNight_30) (fun u_181 H1 locs hp hw183 => ?_)
    obtain ⟨goil_184, gowed_185, ghad_186, glast_187, gdone_188, nspoilt_189, nlamp_190, nnight_191, nsnow_192, ndraws_193, ngone_194, nlines_195⟩ := u_181
    generalize H1 = H at hw183 ⊢
    have hw196 : WD D A s.heap (WZ_Lkeep cI cJ cN mv mr (upd (upd (upd (upd (upd (upd (upd mi 28 nspoilt_189) 29 nlamp_190) 30 nnight_191) 31 nsnow_192) 32 ndraws_193) 33 ngone_194) 34 nlines_195) (va_up (va_up (va_up (va_up (va_up mf 23 goil_184) 24 gowed_185) 25 ghad_186) 26 glast_187) 27 gdone_188) mg) H locs := hw183
    obtain ⟨hp_197, hp_198, hp_199, hp_200, hp_201, hp_202, hp_203⟩ := hp
    have hp_197 : nspoilt_189.toInt = (mi 15).toInt := hp_197
    have hp_198 : nlamp_190.toInt = (mi 16).toInt := hp_198
    have hp_199 : nnight_191.toInt = (mi 17).toInt := hp_199
    have hp_200 : nsnow_192.toInt = (mi 18).toInt := hp_200
    have hp_201 : ndraws_193.toInt = (mi 19).toInt := hp_201
    have hp_202 : ngone_194.toInt = (mi 20).toInt := hp_202
    have hp_203 : nlines_195.toInt = (mi 21).toInt := hp_203
    refine lv_aload_n (pc := 33) E.1 E.2.1 dX11_keepNight_33 rfl (lv_at hl180 1 rfl) ?_
    refine x_get (pc := 34) (T := TX11) (N := 13) (ci := 11) (v := .int (mi 3)) E hw196 inX11 0 10 q_616 rfl rfl (by decide) rfl rfl dX11_keepNight_34 ?_
    refine lv_bipush (pc := 37) (v := 6) E.1 E.2.1 dX11_keepNight_37 (by decide +kernel) ?_
    refine lv_icmp_ge (pc := 39) (tgt := 55) E.1 E.2.1 dX11_keepNight_39 (by decide) (fun c_204 => ?_) (fun c_204 => ?_)
    · skip
      have hc_204 := leE (a := 6) (b := (mi 3).toInt) (by decide +kernel) rfl c_204
      refine lv_aload_n (pc := 55) E.1 E.2.1 dX11_keepNight_55 rfl (lv_at hl180 1 rfl) ?_
      refine lv_aload_n (pc := 56) E.1 E.2.1 dX11_keepNight_56 rfl (lv_at hl180 1 rfl) ?_
      refine x_get (pc := 57) (T := TX11) (N := 13) (ci := 11) (v := .int (mi 2)) E hw196 inX11 0 9 q_615 rfl rfl (by decide) rfl rfl dX11_keepNight_57 ?_
      refine lv_iconst (pc := 60) (v := 1) E.1 E.2.1 dX11_keepNight_60 (by decide +kernel) ?_
      refine lv_iadd (pc := 61) E.1 E.2.1 dX11_keepNight_61 ?_
      refine lv_topi (fun v_205 ev_205 => ?_)
      have hv_205 : v_205.toInt = (mi 2).toInt + 1 := by rw [ev_205]; exact addE rfl (by decide +kernel) (by omega)
      refine lv_bipush (pc := 62) (v := 6) E.1 E.2.1 dX11_keepNight_62 (by decide +kernel) ?_
      refine lv_irem (pc := 64) E.1 E.2.1 dX11_keepNight_64 (by decide +kernel) ?_
      refine lv_topi (fun v_206 ev_206 => ?_)
      have hbv_206 : v_206.toInt = v_205.toInt := by rw [ev_206]; exact rem6a (by omega)
      refine x_put (pc := 65) (T := TX11) (N := 13) (ci := 11) (ws' := (WZ_Lkeep cI cJ cN mv mr (upd (upd (upd (upd (upd (upd (upd (upd mi 2 v_206) 28 nspoilt_189) 29 nlamp_190) 30 nnight_191) 31 nsnow_192) 32 ndraws_193) 33 ngone_194) 34 nlines_195) (va_up (va_up (va_up (va_up (va_up mf 23 goil_184) 24 gowed_185) 25 ghad_186) 26 glast_187) 27 gdone_188) mg)) E hw196 inX11 tyX11_ok nmX11 0 9 q_615 rfl rfl (by decide) rfl rfl rfl rfl (Nat.le_of_ble_eq_true rfl) rfl dX11_keepNight_65 (fun H locs hw207 => ?_)
      exact em_v (w1 := (fun (u : (Nat → Int32) × (Nat → Nat → Int32) × (Nat → Nat → Int64)) => (WZ_Lkeep cI cJ cN mv mr u.1 u.2.1 u.2.2))) E hr hlk ((upd (upd (upd (upd (upd (upd (upd (upd mi 2 v_206) 28 nspoilt_189) 29 nlamp_190) 30 nnight_191) 31 nsnow_192) 32 ndraws_193) 33 ngone_194) 34 nlines_195), (va_up (va_up (va_up (va_up (va_up mf 23 goil_184) 24 gowed_185) 25 ghad_186) 26 glast_187) 27 gdone_188), mg) hw207 ⟨(by show 0 ≤ v_206.toInt; omega), (by show v_206.toInt ≤ 5; omega), h1.1, h1.2, h2.1, h2.2, (by show 0 ≤ ngone_194.toInt; omega), (by show ngone_194.toInt ≤ 200; omega), h4.1, h4.2, h5.1, h5.2, h6.1, h6.2, h7.1, h7.2, h8.1, h8.2⟩ (Nat.le_of_ble_eq_true rfl) (Nat.le_of_ble_eq_true rfl) dX11_keepNight_68
    · skip
      have hc_204 := nleE (a := 6) (b := (mi 3).toInt) (by decide +kernel) rfl c_204
      refine lv_aload_n (pc := 42) E.1 E.2.1 dX11_keepNight_42 rfl (lv_at hl180 1 rfl) ?_
      refine lv_dup (pc := 43) E.1 E.2.1 dX11_keepNight_43 rfl ?_
      refine x_get (pc := 44) (T := TX11) (N := 13) (ci := 11) (v := .int (mi 3)) E hw196 inX11 0 10 q_616 rfl rfl (by decide) rfl rfl dX11_keepNight_44 ?_
      refine lv_iconst (pc := 47) (v := 1) E.1 E.2.1 dX11_keepNight_47 (by decide +kernel) ?_
      refine lv_iadd (pc := 48) E.1 E.2.1 dX11_keepNight_48 ?_
      refine lv_topi (fun v_208 ev_208 => ?_)
      have hv_208 : v_208.toInt = (mi 3).toInt + 1 := by rw [ev_208]; exact addE rfl (by decide +kernel) (by omega)
      refine x_put (pc := 49) (T := TX11) (N := 13) (ci := 11) (ws' := (WZ_Lkeep cI cJ cN mv mr (upd (upd (upd (upd (upd (upd (upd (upd mi 3 v_208) 28 nspoilt_189) 29 nlamp_190) 30 nnight_191) 31 nsnow_192) 32 ndraws_193) 33 ngone_194) 34 nlines_195) (va_up (va_up (va_up (va_up (va_up mf 23 goil_184) 24 gowed_185) 25 ghad_186) 26 glast_187) 27 gdone_188) mg)) E hw196 inX11 tyX11_ok nmX11 0 10 q_616 rfl rfl (by decide) rfl rfl rfl rfl (Nat.le_of_ble_eq_true rfl) rfl dX11_keepNight_49 (fun H locs hw209 => ?_)
      refine lv_goto (pc := 52) (tgt := 68) E.1 E.2.1 dX11_keepNight_52 (by decide) ?_
      exact em_v (w1 := (fun (u : (Nat → Int32) × (Nat → Nat → Int32) × (Nat → Nat → Int64)) => (WZ_Lkeep cI cJ cN mv mr u.1 u.2.1 u.2.2))) E hr hlk ((upd (upd (upd (upd (upd (upd (upd (upd mi 3 v_208) 28 nspoilt_189) 29 nlamp_190) 30 nnight_191) 31 nsnow_192) 32 ndraws_193) 33 ngone_194) 34 nlines_195), (va_up (va_up (va_up (va_up (va_up mf 23 goil_184) 24 gowed_185) 25 ghad_186) 26 glast_187) 27 gdone_188), mg) hw209 ⟨h0.1, h0.2, (by show 0 ≤ v_208.toInt; omega), (by show v_208.toInt ≤ 6; omega), h2.1, h2.2, (by show 0 ≤ ngone_194.toInt; omega), (by show ngone_194.toInt ≤ 200; omega), h4.1, h4.2, h5.1, h5.2, h6.1, h6.2, h7.1, h7.2, h8.1, h8.2⟩ (Nat.le_of_ble_eq_true rfl) (Nat.le_of_ble_eq_true rfl) dX11_keepNight_68
  · skip
    refine lv_aload_n (pc := 0) E.1 E.2.1 dX11_keepNight_0 rfl (lv_at hl3 0 rfl) ?_
    refine x_get (pc := 1) (T := TX11) (N := 13) (ci := 11) (v := .ref (mr 1)) E hw1 inX11 0 8 q_614 rfl rfl (by decide) rfl rfl dX11_keepNight_1 ?_
    refine lv_aload_n (pc := 4) E.1 E.2.1 dX11_keepNight_4 rfl (lv_at hl3 0 rfl) ?_
    refine x_get (pc := 5) (T := TX11) (N := 13) (ci := 11) (v := .int (mi 2)) E hw1 inX11 0 9 q_615 rfl rfl (by decide) rfl rfl dX11_keepNight_5 ?_
    refine lv_aload_n (pc := 8) E.1 E.2.1 dX11_keepNight_8 rfl (lv_at hl3 0 rfl) ?_
    refine x_get (pc := 9) (T := TX11) (N := 13) (ci := 11) (v := .int (mi 3)) E hw1 inX11 0 10 q_616 rfl rfl (by decide) rfl rfl dX11_keepNight_9 ?_
    refine lv_iadd (pc := 12) E.1 E.2.1 dX11_keepNight_12 ?_
    refine lv_topi (fun v_210 ev_210 => ?_)
    have hv_210 : v_210.toInt = (mi 2).toInt + (mi 3).toInt := by rw [ev_210]; exact addE rfl rfl (by omega)
    refine lv_bipush (pc := 13) (v := 6) E.1 E.2.1 dX11_keepNight_13 (by decide +kernel) ?_
    refine lv_irem (pc := 15) E.1 E.2.1 dX11_keepNight_15 (by decide +kernel) ?_
    refine lv_topi (fun v_211 ev_211 => ?_)
    have hbv_211 : v_211.toInt = v_210.toInt - 6 := by rw [ev_211]; exact rem6b (by omega)
    refine x_aldq (pc := 16) (k := 1) E hX hw1 1 rfl (by show v_211.toInt = 1; omega) (by decide) rfl dX11_keepNight_16 ?_
    refine lv_astore_n (pc := 17) (lv' := [(1, .ref (mr 35)), (0, .ref (mr 0))]) E.1 E.2.1 dX11_keepNight_17 rfl hl3 (by decide) rfl (fun ls hl212 => ?_)
    refine lv_aload_n (pc := 18) E.1 E.2.1 dX11_keepNight_18 rfl (lv_at hl212 0 rfl) ?_
    refine lv_ifnull (pc := 19) E.1 E.2.1 dX11_keepNight_19 ?_
    refine lv_aload_n (pc := 22) E.1 E.2.1 dX11_keepNight_22 rfl (lv_at hl212 0 rfl) ?_
    refine lv_aload_n (pc := 23) E.1 E.2.1 dX11_keepNight_23 rfl (lv_at hl212 1 rfl) ?_
    refine x_get (pc := 24) (T := TX11) (N := 13) (ci := 11) (v := .ref (mr 4)) E hw1 inX11 0 0 q_606 rfl rfl (by decide) rfl rfl dX11_keepNight_24 ?_
    refine x_get (pc := 27) (T := TX10) (N := 17) (ci := 10) (v := .ref (mr 9)) E hw1 inX10 2 0 q_458 rfl rfl (by decide) rfl rfl dX11_keepNight_27 ?_
    refine cq_v (pc := 30) (ws' := (fun (u : (Nat → Int32) × (Nat → Int32) × (Nat → Int32) × (Nat → Int32) × (Nat → Int32) × Int32 × Int32 × Int32 × Int32 × Int32 × Int32 × Int32) => (WZ_Lkeep cI cJ cN mv mr (upd (upd (upd (upd (upd (upd (upd mi 41 u.2.2.2.2.2.1) 42 u.2.2.2.2.2.2.1) 43 u.2.2.2.2.2.2.2.1) 44 u.2.2.2.2.2.2.2.2.1) 45 u.2.2.2.2.2.2.2.2.2.1) 46 u.2.2.2.2.2.2.2.2.2.2.1) 47 u.2.2.2.2.2.2.2.2.2.2.2) (va_up (va_up (va_up (va_up (va_up mf 36 u.1) 37 u.2.1) 38 u.2.2.1) 39 u.2.2.2.1) 40 u.2.2.2.2.1) mg))) hw1 [15, 16, 17, 18, 19, 20, 3, 4, 5, 6, 7, 8] [0, 1, 2, 9, 10, 11, 12, 13, 14, 21, 22, 23, 24, 25, 26, 27, 28, 29, 30, 31, 32, 33, 34, 35, 36, 37, 38, 39, 40, 41, 42, 43, 44] [0, 1, 2, 39, 40, 41, 42, 43, 44, 3, 4, 5, 6, 7, 8, 33, 34, 35, 36, 37, 38, 9, 10, 11, 12, 13, 14, 15, 16, 17, 18, 19, 20, 21, 22, 23, 24, 25, 26, 27, 28, 29, 30, 31, 32] rfl rfl (by decide) (by decide) (fun _ => rfl) (by decide) (rn_V (As := [.ref (mr 9)]) (rest := []) E hw1 (t_nowTake l D cI cJ _ (shs [(0, 35, 13), (13, 9, 13)] mr) (shs [(0, 35, 13), (13, 9, 13)] mi) (shs [(0, 35, 13), (13, 9, 13)] mf) (shs [(0, 35, 13), (13, 9, 13)] mg) ) (gdV q_999 q_1000 q_1001 q_153 q_1002) hdV_X4_take ⟨rfl, rfl⟩ ⟨(Nat.le_of_ble_eq_true rfl), (Nat.le_of_ble_eq_true rfl)⟩ ⟨(Nat.le_of_ble_eq_true rfl), (Nat.le_of_ble_eq_true rfl)⟩ xT_b xT_at 15 4 rfl rfl rfl [15, 16, 17, 18, 19, 20, 3, 4, 5, 6, 7, 8] rfl (by decide) rfl hl212.1 rfl (Nat.le_of_ble_eq_true rfl) dX11_keepNight_30) (fun u_213 H1 locs hp hw215 => ?_)
    obtain ⟨goil_216, gowed_217, ghad_218, glast_219, gdone_220, nspoilt_221, nlamp_222, nnight_223, nsnow_224, ndraws_225, ngone_226, nlines_227⟩ := u_213
    generalize H1 = H at hw215 ⊢
    have hw228 : WD D A s.heap (WZ_Lkeep cI cJ cN mv mr (upd (upd (upd (upd (upd (upd (upd mi 41 nspoilt_221) 42 nlamp_222) 43 nnight_223) 44 nsnow_224) 45 ndraws_225) 46 ngone_226) 47 nlines_227) (va_up (va_up (va_up (va_up (va_up mf 36 goil_216) 37 gowed_217) 38 ghad_218) 39 glast_219) 40 gdone_220) mg) H locs := hw215
    obtain ⟨hp_229, hp_230, hp_231, hp_232, hp_233, hp_234, hp_235⟩ := hp
    have hp_229 : nspoilt_221.toInt = (mi 15).toInt := hp_229
    have hp_230 : nlamp_222.toInt = (mi 16).toInt := hp_230
    have hp_231 : nnight_223.toInt = (mi 17).toInt := hp_231
    have hp_232 : nsnow_224.toInt = (mi 18).toInt := hp_232
    have hp_233 : ndraws_225.toInt = (mi 19).toInt := hp_233
    have hp_234 : ngone_226.toInt = (mi 20).toInt := hp_234
    have hp_235 : nlines_227.toInt = (mi 21).toInt := hp_235
    refine lv_aload_n (pc := 33) E.1 E.2.1 dX11_keepNight_33 rfl (lv_at hl212 1 rfl) ?_
    refine x_get (pc := 34) (T := TX11) (N := 13) (ci := 11) (v := .int (mi 3)) E hw228 inX11 0 10 q_616 rfl rfl (by decide) rfl rfl dX11_keepNight_34 ?_
    refine lv_bipush (pc := 37) (v := 6) E.1 E.2.1 dX11_keepNight_37 (by decide +kernel) ?_
    refine lv_icmp_ge (pc := 39) (tgt := 55) E.1 E.2.1 dX11_keepNight_39 (by decide) (fun c_236 => ?_) (fun c_236 => ?_)
    · skip
      have hc_236 := leE (a := 6) (b := (mi 3).toInt) (by decide +kernel) rfl c_236
      refine lv_aload_n (pc := 55) E.1 E.2.1 dX11_keepNight_55 rfl (lv_at hl212 1 rfl) ?_
      refine lv_aload_n (pc := 56) E.1 E.2.1 dX11_keepNight_56 rfl (lv_at hl212 1 rfl) ?_
      refine x_get (pc := 57) (T := TX11) (N := 13) (ci := 11) (v := .int (mi 2)) E hw228 inX11 0 9 q_615 rfl rfl (by decide) rfl rfl dX11_keepNight_57 ?_
      refine lv_iconst (pc := 60) (v := 1) E.1 E.2.1 dX11_keepNight_60 (by decide +kernel) ?_
      refine lv_iadd (pc := 61) E.1 E.2.1 dX11_keepNight_61 ?_
      refine lv_topi (fun v_237 ev_237 => ?_)
      have hv_237 : v_237.toInt = (mi 2).toInt + 1 := by rw [ev_237]; exact addE rfl (by decide +kernel) (by omega)
      refine lv_bipush (pc := 62) (v := 6) E.1 E.2.1 dX11_keepNight_62 (by decide +kernel) ?_
      refine lv_irem (pc := 64) E.1 E.2.1 dX11_keepNight_64 (by decide +kernel) ?_
      refine lv_topi (fun v_238 ev_238 => ?_)
      have hbv_238 : v_238.toInt = v_237.toInt := by rw [ev_238]; exact rem6a (by omega)
      refine x_put (pc := 65) (T := TX11) (N := 13) (ci := 11) (ws' := (WZ_Lkeep cI cJ cN mv mr (upd (upd (upd (upd (upd (upd (upd (upd mi 2 v_238) 41 nspoilt_221) 42 nlamp_222) 43 nnight_223) 44 nsnow_224) 45 ndraws_225) 46 ngone_226) 47 nlines_227) (va_up (va_up (va_up (va_up (va_up mf 36 goil_216) 37 gowed_217) 38 ghad_218) 39 glast_219) 40 gdone_220) mg)) E hw228 inX11 tyX11_ok nmX11 0 9 q_615 rfl rfl (by decide) rfl rfl rfl rfl (Nat.le_of_ble_eq_true rfl) rfl dX11_keepNight_65 (fun H locs hw239 => ?_)
      exact em_v (w1 := (fun (u : (Nat → Int32) × (Nat → Nat → Int32) × (Nat → Nat → Int64)) => (WZ_Lkeep cI cJ cN mv mr u.1 u.2.1 u.2.2))) E hr hlk ((upd (upd (upd (upd (upd (upd (upd (upd mi 2 v_238) 41 nspoilt_221) 42 nlamp_222) 43 nnight_223) 44 nsnow_224) 45 ndraws_225) 46 ngone_226) 47 nlines_227), (va_up (va_up (va_up (va_up (va_up mf 36 goil_216) 37 gowed_217) 38 ghad_218) 39 glast_219) 40 gdone_220), mg) hw239 ⟨(by show 0 ≤ v_238.toInt; omega), (by show v_238.toInt ≤ 5; omega), h1.1, h1.2, h2.1, h2.2, h3.1, h3.2, (by show 0 ≤ ngone_226.toInt; omega), (by show ngone_226.toInt ≤ 200; omega), h5.1, h5.2, h6.1, h6.2, h7.1, h7.2, h8.1, h8.2⟩ (Nat.le_of_ble_eq_true rfl) (Nat.le_of_ble_eq_true rfl) dX11_keepNight_68
    · skip
      have hc_236 := nleE (a := 6) (b := (mi 3).toInt) (by decide +kernel) rfl c_236
      refine lv_aload_n (pc := 42) E.1 E.2.1 dX11_keepNight_42 rfl (lv_at hl212 1 rfl) ?_
      refine lv_dup (pc := 43) E.1 E.2.1 dX11_keepNight_43 rfl ?_
      refine x_get (pc := 44) (T := TX11) (N := 13) (ci := 11) (v := .int (mi 3)) E hw228 inX11 0 10 q_616 rfl rfl (by decide) rfl rfl dX11_keepNight_44 ?_
      refine lv_iconst (pc := 47) (v := 1) E.1 E.2.1 dX11_keepNight_47 (by decide +kernel) ?_
      refine lv_iadd (pc := 48) E.1 E.2.1 dX11_keepNight_48 ?_
      refine lv_topi (fun v_240 ev_240 => ?_)
      have hv_240 : v_240.toInt = (mi 3).toInt + 1 := by rw [ev_240]; exact addE rfl (by decide +kernel) (by omega)
      refine x_put (pc := 49) (T := TX11) (N := 13) (ci := 11) (ws' := (WZ_Lkeep cI cJ cN mv mr (upd (upd (upd (upd (upd (upd (upd (upd mi 3 v_240) 41 nspoilt_221) 42 nlamp_222) 43 nnight_223) 44 nsnow_224) 45 ndraws_225) 46 ngone_226) 47 nlines_227) (va_up (va_up (va_up (va_up (va_up mf 36 goil_216) 37 gowed_217) 38 ghad_218) 39 glast_219) 40 gdone_220) mg)) E hw228 inX11 tyX11_ok nmX11 0 10 q_616 rfl rfl (by decide) rfl rfl rfl rfl (Nat.le_of_ble_eq_true rfl) rfl dX11_keepNight_49 (fun H locs hw241 => ?_)
      refine lv_goto (pc := 52) (tgt := 68) E.1 E.2.1 dX11_keepNight_52 (by decide) ?_
      exact em_v (w1 := (fun (u : (Nat → Int32) × (Nat → Nat → Int32) × (Nat → Nat → Int64)) => (WZ_Lkeep cI cJ cN mv mr u.1 u.2.1 u.2.2))) E hr hlk ((upd (upd (upd (upd (upd (upd (upd (upd mi 3 v_240) 41 nspoilt_221) 42 nlamp_222) 43 nnight_223) 44 nsnow_224) 45 ndraws_225) 46 ngone_226) 47 nlines_227), (va_up (va_up (va_up (va_up (va_up mf 36 goil_216) 37 gowed_217) 38 ghad_218) 39 glast_219) 40 gdone_220), mg) hw241 ⟨h0.1, h0.2, (by show 0 ≤ v_240.toInt; omega), (by show v_240.toInt ≤ 6; omega), h2.1, h2.2, h3.1, h3.2, (by show 0 ≤ ngone_226.toInt; omega), (by show ngone_226.toInt ≤ 200; omega), h5.1, h5.2, h6.1, h6.2, h7.1, h7.2, h8.1, h8.2⟩ (Nat.le_of_ble_eq_true rfl) (Nat.le_of_ble_eq_true rfl) dX11_keepNight_68
  · skip
    refine lv_aload_n (pc := 0) E.1 E.2.1 dX11_keepNight_0 rfl (lv_at hl3 0 rfl) ?_
    refine x_get (pc := 1) (T := TX11) (N := 13) (ci := 11) (v := .ref (mr 1)) E hw1 inX11 0 8 q_614 rfl rfl (by decide) rfl rfl dX11_keepNight_1 ?_
    refine lv_aload_n (pc := 4) E.1 E.2.1 dX11_keepNight_4 rfl (lv_at hl3 0 rfl) ?_
    refine x_get (pc := 5) (T := TX11) (N := 13) (ci := 11) (v := .int (mi 2)) E hw1 inX11 0 9 q_615 rfl rfl (by decide) rfl rfl dX11_keepNight_5 ?_
    refine lv_aload_n (pc := 8) E.1 E.2.1 dX11_keepNight_8 rfl (lv_at hl3 0 rfl) ?_
    refine x_get (pc := 9) (T := TX11) (N := 13) (ci := 11) (v := .int (mi 3)) E hw1 inX11 0 10 q_616 rfl rfl (by decide) rfl rfl dX11_keepNight_9 ?_
    refine lv_iadd (pc := 12) E.1 E.2.1 dX11_keepNight_12 ?_
    refine lv_topi (fun v_242 ev_242 => ?_)
    have hv_242 : v_242.toInt = (mi 2).toInt + (mi 3).toInt := by rw [ev_242]; exact addE rfl rfl (by omega)
    refine lv_bipush (pc := 13) (v := 6) E.1 E.2.1 dX11_keepNight_13 (by decide +kernel) ?_
    refine lv_irem (pc := 15) E.1 E.2.1 dX11_keepNight_15 (by decide +kernel) ?_
    refine lv_topi (fun v_243 ev_243 => ?_)
    have hbv_243 : v_243.toInt = v_242.toInt - 6 := by rw [ev_243]; exact rem6b (by omega)
    refine x_aldq (pc := 16) (k := 2) E hX hw1 1 rfl (by show v_243.toInt = 2; omega) (by decide) rfl dX11_keepNight_16 ?_
    refine lv_astore_n (pc := 17) (lv' := [(1, .ref (mr 48)), (0, .ref (mr 0))]) E.1 E.2.1 dX11_keepNight_17 rfl hl3 (by decide) rfl (fun ls hl244 => ?_)
    refine lv_aload_n (pc := 18) E.1 E.2.1 dX11_keepNight_18 rfl (lv_at hl244 0 rfl) ?_
    refine lv_ifnull (pc := 19) E.1 E.2.1 dX11_keepNight_19 ?_
    refine lv_aload_n (pc := 22) E.1 E.2.1 dX11_keepNight_22 rfl (lv_at hl244 0 rfl) ?_
    refine lv_aload_n (pc := 23) E.1 E.2.1 dX11_keepNight_23 rfl (lv_at hl244 1 rfl) ?_
    refine x_get (pc := 24) (T := TX11) (N := 13) (ci := 11) (v := .ref (mr 4)) E hw1 inX11 0 0 q_606 rfl rfl (by decide) rfl rfl dX11_keepNight_24 ?_
    refine x_get (pc := 27) (T := TX10) (N := 17) (ci := 10) (v := .ref (mr 9)) E hw1 inX10 2 0 q_458 rfl rfl (by decide) rfl rfl dX11_keepNight_27 ?_
    refine cq_v (pc := 30) (ws' := (fun (u : (Nat → Int32) × (Nat → Int32) × (Nat → Int32) × (Nat → Int32) × (Nat → Int32) × Int32 × Int32 × Int32 × Int32 × Int32 × Int32 × Int32) => (WZ_Lkeep cI cJ cN mv mr (upd (upd (upd (upd (upd (upd (upd mi 54 u.2.2.2.2.2.1) 55 u.2.2.2.2.2.2.1) 56 u.2.2.2.2.2.2.2.1) 57 u.2.2.2.2.2.2.2.2.1) 58 u.2.2.2.2.2.2.2.2.2.1) 59 u.2.2.2.2.2.2.2.2.2.2.1) 60 u.2.2.2.2.2.2.2.2.2.2.2) (va_up (va_up (va_up (va_up (va_up mf 49 u.1) 50 u.2.1) 51 u.2.2.1) 52 u.2.2.2.1) 53 u.2.2.2.2.1) mg))) hw1 [21, 22, 23, 24, 25, 26, 3, 4, 5, 6, 7, 8] [0, 1, 2, 9, 10, 11, 12, 13, 14, 15, 16, 17, 18, 19, 20, 27, 28, 29, 30, 31, 32, 33, 34, 35, 36, 37, 38, 39, 40, 41, 42, 43, 44] [0, 1, 2, 39, 40, 41, 42, 43, 44, 3, 4, 5, 6, 7, 8, 9, 10, 11, 12, 13, 14, 33, 34, 35, 36, 37, 38, 15, 16, 17, 18, 19, 20, 21, 22, 23, 24, 25, 26, 27, 28, 29, 30, 31, 32] rfl rfl (by decide) (by decide) (fun _ => rfl) (by decide) (rn_V (As := [.ref (mr 9)]) (rest := []) E hw1 (t_nowTake l D cI cJ _ (shs [(0, 48, 13), (13, 9, 13)] mr) (shs [(0, 48, 13), (13, 9, 13)] mi) (shs [(0, 48, 13), (13, 9, 13)] mf) (shs [(0, 48, 13), (13, 9, 13)] mg) ) (gdV q_999 q_1000 q_1001 q_153 q_1002) hdV_X4_take ⟨rfl, rfl⟩ ⟨(Nat.le_of_ble_eq_true rfl), (Nat.le_of_ble_eq_true rfl)⟩ ⟨(Nat.le_of_ble_eq_true rfl), (Nat.le_of_ble_eq_true rfl)⟩ xT_b xT_at 21 4 rfl rfl rfl [21, 22, 23, 24, 25, 26, 3, 4, 5, 6, 7, 8] rfl (by decide) rfl hl244.1 rfl (Nat.le_of_ble_eq_true rfl) dX11_keepNight_30) (fun u_245 H1 locs hp hw247 => ?_)
    obtain ⟨goil_248, gowed_249, ghad_250, glast_251, gdone_252, nspoilt_253, nlamp_254, nnight_255, nsnow_256, ndraws_257, ngone_258, nlines_259⟩ := u_245
    generalize H1 = H at hw247 ⊢
    have hw260 : WD D A s.heap (WZ_Lkeep cI cJ cN mv mr (upd (upd (upd (upd (upd (upd (upd mi 54 nspoilt_253) 55 nlamp_254) 56 nnight_255) 57 nsnow_256) 58 ndraws_257) 59 ngone_258) 60 nlines_259) (va_up (va_up (va_up (va_up (va_up mf 49 goil_248) 50 gowed_249) 51 ghad_250) 52 glast_251) 53 gdone_252) mg) H locs := hw247
    obtain ⟨hp_261, hp_262, hp_263, hp_264, hp_265, hp_266, hp_267⟩ := hp
    have hp_261 : nspoilt_253.toInt = (mi 15).toInt := hp_261
    have hp_262 : nlamp_254.toInt = (mi 16).toInt := hp_262
    have hp_263 : nnight_255.toInt = (mi 17).toInt := hp_263
    have hp_264 : nsnow_256.toInt = (mi 18).toInt := hp_264
    have hp_265 : ndraws_257.toInt = (mi 19).toInt := hp_265
    have hp_266 : ngone_258.toInt = (mi 20).toInt := hp_266
    have hp_267 : nlines_259.toInt = (mi 21).toInt := hp_267
    refine lv_aload_n (pc := 33) E.1 E.2.1 dX11_keepNight_33 rfl (lv_at hl244 1 rfl) ?_
    refine x_get (pc := 34) (T := TX11) (N := 13) (ci := 11) (v := .int (mi 3)) E hw260 inX11 0 10 q_616 rfl rfl (by decide) rfl rfl dX11_keepNight_34 ?_
    refine lv_bipush (pc := 37) (v := 6) E.1 E.2.1 dX11_keepNight_37 (by decide +kernel) ?_
    refine lv_icmp_ge (pc := 39) (tgt := 55) E.1 E.2.1 dX11_keepNight_39 (by decide) (fun c_268 => ?_) (fun c_268 => ?_)
    · skip
      have hc_268 := leE (a := 6) (b := (mi 3).toInt) (by decide +kernel) rfl c_268
      refine lv_aload_n (pc := 55) E.1 E.2.1 dX11_keepNight_55 rfl (lv_at hl244 1 rfl) ?_
      refine lv_aload_n (pc := 56) E.1 E.2.1 dX11_keepNight_56 rfl (lv_at hl244 1 rfl) ?_
      refine x_get (pc := 57) (T := TX11) (N := 13) (ci := 11) (v := .int (mi 2)) E hw260 inX11 0 9 q_615 rfl rfl (by decide) rfl rfl dX11_keepNight_57 ?_
      refine lv_iconst (pc := 60) (v := 1) E.1 E.2.1 dX11_keepNight_60 (by decide +kernel) ?_
      refine lv_iadd (pc := 61) E.1 E.2.1 dX11_keepNight_61 ?_
      refine lv_topi (fun v_269 ev_269 => ?_)
      have hv_269 : v_269.toInt = (mi 2).toInt + 1 := by rw [ev_269]; exact addE rfl (by decide +kernel) (by omega)
      refine lv_bipush (pc := 62) (v := 6) E.1 E.2.1 dX11_keepNight_62 (by decide +kernel) ?_
      refine lv_irem (pc := 64) E.1 E.2.1 dX11_keepNight_64 (by decide +kernel) ?_
      refine lv_topi (fun v_270 ev_270 => ?_)
      have hbv_270 : v_270.toInt = v_269.toInt := by rw [ev_270]; exact rem6a (by omega)
      refine x_put (pc := 65) (T := TX11) (N := 13) (ci := 11) (ws' := (WZ_Lkeep cI cJ cN mv mr (upd (upd (upd (upd (upd (upd (upd (upd mi 2 v_270) 54 nspoilt_253) 55 nlamp_254) 56 nnight_255) 57 nsnow_256) 58 ndraws_257) 59 ngone_258) 60 nlines_259) (va_up (va_up (va_up (va_up (va_up mf 49 goil_248) 50 gowed_249) 51 ghad_250) 52 glast_251) 53 gdone_252) mg)) E hw260 inX11 tyX11_ok nmX11 0 9 q_615 rfl rfl (by decide) rfl rfl rfl rfl (Nat.le_of_ble_eq_true rfl) rfl dX11_keepNight_65 (fun H locs hw271 => ?_)
      exact em_v (w1 := (fun (u : (Nat → Int32) × (Nat → Nat → Int32) × (Nat → Nat → Int64)) => (WZ_Lkeep cI cJ cN mv mr u.1 u.2.1 u.2.2))) E hr hlk ((upd (upd (upd (upd (upd (upd (upd (upd mi 2 v_270) 54 nspoilt_253) 55 nlamp_254) 56 nnight_255) 57 nsnow_256) 58 ndraws_257) 59 ngone_258) 60 nlines_259), (va_up (va_up (va_up (va_up (va_up mf 49 goil_248) 50 gowed_249) 51 ghad_250) 52 glast_251) 53 gdone_252), mg) hw271 ⟨(by show 0 ≤ v_270.toInt; omega), (by show v_270.toInt ≤ 5; omega), h1.1, h1.2, h2.1, h2.2, h3.1, h3.2, h4.1, h4.2, (by show 0 ≤ ngone_258.toInt; omega), (by show ngone_258.toInt ≤ 200; omega), h6.1, h6.2, h7.1, h7.2, h8.1, h8.2⟩ (Nat.le_of_ble_eq_true rfl) (Nat.le_of_ble_eq_true rfl) dX11_keepNight_68
    · skip
      have hc_268 := nleE (a := 6) (b := (mi 3).toInt) (by decide +kernel) rfl c_268
      refine lv_aload_n (pc := 42) E.1 E.2.1 dX11_keepNight_42 rfl (lv_at hl244 1 rfl) ?_
      refine lv_dup (pc := 43) E.1 E.2.1 dX11_keepNight_43 rfl ?_
      refine x_get (pc := 44) (T := TX11) (N := 13) (ci := 11) (v := .int (mi 3)) E hw260 inX11 0 10 q_616 rfl rfl (by decide) rfl rfl dX11_keepNight_44 ?_
      refine lv_iconst (pc := 47) (v := 1) E.1 E.2.1 dX11_keepNight_47 (by decide +kernel) ?_
      refine lv_iadd (pc := 48) E.1 E.2.1 dX11_keepNight_48 ?_
      refine lv_topi (fun v_272 ev_272 => ?_)
      have hv_272 : v_272.toInt = (mi 3).toInt + 1 := by rw [ev_272]; exact addE rfl (by decide +kernel) (by omega)
      refine x_put (pc := 49) (T := TX11) (N := 13) (ci := 11) (ws' := (WZ_Lkeep cI cJ cN mv mr (upd (upd (upd (upd (upd (upd (upd (upd mi 3 v_272) 54 nspoilt_253) 55 nlamp_254) 56 nnight_255) 57 nsnow_256) 58 ndraws_257) 59 ngone_258) 60 nlines_259) (va_up (va_up (va_up (va_up (va_up mf 49 goil_248) 50 gowed_249) 51 ghad_250) 52 glast_251) 53 gdone_252) mg)) E hw260 inX11 tyX11_ok nmX11 0 10 q_616 rfl rfl (by decide) rfl rfl rfl rfl (Nat.le_of_ble_eq_true rfl) rfl dX11_keepNight_49 (fun H locs hw273 => ?_)
      refine lv_goto (pc := 52) (tgt := 68) E.1 E.2.1 dX11_keepNight_52 (by decide) ?_
      exact em_v (w1 := (fun (u : (Nat → Int32) × (Nat → Nat → Int32) × (Nat → Nat → Int64)) => (WZ_Lkeep cI cJ cN mv mr u.1 u.2.1 u.2.2))) E hr hlk ((upd (upd (upd (upd (upd (upd (upd (upd mi 3 v_272) 54 nspoilt_253) 55 nlamp_254) 56 nnight_255) 57 nsnow_256) 58 ndraws_257) 59 ngone_258) 60 nlines_259), (va_up (va_up (va_up (va_up (va_up mf 49 goil_248) 50 gowed_249) 51 ghad_250) 52 glast_251) 53 gdone_252), mg) hw273 ⟨h0.1, h0.2, (by show 0 ≤ v_272.toInt; omega), (by show v_272.toInt ≤ 6; omega), h2.1, h2.2, h3.1, h3.2, h4.1, h4.2, (by show 0 ≤ ngone_258.toInt; omega), (by show ngone_258.toInt ≤ 200; omega), h6.1, h6.2, h7.1, h7.2, h8.1, h8.2⟩ (Nat.le_of_ble_eq_true rfl) (Nat.le_of_ble_eq_true rfl) dX11_keepNight_68
  · skip
    refine lv_aload_n (pc := 0) E.1 E.2.1 dX11_keepNight_0 rfl (lv_at hl3 0 rfl) ?_
    refine x_get (pc := 1) (T := TX11) (N := 13) (ci := 11) (v := .ref (mr 1)) E hw1 inX11 0 8 q_614 rfl rfl (by decide) rfl rfl dX11_keepNight_1 ?_
    refine lv_aload_n (pc := 4) E.1 E.2.1 dX11_keepNight_4 rfl (lv_at hl3 0 rfl) ?_
    refine x_get (pc := 5) (T := TX11) (N := 13) (ci := 11) (v := .int (mi 2)) E hw1 inX11 0 9 q_615 rfl rfl (by decide) rfl rfl dX11_keepNight_5 ?_
    refine lv_aload_n (pc := 8) E.1 E.2.1 dX11_keepNight_8 rfl (lv_at hl3 0 rfl) ?_
    refine x_get (pc := 9) (T := TX11) (N := 13) (ci := 11) (v := .int (mi 3)) E hw1 inX11 0 10 q_616 rfl rfl (by decide) rfl rfl dX11_keepNight_9 ?_
    refine lv_iadd (pc := 12) E.1 E.2.1 dX11_keepNight_12 ?_
    refine lv_topi (fun v_274 ev_274 => ?_)
    have hv_274 : v_274.toInt = (mi 2).toInt + (mi 3).toInt := by rw [ev_274]; exact addE rfl rfl (by omega)
    refine lv_bipush (pc := 13) (v := 6) E.1 E.2.1 dX11_keepNight_13 (by decide +kernel) ?_
    refine lv_irem (pc := 15) E.1 E.2.1 dX11_keepNight_15 (by decide +kernel) ?_
    refine lv_topi (fun v_275 ev_275 => ?_)
    have hbv_275 : v_275.toInt = v_274.toInt - 6 := by rw [ev_275]; exact rem6b (by omega)
    refine x_aldq (pc := 16) (k := 3) E hX hw1 1 rfl (by show v_275.toInt = 3; omega) (by decide) rfl dX11_keepNight_16 ?_
    refine lv_astore_n (pc := 17) (lv' := [(1, .ref (mr 61)), (0, .ref (mr 0))]) E.1 E.2.1 dX11_keepNight_17 rfl hl3 (by decide) rfl (fun ls hl276 => ?_)
    refine lv_aload_n (pc := 18) E.1 E.2.1 dX11_keepNight_18 rfl (lv_at hl276 0 rfl) ?_
    refine lv_ifnull (pc := 19) E.1 E.2.1 dX11_keepNight_19 ?_
    refine lv_aload_n (pc := 22) E.1 E.2.1 dX11_keepNight_22 rfl (lv_at hl276 0 rfl) ?_
    refine lv_aload_n (pc := 23) E.1 E.2.1 dX11_keepNight_23 rfl (lv_at hl276 1 rfl) ?_
    refine x_get (pc := 24) (T := TX11) (N := 13) (ci := 11) (v := .ref (mr 4)) E hw1 inX11 0 0 q_606 rfl rfl (by decide) rfl rfl dX11_keepNight_24 ?_
    refine x_get (pc := 27) (T := TX10) (N := 17) (ci := 10) (v := .ref (mr 9)) E hw1 inX10 2 0 q_458 rfl rfl (by decide) rfl rfl dX11_keepNight_27 ?_
    refine cq_v (pc := 30) (ws' := (fun (u : (Nat → Int32) × (Nat → Int32) × (Nat → Int32) × (Nat → Int32) × (Nat → Int32) × Int32 × Int32 × Int32 × Int32 × Int32 × Int32 × Int32) => (WZ_Lkeep cI cJ cN mv mr (upd (upd (upd (upd (upd (upd (upd mi 67 u.2.2.2.2.2.1) 68 u.2.2.2.2.2.2.1) 69 u.2.2.2.2.2.2.2.1) 70 u.2.2.2.2.2.2.2.2.1) 71 u.2.2.2.2.2.2.2.2.2.1) 72 u.2.2.2.2.2.2.2.2.2.2.1) 73 u.2.2.2.2.2.2.2.2.2.2.2) (va_up (va_up (va_up (va_up (va_up mf 62 u.1) 63 u.2.1) 64 u.2.2.1) 65 u.2.2.2.1) 66 u.2.2.2.2.1) mg))) hw1 [27, 28, 29, 30, 31, 32, 3, 4, 5, 6, 7, 8] [0, 1, 2, 9, 10, 11, 12, 13, 14, 15, 16, 17, 18, 19, 20, 21, 22, 23, 24, 25, 26, 33, 34, 35, 36, 37, 38, 39, 40, 41, 42, 43, 44] [0, 1, 2, 39, 40, 41, 42, 43, 44, 3, 4, 5, 6, 7, 8, 9, 10, 11, 12, 13, 14, 15, 16, 17, 18, 19, 20, 33, 34, 35, 36, 37, 38, 21, 22, 23, 24, 25, 26, 27, 28, 29, 30, 31, 32] rfl rfl (by decide) (by decide) (fun _ => rfl) (by decide) (rn_V (As := [.ref (mr 9)]) (rest := []) E hw1 (t_nowTake l D cI cJ _ (shs [(0, 61, 13), (13, 9, 13)] mr) (shs [(0, 61, 13), (13, 9, 13)] mi) (shs [(0, 61, 13), (13, 9, 13)] mf) (shs [(0, 61, 13), (13, 9, 13)] mg) ) (gdV q_999 q_1000 q_1001 q_153 q_1002) hdV_X4_take ⟨rfl, rfl⟩ ⟨(Nat.le_of_ble_eq_true rfl), (Nat.le_of_ble_eq_true rfl)⟩ ⟨(Nat.le_of_ble_eq_true rfl), (Nat.le_of_ble_eq_true rfl)⟩ xT_b xT_at 27 4 rfl rfl rfl [27, 28, 29, 30, 31, 32, 3, 4, 5, 6, 7, 8] rfl (by decide) rfl hl276.1 rfl (Nat.le_of_ble_eq_true rfl) dX11_keepNight_30) (fun u_277 H1 locs hp hw279 => ?_)
    obtain ⟨goil_280, gowed_281, ghad_282, glast_283, gdone_284, nspoilt_285, nlamp_286, nnight_287, nsnow_288, ndraws_289, ngone_290, nlines_291⟩ := u_277
    generalize H1 = H at hw279 ⊢
    have hw292 : WD D A s.heap (WZ_Lkeep cI cJ cN mv mr (upd (upd (upd (upd (upd (upd (upd mi 67 nspoilt_285) 68 nlamp_286) 69 nnight_287) 70 nsnow_288) 71 ndraws_289) 72 ngone_290) 73 nlines_291) (va_up (va_up (va_up (va_up (va_up mf 62 goil_280) 63 gowed_281) 64 ghad_282) 65 glast_283) 66 gdone_284) mg) H locs := hw279
    obtain ⟨hp_293, hp_294, hp_295, hp_296, hp_297, hp_298, hp_299⟩ := hp
    have hp_293 : nspoilt_285.toInt = (mi 15).toInt := hp_293
    have hp_294 : nlamp_286.toInt = (mi 16).toInt := hp_294
    have hp_295 : nnight_287.toInt = (mi 17).toInt := hp_295
    have hp_296 : nsnow_288.toInt = (mi 18).toInt := hp_296
    have hp_297 : ndraws_289.toInt = (mi 19).toInt := hp_297
    have hp_298 : ngone_290.toInt = (mi 20).toInt := hp_298
    have hp_299 : nlines_291.toInt = (mi 21).toInt := hp_299
    refine lv_aload_n (pc := 33) E.1 E.2.1 dX11_keepNight_33 rfl (lv_at hl276 1 rfl) ?_
    refine x_get (pc := 34) (T := TX11) (N := 13) (ci := 11) (v := .int (mi 3)) E hw292 inX11 0 10 q_616 rfl rfl (by decide) rfl rfl dX11_keepNight_34 ?_
    refine lv_bipush (pc := 37) (v := 6) E.1 E.2.1 dX11_keepNight_37 (by decide +kernel) ?_
    refine lv_icmp_ge (pc := 39) (tgt := 55) E.1 E.2.1 dX11_keepNight_39 (by decide) (fun c_300 => ?_) (fun c_300 => ?_)
    · skip
      have hc_300 := leE (a := 6) (b := (mi 3).toInt) (by decide +kernel) rfl c_300
      refine lv_aload_n (pc := 55) E.1 E.2.1 dX11_keepNight_55 rfl (lv_at hl276 1 rfl) ?_
      refine lv_aload_n (pc := 56) E.1 E.2.1 dX11_keepNight_56 rfl (lv_at hl276 1 rfl) ?_
      refine x_get (pc := 57) (T := TX11) (N := 13) (ci := 11) (v := .int (mi 2)) E hw292 inX11 0 9 q_615 rfl rfl (by decide) rfl rfl dX11_keepNight_57 ?_
      refine lv_iconst (pc := 60) (v := 1) E.1 E.2.1 dX11_keepNight_60 (by decide +kernel) ?_
      refine lv_iadd (pc := 61) E.1 E.2.1 dX11_keepNight_61 ?_
      refine lv_topi (fun v_301 ev_301 => ?_)
      have hv_301 : v_301.toInt = (mi 2).toInt + 1 := by rw [ev_301]; exact addE rfl (by decide +kernel) (by omega)
      refine lv_bipush (pc := 62) (v := 6) E.1 E.2.1 dX11_keepNight_62 (by decide +kernel) ?_
      refine lv_irem (pc := 64) E.1 E.2.1 dX11_keepNight_64 (by decide +kernel) ?_
      refine lv_topi (fun v_302 ev_302 => ?_)
      have hbv_302 : v_302.toInt = v_301.toInt := by rw [ev_302]; exact rem6a (by omega)
      refine x_put (pc := 65) (T := TX11) (N := 13) (ci := 11) (ws' := (WZ_Lkeep cI cJ cN mv mr (upd (upd (upd (upd (upd (upd (upd (upd mi 2 v_302) 67 nspoilt_285) 68 nlamp_286) 69 nnight_287) 70 nsnow_288) 71 ndraws_289) 72 ngone_290) 73 nlines_291) (va_up (va_up (va_up (va_up (va_up mf 62 goil_280) 63 gowed_281) 64 ghad_282) 65 glast_283) 66 gdone_284) mg)) E hw292 inX11 tyX11_ok nmX11 0 9 q_615 rfl rfl (by decide) rfl rfl rfl rfl (Nat.le_of_ble_eq_true rfl) rfl dX11_keepNight_65 (fun H locs hw303 => ?_)
      exact em_v (w1 := (fun (u : (Nat → Int32) × (Nat → Nat → Int32) × (Nat → Nat → Int64)) => (WZ_Lkeep cI cJ cN mv mr u.1 u.2.1 u.2.2))) E hr hlk ((upd (upd (upd (upd (upd (upd (upd (upd mi 2 v_302) 67 nspoilt_285) 68 nlamp_286) 69 nnight_287) 70 nsnow_288) 71 ndraws_289) 72 ngone_290) 73 nlines_291), (va_up (va_up (va_up (va_up (va_up mf 62 goil_280) 63 gowed_281) 64 ghad_282) 65 glast_283) 66 gdone_284), mg) hw303 ⟨(by show 0 ≤ v_302.toInt; omega), (by show v_302.toInt ≤ 5; omega), h1.1, h1.2, h2.1, h2.2, h3.1, h3.2, h4.1, h4.2, h5.1, h5.2, (by show 0 ≤ ngone_290.toInt; omega), (by show ngone_290.toInt ≤ 200; omega), h7.1, h7.2, h8.1, h8.2⟩ (Nat.le_of_ble_eq_true rfl) (Nat.le_of_ble_eq_true rfl) dX11_keepNight_68
    · skip
      have hc_300 := nleE (a := 6) (b := (mi 3).toInt) (by decide +kernel) rfl c_300
      refine lv_aload_n (pc := 42) E.1 E.2.1 dX11_keepNight_42 rfl (lv_at hl276 1 rfl) ?_
      refine lv_dup (pc := 43) E.1 E.2.1 dX11_keepNight_43 rfl ?_
      refine x_get (pc := 44) (T := TX11) (N := 13) (ci := 11) (v := .int (mi 3)) E hw292 inX11 0 10 q_616 rfl rfl (by decide) rfl rfl dX11_keepNight_44 ?_
      refine lv_iconst (pc := 47) (v := 1) E.1 E.2.1 dX11_keepNight_47 (by decide +kernel) ?_
      refine lv_iadd (pc := 48) E.1 E.2.1 dX11_keepNight_48 ?_
      refine lv_topi (fun v_304 ev_304 => ?_)
      have hv_304 : v_304.toInt = (mi 3).toInt + 1 := by rw [ev_304]; exact addE rfl (by decide +kernel) (by omega)
      refine x_put (pc := 49) (T := TX11) (N := 13) (ci := 11) (ws' := (WZ_Lkeep cI cJ cN mv mr (upd (upd (upd (upd (upd (upd (upd (upd mi 3 v_304) 67 nspoilt_285) 68 nlamp_286) 69 nnight_287) 70 nsnow_288) 71 ndraws_289) 72 ngone_290) 73 nlines_291) (va_up (va_up (va_up (va_up (va_up mf 62 goil_280) 63 gowed_281) 64 ghad_282) 65 glast_283) 66 gdone_284) mg)) E hw292 inX11 tyX11_ok nmX11 0 10 q_616 rfl rfl (by decide) rfl rfl rfl rfl (Nat.le_of_ble_eq_true rfl) rfl dX11_keepNight_49 (fun H locs hw305 => ?_)
      refine lv_goto (pc := 52) (tgt := 68) E.1 E.2.1 dX11_keepNight_52 (by decide) ?_
      exact em_v (w1 := (fun (u : (Nat → Int32) × (Nat → Nat → Int32) × (Nat → Nat → Int64)) => (WZ_Lkeep cI cJ cN mv mr u.1 u.2.1 u.2.2))) E hr hlk ((upd (upd (upd (upd (upd (upd (upd (upd mi 3 v_304) 67 nspoilt_285) 68 nlamp_286) 69 nnight_287) 70 nsnow_288) 71 ndraws_289) 72 ngone_290) 73 nlines_291), (va_up (va_up (va_up (va_up (va_up mf 62 goil_280) 63 gowed_281) 64 ghad_282) 65 glast_283) 66 gdone_284), mg) hw305 ⟨h0.1, h0.2, (by show 0 ≤ v_304.toInt; omega), (by show v_304.toInt ≤ 6; omega), h2.1, h2.2, h3.1, h3.2, h4.1, h4.2, h5.1, h5.2, (by show 0 ≤ ngone_290.toInt; omega), (by show ngone_290.toInt ≤ 200; omega), h7.1, h7.2, h8.1, h8.2⟩ (Nat.le_of_ble_eq_true rfl) (Nat.le_of_ble_eq_true rfl) dX11_keepNight_68
  · skip
    refine lv_aload_n (pc := 0) E.1 E.2.1 dX11_keepNight_0 rfl (lv_at hl3 0 rfl) ?_
    refine x_get (pc := 1) (T := TX11) (N := 13) (ci := 11) (v := .ref (mr 1)) E hw1 inX11 0 8 q_614 rfl rfl (by decide) rfl rfl dX11_keepNight_1 ?_
    refine lv_aload_n (pc := 4) E.1 E.2.1 dX11_keepNight_4 rfl (lv_at hl3 0 rfl) ?_
    refine x_get (pc := 5) (T := TX11) (N := 13) (ci := 11) (v := .int (mi 2)) E hw1 inX11 0 9 q_615 rfl rfl (by decide) rfl rfl dX11_keepNight_5 ?_
    refine lv_aload_n (pc := 8) E.1 E.2.1 dX11_keepNight_8 rfl (lv_at hl3 0 rfl) ?_
    refine x_get (pc := 9) (T := TX11) (N := 13) (ci := 11) (v := .int (mi 3)) E hw1 inX11 0 10 q_616 rfl rfl (by decide) rfl rfl dX11_keepNight_9 ?_
    refine lv_iadd (pc := 12) E.1 E.2.1 dX11_keepNight_12 ?_
    refine lv_topi (fun v_306 ev_306 => ?_)
    have hv_306 : v_306.toInt = (mi 2).toInt + (mi 3).toInt := by rw [ev_306]; exact addE rfl rfl (by omega)
    refine lv_bipush (pc := 13) (v := 6) E.1 E.2.1 dX11_keepNight_13 (by decide +kernel) ?_
    refine lv_irem (pc := 15) E.1 E.2.1 dX11_keepNight_15 (by decide +kernel) ?_
    refine lv_topi (fun v_307 ev_307 => ?_)
    have hbv_307 : v_307.toInt = v_306.toInt - 6 := by rw [ev_307]; exact rem6b (by omega)
    refine x_aldq (pc := 16) (k := 4) E hX hw1 1 rfl (by show v_307.toInt = 4; omega) (by decide) rfl dX11_keepNight_16 ?_
    refine lv_astore_n (pc := 17) (lv' := [(1, .ref (mr 74)), (0, .ref (mr 0))]) E.1 E.2.1 dX11_keepNight_17 rfl hl3 (by decide) rfl (fun ls hl308 => ?_)
    refine lv_aload_n (pc := 18) E.1 E.2.1 dX11_keepNight_18 rfl (lv_at hl308 0 rfl) ?_
    refine lv_ifnull (pc := 19) E.1 E.2.1 dX11_keepNight_19 ?_
    refine lv_aload_n (pc := 22) E.1 E.2.1 dX11_keepNight_22 rfl (lv_at hl308 0 rfl) ?_
    refine lv_aload_n (pc := 23) E.1 E.2.1 dX11_keepNight_23 rfl (lv_at hl308 1 rfl) ?_
    refine x_get (pc := 24) (T := TX11) (N := 13) (ci := 11) (v := .ref (mr 4)) E hw1 inX11 0 0 q_606 rfl rfl (by decide) rfl rfl dX11_keepNight_24 ?_
    refine x_get (pc := 27) (T := TX10) (N := 17) (ci := 10) (v := .ref (mr 9)) E hw1 inX10 2 0 q_458 rfl rfl (by decide) rfl rfl dX11_keepNight_27 ?_
    refine cq_v (pc := 30) (ws' := (fun (u : (Nat → Int32) × (Nat → Int32) × (Nat → Int32) × (Nat → Int32) × (Nat → Int32) × Int32 × Int32 × Int32 × Int32 × Int32 × Int32 × Int32) => (WZ_Lkeep cI cJ cN mv mr (upd (upd (upd (upd (upd (upd (upd mi 80 u.2.2.2.2.2.1) 81 u.2.2.2.2.2.2.1) 82 u.2.2.2.2.2.2.2.1) 83 u.2.2.2.2.2.2.2.2.1) 84 u.2.2.2.2.2.2.2.2.2.1) 85 u.2.2.2.2.2.2.2.2.2.2.1) 86 u.2.2.2.2.2.2.2.2.2.2.2) (va_up (va_up (va_up (va_up (va_up mf 75 u.1) 76 u.2.1) 77 u.2.2.1) 78 u.2.2.2.1) 79 u.2.2.2.2.1) mg))) hw1 [33, 34, 35, 36, 37, 38, 3, 4, 5, 6, 7, 8] [0, 1, 2, 9, 10, 11, 12, 13, 14, 15, 16, 17, 18, 19, 20, 21, 22, 23, 24, 25, 26, 27, 28, 29, 30, 31, 32, 39, 40, 41, 42, 43, 44] [0, 1, 2, 39, 40, 41, 42, 43, 44, 3, 4, 5, 6, 7, 8, 9, 10, 11, 12, 13, 14, 15, 16, 17, 18, 19, 20, 21, 22, 23, 24, 25, 26, 33, 34, 35, 36, 37, 38, 27, 28, 29, 30, 31, 32] rfl rfl (by decide) (by decide) (fun _ => rfl) (by decide) (rn_V (As := [.ref (mr 9)]) (rest := []) E hw1 (t_nowTake l D cI cJ _ (shs [(0, 74, 13), (13, 9, 13)] mr) (shs [(0, 74, 13), (13, 9, 13)] mi) (shs [(0, 74, 13), (13, 9, 13)] mf) (shs [(0, 74, 13), (13, 9, 13)] mg) ) (gdV q_999 q_1000 q_1001 q_153 q_1002) hdV_X4_take ⟨rfl, rfl⟩ ⟨(Nat.le_of_ble_eq_true rfl), (Nat.le_of_ble_eq_true rfl)⟩ ⟨(Nat.le_of_ble_eq_true rfl), (Nat.le_of_ble_eq_true rfl)⟩ xT_b xT_at 33 4 rfl rfl rfl [33, 34, 35, 36, 37, 38, 3, 4, 5, 6, 7, 8] rfl (by decide) rfl hl308.1 rfl (Nat.le_of_ble_eq_true rfl) dX11_keepNight_30) (fun u_309 H1 locs hp hw311 => ?_)
    obtain ⟨goil_312, gowed_313, ghad_314, glast_315, gdone_316, nspoilt_317, nlamp_318, nnight_319, nsnow_320, ndraws_321, ngone_322, nlines_323⟩ := u_309
    generalize H1 = H at hw311 ⊢
    have hw324 : WD D A s.heap (WZ_Lkeep cI cJ cN mv mr (upd (upd (upd (upd (upd (upd (upd mi 80 nspoilt_317) 81 nlamp_318) 82 nnight_319) 83 nsnow_320) 84 ndraws_321) 85 ngone_322) 86 nlines_323) (va_up (va_up (va_up (va_up (va_up mf 75 goil_312) 76 gowed_313) 77 ghad_314) 78 glast_315) 79 gdone_316) mg) H locs := hw311
    obtain ⟨hp_325, hp_326, hp_327, hp_328, hp_329, hp_330, hp_331⟩ := hp
    have hp_325 : nspoilt_317.toInt = (mi 15).toInt := hp_325
    have hp_326 : nlamp_318.toInt = (mi 16).toInt := hp_326
    have hp_327 : nnight_319.toInt = (mi 17).toInt := hp_327
    have hp_328 : nsnow_320.toInt = (mi 18).toInt := hp_328
    have hp_329 : ndraws_321.toInt = (mi 19).toInt := hp_329
    have hp_330 : ngone_322.toInt = (mi 20).toInt := hp_330
    have hp_331 : nlines_323.toInt = (mi 21).toInt := hp_331
    refine lv_aload_n (pc := 33) E.1 E.2.1 dX11_keepNight_33 rfl (lv_at hl308 1 rfl) ?_
    refine x_get (pc := 34) (T := TX11) (N := 13) (ci := 11) (v := .int (mi 3)) E hw324 inX11 0 10 q_616 rfl rfl (by decide) rfl rfl dX11_keepNight_34 ?_
    refine lv_bipush (pc := 37) (v := 6) E.1 E.2.1 dX11_keepNight_37 (by decide +kernel) ?_
    refine lv_icmp_ge (pc := 39) (tgt := 55) E.1 E.2.1 dX11_keepNight_39 (by decide) (fun c_332 => ?_) (fun c_332 => ?_)
    · skip
      have hc_332 := leE (a := 6) (b := (mi 3).toInt) (by decide +kernel) rfl c_332
      refine lv_aload_n (pc := 55) E.1 E.2.1 dX11_keepNight_55 rfl (lv_at hl308 1 rfl) ?_
      refine lv_aload_n (pc := 56) E.1 E.2.1 dX11_keepNight_56 rfl (lv_at hl308 1 rfl) ?_
      refine x_get (pc := 57) (T := TX11) (N := 13) (ci := 11) (v := .int (mi 2)) E hw324 inX11 0 9 q_615 rfl rfl (by decide) rfl rfl dX11_keepNight_57 ?_
      refine lv_iconst (pc := 60) (v := 1) E.1 E.2.1 dX11_keepNight_60 (by decide +kernel) ?_
      refine lv_iadd (pc := 61) E.1 E.2.1 dX11_keepNight_61 ?_
      refine lv_topi (fun v_333 ev_333 => ?_)
      have hv_333 : v_333.toInt = (mi 2).toInt + 1 := by rw [ev_333]; exact addE rfl (by decide +kernel) (by omega)
      refine lv_bipush (pc := 62) (v := 6) E.1 E.2.1 dX11_keepNight_62 (by decide +kernel) ?_
      refine lv_irem (pc := 64) E.1 E.2.1 dX11_keepNight_64 (by decide +kernel) ?_
      refine lv_topi (fun v_334 ev_334 => ?_)
      have hbv_334 : v_334.toInt = v_333.toInt := by rw [ev_334]; exact rem6a (by omega)
      refine x_put (pc := 65) (T := TX11) (N := 13) (ci := 11) (ws' := (WZ_Lkeep cI cJ cN mv mr (upd (upd (upd (upd (upd (upd (upd (upd mi 2 v_334) 80 nspoilt_317) 81 nlamp_318) 82 nnight_319) 83 nsnow_320) 84 ndraws_321) 85 ngone_322) 86 nlines_323) (va_up (va_up (va_up (va_up (va_up mf 75 goil_312) 76 gowed_313) 77 ghad_314) 78 glast_315) 79 gdone_316) mg)) E hw324 inX11 tyX11_ok nmX11 0 9 q_615 rfl rfl (by decide) rfl rfl rfl rfl (Nat.le_of_ble_eq_true rfl) rfl dX11_keepNight_65 (fun H locs hw335 => ?_)
      exact em_v (w1 := (fun (u : (Nat → Int32) × (Nat → Nat → Int32) × (Nat → Nat → Int64)) => (WZ_Lkeep cI cJ cN mv mr u.1 u.2.1 u.2.2))) E hr hlk ((upd (upd (upd (upd (upd (upd (upd (upd mi 2 v_334) 80 nspoilt_317) 81 nlamp_318) 82 nnight_319) 83 nsnow_320) 84 ndraws_321) 85 ngone_322) 86 nlines_323), (va_up (va_up (va_up (va_up (va_up mf 75 goil_312) 76 gowed_313) 77 ghad_314) 78 glast_315) 79 gdone_316), mg) hw335 ⟨(by show 0 ≤ v_334.toInt; omega), (by show v_334.toInt ≤ 5; omega), h1.1, h1.2, h2.1, h2.2, h3.1, h3.2, h4.1, h4.2, h5.1, h5.2, h6.1, h6.2, (by show 0 ≤ ngone_322.toInt; omega), (by show ngone_322.toInt ≤ 200; omega), h8.1, h8.2⟩ (Nat.le_of_ble_eq_true rfl) (Nat.le_of_ble_eq_true rfl) dX11_keepNight_68
    · skip
      have hc_332 := nleE (a := 6) (b := (mi 3).toInt) (by decide +kernel) rfl c_332
      refine lv_aload_n (pc := 42) E.1 E.2.1 dX11_keepNight_42 rfl (lv_at hl308 1 rfl) ?_
      refine lv_dup (pc := 43) E.1 E.2.1 dX11_keepNight_43 rfl ?_
      refine x_get (pc := 44) (T := TX11) (N := 13) (ci := 11) (v := .int (mi 3)) E hw324 inX11 0 10 q_616 rfl rfl (by decide) rfl rfl dX11_keepNight_44 ?_
      refine lv_iconst (pc := 47) (v := 1) E.1 E.2.1 dX11_keepNight_47 (by decide +kernel) ?_
      refine lv_iadd (pc := 48) E.1 E.2.1 dX11_keepNight_48 ?_
      refine lv_topi (fun v_336 ev_336 => ?_)
      have hv_336 : v_336.toInt = (mi 3).toInt + 1 := by rw [ev_336]; exact addE rfl (by decide +kernel) (by omega)
      refine x_put (pc := 49) (T := TX11) (N := 13) (ci := 11) (ws' := (WZ_Lkeep cI cJ cN mv mr (upd (upd (upd (upd (upd (upd (upd (upd mi 3 v_336) 80 nspoilt_317) 81 nlamp_318) 82 nnight_319) 83 nsnow_320) 84 ndraws_321) 85 ngone_322) 86 nlines_323) (va_up (va_up (va_up (va_up (va_up mf 75 goil_312) 76 gowed_313) 77 ghad_314) 78 glast_315) 79 gdone_316) mg)) E hw324 inX11 tyX11_ok nmX11 0 10 q_616 rfl rfl (by decide) rfl rfl rfl rfl (Nat.le_of_ble_eq_true rfl) rfl dX11_keepNight_49 (fun H locs hw337 => ?_)
      refine lv_goto (pc := 52) (tgt := 68) E.1 E.2.1 dX11_keepNight_52 (by decide) ?_
      exact em_v (w1 := (fun (u : (Nat → Int32) × (Nat → Nat → Int32) × (Nat → Nat → Int64)) => (WZ_Lkeep cI cJ cN mv mr u.1 u.2.1 u.2.2))) E hr hlk ((upd (upd (upd (upd (upd (upd (upd (upd mi 3 v_336) 80 nspoilt_317) 81 nlamp_318) 82 nnight_319) 83 nsnow_320) 84 ndraws_321) 85 ngone_322) 86 nlines_323), (va_up (va_up (va_up (va_up (va_up mf 75 goil_312) 76 gowed_313) 77 ghad_314) 78 glast_315) 79 gdone_316), mg) hw337 ⟨h0.1, h0.2, (by show 0 ≤ v_336.toInt; omega), (by show v_336.toInt ≤ 6; omega), h2.1, h2.2, h3.1, h3.2, h4.1, h4.2, h5.1, h5.2, h6.1, h6.2, (by show 0 ≤ ngone_322.toInt; omega), (by show ngone_322.toInt ≤ 200; omega), h8.1, h8.2⟩ (Nat.le_of_ble_eq_true rfl) (Nat.le_of_ble_eq_true rfl) dX11_keepNight_68
  · skip
    refine lv_aload_n (pc := 0) E.1 E.2.1 dX11_keepNight_0 rfl (lv_at hl3 0 rfl) ?_
    refine x_get (pc := 1) (T := TX11) (N := 13) (ci := 11) (v := .ref (mr 1)) E hw1 inX11 0 8 q_614 rfl rfl (by decide) rfl rfl dX11_keepNight_1 ?_
    refine lv_aload_n (pc := 4) E.1 E.2.1 dX11_keepNight_4 rfl (lv_at hl3 0 rfl) ?_
    refine x_get (pc := 5) (T := TX11) (N := 13) (ci := 11) (v := .int (mi 2)) E hw1 inX11 0 9 q_615 rfl rfl (by decide) rfl rfl dX11_keepNight_5 ?_
    refine lv_aload_n (pc := 8) E.1 E.2.1 dX11_keepNight_8 rfl (lv_at hl3 0 rfl) ?_
    refine x_get (pc := 9) (T := TX11) (N := 13) (ci := 11) (v := .int (mi 3)) E hw1 inX11 0 10 q_616 rfl rfl (by decide) rfl rfl dX11_keepNight_9 ?_
    refine lv_iadd (pc := 12) E.1 E.2.1 dX11_keepNight_12 ?_
    refine lv_topi (fun v_338 ev_338 => ?_)
    have hv_338 : v_338.toInt = (mi 2).toInt + (mi 3).toInt := by rw [ev_338]; exact addE rfl rfl (by omega)
    refine lv_bipush (pc := 13) (v := 6) E.1 E.2.1 dX11_keepNight_13 (by decide +kernel) ?_
    refine lv_irem (pc := 15) E.1 E.2.1 dX11_keepNight_15 (by decide +kernel) ?_
    refine lv_topi (fun v_339 ev_339 => ?_)
    have hbv_339 : v_339.toInt = v_338.toInt - 6 := by rw [ev_339]; exact rem6b (by omega)
    refine x_aldq (pc := 16) (k := 5) E hX hw1 1 rfl (by show v_339.toInt = 5; omega) (by decide) rfl dX11_keepNight_16 ?_
    refine lv_astore_n (pc := 17) (lv' := [(1, .ref (mr 87)), (0, .ref (mr 0))]) E.1 E.2.1 dX11_keepNight_17 rfl hl3 (by decide) rfl (fun ls hl340 => ?_)
    refine lv_aload_n (pc := 18) E.1 E.2.1 dX11_keepNight_18 rfl (lv_at hl340 0 rfl) ?_
    refine lv_ifnull (pc := 19) E.1 E.2.1 dX11_keepNight_19 ?_
    refine lv_aload_n (pc := 22) E.1 E.2.1 dX11_keepNight_22 rfl (lv_at hl340 0 rfl) ?_
    refine lv_aload_n (pc := 23) E.1 E.2.1 dX11_keepNight_23 rfl (lv_at hl340 1 rfl) ?_
    refine x_get (pc := 24) (T := TX11) (N := 13) (ci := 11) (v := .ref (mr 4)) E hw1 inX11 0 0 q_606 rfl rfl (by decide) rfl rfl dX11_keepNight_24 ?_
    refine x_get (pc := 27) (T := TX10) (N := 17) (ci := 10) (v := .ref (mr 9)) E hw1 inX10 2 0 q_458 rfl rfl (by decide) rfl rfl dX11_keepNight_27 ?_
    refine cq_v (pc := 30) (ws' := (fun (u : (Nat → Int32) × (Nat → Int32) × (Nat → Int32) × (Nat → Int32) × (Nat → Int32) × Int32 × Int32 × Int32 × Int32 × Int32 × Int32 × Int32) => (WZ_Lkeep cI cJ cN mv mr (upd (upd (upd (upd (upd (upd (upd mi 93 u.2.2.2.2.2.1) 94 u.2.2.2.2.2.2.1) 95 u.2.2.2.2.2.2.2.1) 96 u.2.2.2.2.2.2.2.2.1) 97 u.2.2.2.2.2.2.2.2.2.1) 98 u.2.2.2.2.2.2.2.2.2.2.1) 99 u.2.2.2.2.2.2.2.2.2.2.2) (va_up (va_up (va_up (va_up (va_up mf 88 u.1) 89 u.2.1) 90 u.2.2.1) 91 u.2.2.2.1) 92 u.2.2.2.2.1) mg))) hw1 [39, 40, 41, 42, 43, 44, 3, 4, 5, 6, 7, 8] [0, 1, 2, 9, 10, 11, 12, 13, 14, 15, 16, 17, 18, 19, 20, 21, 22, 23, 24, 25, 26, 27, 28, 29, 30, 31, 32, 33, 34, 35, 36, 37, 38] [0, 1, 2, 39, 40, 41, 42, 43, 44, 3, 4, 5, 6, 7, 8, 9, 10, 11, 12, 13, 14, 15, 16, 17, 18, 19, 20, 21, 22, 23, 24, 25, 26, 27, 28, 29, 30, 31, 32, 33, 34, 35, 36, 37, 38] rfl rfl (by decide) (by decide) (fun _ => rfl) (by decide) (rn_V (As := [.ref (mr 9)]) (rest := []) E hw1 (t_nowTake l D cI cJ _ (shs [(0, 87, 13), (13, 9, 13)] mr) (shs [(0, 87, 13), (13, 9, 13)] mi) (shs [(0, 87, 13), (13, 9, 13)] mf) (shs [(0, 87, 13), (13, 9, 13)] mg) ) (gdV q_999 q_1000 q_1001 q_153 q_1002) hdV_X4_take ⟨rfl, rfl⟩ ⟨(Nat.le_of_ble_eq_true rfl), (Nat.le_of_ble_eq_true rfl)⟩ ⟨(Nat.le_of_ble_eq_true rfl), (Nat.le_of_ble_eq_true rfl)⟩ xT_b xT_at 39 4 rfl rfl rfl [39, 40, 41, 42, 43, 44, 3, 4, 5, 6, 7, 8] rfl (by decide) rfl hl340.1 rfl (Nat.le_of_ble_eq_true rfl) dX11_keepNight_30) (fun u_341 H1 locs hp hw343 => ?_)
    obtain ⟨goil_344, gowed_345, ghad_346, glast_347, gdone_348, nspoilt_349, nlamp_350, nnight_351, nsnow_352, ndraws_353, ngone_354, nlines_355⟩ := u_341
    generalize H1 = H at hw343 ⊢
    have hw356 : WD D A s.heap (WZ_Lkeep cI cJ cN mv mr (upd (upd (upd (upd (upd (upd (upd mi 93 nspoilt_349) 94 nlamp_350) 95 nnight_351) 96 nsnow_352) 97 ndraws_353) 98 ngone_354) 99 nlines_355) (va_up (va_up (va_up (va_up (va_up mf 88 goil_344) 89 gowed_345) 90 ghad_346) 91 glast_347) 92 gdone_348) mg) H locs := hw343
    obtain ⟨hp_357, hp_358, hp_359, hp_360, hp_361, hp_362, hp_363⟩ := hp
    have hp_357 : nspoilt_349.toInt = (mi 15).toInt := hp_357
    have hp_358 : nlamp_350.toInt = (mi 16).toInt := hp_358
    have hp_359 : nnight_351.toInt = (mi 17).toInt := hp_359
    have hp_360 : nsnow_352.toInt = (mi 18).toInt := hp_360
    have hp_361 : ndraws_353.toInt = (mi 19).toInt := hp_361
    have hp_362 : ngone_354.toInt = (mi 20).toInt := hp_362
    have hp_363 : nlines_355.toInt = (mi 21).toInt := hp_363
    refine lv_aload_n (pc := 33) E.1 E.2.1 dX11_keepNight_33 rfl (lv_at hl340 1 rfl) ?_
    refine x_get (pc := 34) (T := TX11) (N := 13) (ci := 11) (v := .int (mi 3)) E hw356 inX11 0 10 q_616 rfl rfl (by decide) rfl rfl dX11_keepNight_34 ?_
    refine lv_bipush (pc := 37) (v := 6) E.1 E.2.1 dX11_keepNight_37 (by decide +kernel) ?_
    refine lv_icmp_ge (pc := 39) (tgt := 55) E.1 E.2.1 dX11_keepNight_39 (by decide) (fun _ => ?_) (fun c_364 => absurd (mleE (a := 6) (b := (mi 3).toInt) (by decide +kernel) rfl (by omega)) c_364)
    refine lv_aload_n (pc := 55) E.1 E.2.1 dX11_keepNight_55 rfl (lv_at hl340 1 rfl) ?_
    refine lv_aload_n (pc := 56) E.1 E.2.1 dX11_keepNight_56 rfl (lv_at hl340 1 rfl) ?_
    refine x_get (pc := 57) (T := TX11) (N := 13) (ci := 11) (v := .int (mi 2)) E hw356 inX11 0 9 q_615 rfl rfl (by decide) rfl rfl dX11_keepNight_57 ?_
    refine lv_iconst (pc := 60) (v := 1) E.1 E.2.1 dX11_keepNight_60 (by decide +kernel) ?_
    refine lv_iadd (pc := 61) E.1 E.2.1 dX11_keepNight_61 ?_
    refine lv_topi (fun v_365 ev_365 => ?_)
    have hv_365 : v_365.toInt = (mi 2).toInt + 1 := by rw [ev_365]; exact addE rfl (by decide +kernel) (by omega)
    refine lv_bipush (pc := 62) (v := 6) E.1 E.2.1 dX11_keepNight_62 (by decide +kernel) ?_
    refine lv_irem (pc := 64) E.1 E.2.1 dX11_keepNight_64 (by decide +kernel) ?_
    refine lv_topi (fun v_366 ev_366 => ?_)
    have hbv_366 : v_366.toInt = v_365.toInt - 6 := by rw [ev_366]; exact rem6b (by omega)
    refine x_put (pc := 65) (T := TX11) (N := 13) (ci := 11) (ws' := (WZ_Lkeep cI cJ cN mv mr (upd (upd (upd (upd (upd (upd (upd (upd mi 2 v_366) 93 nspoilt_349) 94 nlamp_350) 95 nnight_351) 96 nsnow_352) 97 ndraws_353) 98 ngone_354) 99 nlines_355) (va_up (va_up (va_up (va_up (va_up mf 88 goil_344) 89 gowed_345) 90 ghad_346) 91 glast_347) 92 gdone_348) mg)) E hw356 inX11 tyX11_ok nmX11 0 9 q_615 rfl rfl (by decide) rfl rfl rfl rfl (Nat.le_of_ble_eq_true rfl) rfl dX11_keepNight_65 (fun H locs hw367 => ?_)
    exact em_v (w1 := (fun (u : (Nat → Int32) × (Nat → Nat → Int32) × (Nat → Nat → Int64)) => (WZ_Lkeep cI cJ cN mv mr u.1 u.2.1 u.2.2))) E hr hlk ((upd (upd (upd (upd (upd (upd (upd (upd mi 2 v_366) 93 nspoilt_349) 94 nlamp_350) 95 nnight_351) 96 nsnow_352) 97 ndraws_353) 98 ngone_354) 99 nlines_355), (va_up (va_up (va_up (va_up (va_up mf 88 goil_344) 89 gowed_345) 90 ghad_346) 91 glast_347) 92 gdone_348), mg) hw367 ⟨(by show 0 ≤ v_366.toInt; omega), (by show v_366.toInt ≤ 5; omega), h1.1, h1.2, h2.1, h2.2, h3.1, h3.2, h4.1, h4.2, h5.1, h5.2, h6.1, h6.2, h7.1, h7.2, (by show 0 ≤ ngone_354.toInt; omega), (by show ngone_354.toInt ≤ 200; omega)⟩ (Nat.le_of_ble_eq_true rfl) (Nat.le_of_ble_eq_true rfl) dX11_keepNight_68
