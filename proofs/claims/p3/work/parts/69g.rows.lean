set_option maxHeartbeats 4000000 in
set_option maxRecDepth 100000 in
theorem t_keep9 (l : Launch) (D : va_G) (cI cJ : ClassId) (sz : Nat) (mr : Nat → Nat) (mi : Nat → Int32) (mf : Nat → Nat → Int32) (mg : Nat → Nat → Int64)  (cN : ClassId) (mv : Nat → Value) (h0 : 0 ≤ (mi 2).toInt ∧ (mi 2).toInt ≤ 5) (h1 : 0 ≤ (mi 3).toInt ∧ (mi 3).toInt ≤ 6) (h2 : 0 ≤ (mi 20).toInt ∧ (mi 20).toInt ≤ 200) (h3 : 0 ≤ (mi 33).toInt ∧ (mi 33).toInt ≤ 200) (h4 : 0 ≤ (mi 46).toInt ∧ (mi 46).toInt ≤ 200) (h5 : 0 ≤ (mi 59).toInt ∧ (mi 59).toInt ≤ 200) (h6 : 0 ≤ (mi 72).toInt ∧ (mi 72).toInt ≤ 200) (h7 : 0 ≤ (mi 85).toInt ∧ (mi 85).toInt ≤ 200) (h8 : 0 ≤ (mi 98).toInt ∧ (mi 98).toInt ≤ 200) (h9 : (mi 2).toInt + (mi 3).toInt = 9) : Met l yX11_keepNight (Cond.code yX11_keepNight cX11_keepNight 2 none :: GW) ({ frames := 2, cells := 0, slots := 0, locals := 81 } : Room) (va_Pc [.ref (mr 0)] (PW D cI cJ sz (WZ_Lkeep cI cJ cN mv mr mi mf mg) (xN D cI cJ cN))) (va_Qv (fun (u : Int32 × Int32 × (Nat → Int32) × (Nat → Int32) × (Nat → Int32) × (Nat → Int32) × (Nat → Int32) × Int32 × Int32 × Int32 × Int32 × Int32 × Int32 × Int32) => (0 ≤ u.1.toInt) ∧ (u.1.toInt ≤ 5) ∧ (0 ≤ u.2.1.toInt) ∧ (u.2.1.toInt ≤ 6) ∧ (0 ≤ u.2.2.2.2.2.2.2.2.2.2.2.2.1.toInt) ∧ (u.2.2.2.2.2.2.2.2.2.2.2.2.1.toInt ≤ 200)) (fun u => QW D cI cJ (va_A (WZ_Lkeep cI cJ cN mv mr mi mf mg) sz) ((fun (u : Int32 × Int32 × (Nat → Int32) × (Nat → Int32) × (Nat → Int32) × (Nat → Int32) × (Nat → Int32) × Int32 × Int32 × Int32 × Int32 × Int32 × Int32 × Int32) => (WZ_Lkeep cI cJ cN mv mr (upd (upd (upd (upd (upd (upd (upd (upd (upd mi 2 u.1) 3 u.2.1) 67 u.2.2.2.2.2.2.2.1) 68 u.2.2.2.2.2.2.2.2.1) 69 u.2.2.2.2.2.2.2.2.2.1) 70 u.2.2.2.2.2.2.2.2.2.2.1) 71 u.2.2.2.2.2.2.2.2.2.2.2.1) 72 u.2.2.2.2.2.2.2.2.2.2.2.2.1) 73 u.2.2.2.2.2.2.2.2.2.2.2.2.2) (va_up (va_up (va_up (va_up (va_up mf 62 u.2.2.1) 63 u.2.2.2.1) 64 u.2.2.2.2.1) 65 u.2.2.2.2.2.1) 66 u.2.2.2.2.2.2.1) mg)) u)) (va_A (WZ_Lkeep cI cJ cN mv mr mi mf mg) sz)) 0 0 (va_A (WZ_Lkeep cI cJ cN mv mr mi mf mg) sz) := by
  refine mk_met (y := yX11_keepNight) (bytes := cX11_keepNight) (maxL := 2) (avs := [.ref (mr 0)]) (WS := (WZ_Lkeep cI cJ cN mv mr mi mf mg)) (Qf := fun A => va_Qv (fun (u : Int32 × Int32 × (Nat → Int32) × (Nat → Int32) × (Nat → Int32) × (Nat → Int32) × (Nat → Int32) × Int32 × Int32 × Int32 × Int32 × Int32 × Int32 × Int32) => (0 ≤ u.1.toInt) ∧ (u.1.toInt ≤ 5) ∧ (0 ≤ u.2.1.toInt) ∧ (u.2.1.toInt ≤ 6) ∧ (0 ≤ u.2.2.2.2.2.2.2.2.2.2.2.2.1.toInt) ∧ (u.2.2.2.2.2.2.2.2.2.2.2.2.1.toInt ≤ 200)) (fun u => QW D cI cJ A ((fun (u : Int32 × Int32 × (Nat → Int32) × (Nat → Int32) × (Nat → Int32) × (Nat → Int32) × (Nat → Int32) × Int32 × Int32 × Int32 × Int32 × Int32 × Int32 × Int32) => (WZ_Lkeep cI cJ cN mv mr (upd (upd (upd (upd (upd (upd (upd (upd (upd mi 2 u.1) 3 u.2.1) 67 u.2.2.2.2.2.2.2.1) 68 u.2.2.2.2.2.2.2.2.1) 69 u.2.2.2.2.2.2.2.2.2.1) 70 u.2.2.2.2.2.2.2.2.2.2.1) 71 u.2.2.2.2.2.2.2.2.2.2.2.1) 72 u.2.2.2.2.2.2.2.2.2.2.2.2.1) 73 u.2.2.2.2.2.2.2.2.2.2.2.2.2) (va_up (va_up (va_up (va_up (va_up mf 62 u.2.2.1) 63 u.2.2.2.1) 64 u.2.2.2.2.1) 65 u.2.2.2.2.2.1) 66 u.2.2.2.2.2.2.1) mg)) u)) A) (by decide) (Nat.le_of_ble_eq_true rfl) ?_
  intro p e s m below meth c A ls E hr hlk hnm hX hw1 hl2
  have hl3 : lv_has ls 2 [(0, .ref (mr 0))] := hl2
  refine lv_aload_n (pc := 0) E.1 E.2.1 dX11_keepNight_0 rfl (lv_at hl3 0 rfl) ?_
  refine x_get (pc := 1) (T := TX11) (N := 13) (ci := 11) (v := .ref (mr 1)) E hw1 inX11 0 8 q_614 rfl rfl (by decide) rfl rfl dX11_keepNight_1 ?_
  refine lv_aload_n (pc := 4) E.1 E.2.1 dX11_keepNight_4 rfl (lv_at hl3 0 rfl) ?_
  refine x_get (pc := 5) (T := TX11) (N := 13) (ci := 11) (v := .int (mi 2)) E hw1 inX11 0 9 q_615 rfl rfl (by decide) rfl rfl dX11_keepNight_5 ?_
  refine lv_aload_n (pc := 8) E.1 E.2.1 dX11_keepNight_8 rfl (lv_at hl3 0 rfl) ?_
  refine x_get (pc := 9) (T := TX11) (N := 13) (ci := 11) (v := .int (mi 3)) E hw1 inX11 0 10 q_616 rfl rfl (by decide) rfl rfl dX11_keepNight_9 ?_
  refine lv_iadd (pc := 12) E.1 E.2.1 dX11_keepNight_12 ?_
  refine lv_topi (fun v_4 ev_4 => ?_)
  have hv_4 : v_4.toInt = (mi 2).toInt + (mi 3).toInt := by rw [ev_4]; exact addE rfl rfl (by omega)
  refine lv_bipush (pc := 13) (v := 6) E.1 E.2.1 dX11_keepNight_13 (by decide +kernel) ?_
  refine lv_irem (pc := 15) E.1 E.2.1 dX11_keepNight_15 (by decide +kernel) ?_
  refine lv_topi (fun v_5 ev_5 => ?_)
  have hbv_5 : v_5.toInt = v_4.toInt - 6 := by rw [ev_5]; exact rem6b (by omega)
  refine x_aldq (pc := 16) (k := 3) E hX hw1 1 rfl (by show v_5.toInt = 3; omega) (by decide) rfl dX11_keepNight_16 ?_
  refine lv_astore_n (pc := 17) (lv' := [(1, .ref (mr 61)), (0, .ref (mr 0))]) E.1 E.2.1 dX11_keepNight_17 rfl hl3 (by decide) rfl (fun ls hl6 => ?_)
  refine lv_aload_n (pc := 18) E.1 E.2.1 dX11_keepNight_18 rfl (lv_at hl6 0 rfl) ?_
  refine lv_ifnull (pc := 19) E.1 E.2.1 dX11_keepNight_19 ?_
  refine lv_aload_n (pc := 22) E.1 E.2.1 dX11_keepNight_22 rfl (lv_at hl6 0 rfl) ?_
  refine lv_aload_n (pc := 23) E.1 E.2.1 dX11_keepNight_23 rfl (lv_at hl6 1 rfl) ?_
  refine x_get (pc := 24) (T := TX11) (N := 13) (ci := 11) (v := .ref (mr 4)) E hw1 inX11 0 0 q_606 rfl rfl (by decide) rfl rfl dX11_keepNight_24 ?_
  refine x_get (pc := 27) (T := TX10) (N := 17) (ci := 10) (v := .ref (mr 9)) E hw1 inX10 2 0 q_458 rfl rfl (by decide) rfl rfl dX11_keepNight_27 ?_
  refine cq_v (pc := 30) (ws' := (fun (u : (Nat → Int32) × (Nat → Int32) × (Nat → Int32) × (Nat → Int32) × (Nat → Int32) × Int32 × Int32 × Int32 × Int32 × Int32 × Int32 × Int32) => (WZ_Lkeep cI cJ cN mv mr (upd (upd (upd (upd (upd (upd (upd mi 67 u.2.2.2.2.2.1) 68 u.2.2.2.2.2.2.1) 69 u.2.2.2.2.2.2.2.1) 70 u.2.2.2.2.2.2.2.2.1) 71 u.2.2.2.2.2.2.2.2.2.1) 72 u.2.2.2.2.2.2.2.2.2.2.1) 73 u.2.2.2.2.2.2.2.2.2.2.2) (va_up (va_up (va_up (va_up (va_up mf 62 u.1) 63 u.2.1) 64 u.2.2.1) 65 u.2.2.2.1) 66 u.2.2.2.2.1) mg))) hw1 [27, 28, 29, 30, 31, 32, 3, 4, 5, 6, 7, 8] [0, 1, 2, 9, 10, 11, 12, 13, 14, 15, 16, 17, 18, 19, 20, 21, 22, 23, 24, 25, 26, 33, 34, 35, 36, 37, 38, 39, 40, 41, 42, 43, 44] [0, 1, 2, 39, 40, 41, 42, 43, 44, 3, 4, 5, 6, 7, 8, 9, 10, 11, 12, 13, 14, 15, 16, 17, 18, 19, 20, 33, 34, 35, 36, 37, 38, 21, 22, 23, 24, 25, 26, 27, 28, 29, 30, 31, 32] rfl rfl (by decide) (by decide) (fun _ => rfl) (by decide) (rn_V (As := [.ref (mr 9)]) (rest := []) E hw1 (t_nowTake l D cI cJ _ (ixf [61, 62, 63, 64, 65, 66, 67, 68, 69, 70, 71, 72, 73, 9, 10, 11, 12, 13, 14, 15, 16, 17, 18, 19, 20, 21] mr) (ixf [61, 62, 63, 64, 65, 66, 67, 68, 69, 70, 71, 72, 73, 9, 10, 11, 12, 13, 14, 15, 16, 17, 18, 19, 20, 21] mi) (ixf [61, 62, 63, 64, 65, 66, 67, 68, 69, 70, 71, 72, 73, 9, 10, 11, 12, 13, 14, 15, 16, 17, 18, 19, 20, 21] mf) (ixf [61, 62, 63, 64, 65, 66, 67, 68, 69, 70, 71, 72, 73, 9, 10, 11, 12, 13, 14, 15, 16, 17, 18, 19, 20, 21] mg) ) (gdV q_999 q_1000 q_1001 q_153 q_1002) hdV_X4_take ⟨rfl, rfl⟩ ⟨(Nat.le_of_ble_eq_true rfl), (Nat.le_of_ble_eq_true rfl)⟩ ⟨(Nat.le_of_ble_eq_true rfl), (Nat.le_of_ble_eq_true rfl)⟩ xT_b xT_at 27 4 rfl rfl rfl [27, 28, 29, 30, 31, 32, 3, 4, 5, 6, 7, 8] rfl (by decide) rfl hl6.1 rfl (Nat.le_of_ble_eq_true rfl) dX11_keepNight_30) (fun u_7 H1 locs hp hw9 => ?_)
  obtain ⟨goil_10, gowed_11, ghad_12, glast_13, gdone_14, nspoilt_15, nlamp_16, nnight_17, nsnow_18, ndraws_19, ngone_20, nlines_21⟩ := u_7
  generalize H1 = H at hw9 ⊢
  have hw22 : WD D A s.heap (WZ_Lkeep cI cJ cN mv mr (upd (upd (upd (upd (upd (upd (upd mi 67 nspoilt_15) 68 nlamp_16) 69 nnight_17) 70 nsnow_18) 71 ndraws_19) 72 ngone_20) 73 nlines_21) (va_up (va_up (va_up (va_up (va_up mf 62 goil_10) 63 gowed_11) 64 ghad_12) 65 glast_13) 66 gdone_14) mg) H locs := hw9
  obtain ⟨hp_23, hp_24, hp_25, hp_26, hp_27, hp_28, hp_29⟩ := hp
  have hp_23 : nspoilt_15.toInt = (mi 15).toInt := hp_23
  have hp_24 : nlamp_16.toInt = (mi 16).toInt := hp_24
  have hp_25 : nnight_17.toInt = (mi 17).toInt := hp_25
  have hp_26 : nsnow_18.toInt = (mi 18).toInt := hp_26
  have hp_27 : ndraws_19.toInt = (mi 19).toInt := hp_27
  have hp_28 : ngone_20.toInt = (mi 20).toInt := hp_28
  have hp_29 : nlines_21.toInt = (mi 21).toInt := hp_29
  refine lv_aload_n (pc := 33) E.1 E.2.1 dX11_keepNight_33 rfl (lv_at hl6 1 rfl) ?_
  refine x_get (pc := 34) (T := TX11) (N := 13) (ci := 11) (v := .int (mi 3)) E hw22 inX11 0 10 q_616 rfl rfl (by decide) rfl rfl dX11_keepNight_34 ?_
  refine lv_bipush (pc := 37) (v := 6) E.1 E.2.1 dX11_keepNight_37 (by decide +kernel) ?_
  refine lv_icmp_ge (pc := 39) (tgt := 55) E.1 E.2.1 dX11_keepNight_39 (by decide) (fun c_30 => ?_) (fun c_30 => ?_)
  · skip
    have hc_30 := leE (a := 6) (b := (mi 3).toInt) (by decide +kernel) rfl c_30
    refine lv_aload_n (pc := 55) E.1 E.2.1 dX11_keepNight_55 rfl (lv_at hl6 1 rfl) ?_
    refine lv_aload_n (pc := 56) E.1 E.2.1 dX11_keepNight_56 rfl (lv_at hl6 1 rfl) ?_
    refine x_get (pc := 57) (T := TX11) (N := 13) (ci := 11) (v := .int (mi 2)) E hw22 inX11 0 9 q_615 rfl rfl (by decide) rfl rfl dX11_keepNight_57 ?_
    refine lv_iconst (pc := 60) (v := 1) E.1 E.2.1 dX11_keepNight_60 (by decide +kernel) ?_
    refine lv_iadd (pc := 61) E.1 E.2.1 dX11_keepNight_61 ?_
    refine lv_topi (fun v_31 ev_31 => ?_)
    have hv_31 : v_31.toInt = (mi 2).toInt + 1 := by rw [ev_31]; exact addE rfl (by decide +kernel) (by omega)
    refine lv_bipush (pc := 62) (v := 6) E.1 E.2.1 dX11_keepNight_62 (by decide +kernel) ?_
    refine lv_irem (pc := 64) E.1 E.2.1 dX11_keepNight_64 (by decide +kernel) ?_
    refine lv_topi (fun v_32 ev_32 => ?_)
    have hbv_32 : v_32.toInt = v_31.toInt := by rw [ev_32]; exact rem6a (by omega)
    refine x_put (pc := 65) (T := TX11) (N := 13) (ci := 11) (ws' := (WZ_Lkeep cI cJ cN mv mr (upd (upd (upd (upd (upd (upd (upd (upd mi 2 v_32) 67 nspoilt_15) 68 nlamp_16) 69 nnight_17) 70 nsnow_18) 71 ndraws_19) 72 ngone_20) 73 nlines_21) (va_up (va_up (va_up (va_up (va_up mf 62 goil_10) 63 gowed_11) 64 ghad_12) 65 glast_13) 66 gdone_14) mg)) E hw22 inX11 tyX11_ok nmX11 0 9 q_615 rfl rfl (by decide) rfl rfl rfl rfl (Nat.le_of_ble_eq_true rfl) rfl dX11_keepNight_65 (fun H locs hw33 => ?_)
    exact em_v (w1 := (fun (u : Int32 × Int32 × (Nat → Int32) × (Nat → Int32) × (Nat → Int32) × (Nat → Int32) × (Nat → Int32) × Int32 × Int32 × Int32 × Int32 × Int32 × Int32 × Int32) => (WZ_Lkeep cI cJ cN mv mr (upd (upd (upd (upd (upd (upd (upd (upd (upd mi 2 u.1) 3 u.2.1) 67 u.2.2.2.2.2.2.2.1) 68 u.2.2.2.2.2.2.2.2.1) 69 u.2.2.2.2.2.2.2.2.2.1) 70 u.2.2.2.2.2.2.2.2.2.2.1) 71 u.2.2.2.2.2.2.2.2.2.2.2.1) 72 u.2.2.2.2.2.2.2.2.2.2.2.2.1) 73 u.2.2.2.2.2.2.2.2.2.2.2.2.2) (va_up (va_up (va_up (va_up (va_up mf 62 u.2.2.1) 63 u.2.2.2.1) 64 u.2.2.2.2.1) 65 u.2.2.2.2.2.1) 66 u.2.2.2.2.2.2.1) mg))) E hr hlk (v_32, (mi 3), goil_10, gowed_11, ghad_12, glast_13, gdone_14, nspoilt_15, nlamp_16, nnight_17, nsnow_18, ndraws_19, ngone_20, nlines_21) hw33 ⟨(by show 0 ≤ v_32.toInt; omega), (by show v_32.toInt ≤ 5; omega), h1.1, h1.2, (by show 0 ≤ ngone_20.toInt; omega), (by show ngone_20.toInt ≤ 200; omega)⟩ (Nat.le_of_ble_eq_true rfl) (Nat.le_of_ble_eq_true rfl) dX11_keepNight_68
  · skip
    have hc_30 := nleE (a := 6) (b := (mi 3).toInt) (by decide +kernel) rfl c_30
    refine lv_aload_n (pc := 42) E.1 E.2.1 dX11_keepNight_42 rfl (lv_at hl6 1 rfl) ?_
    refine lv_dup (pc := 43) E.1 E.2.1 dX11_keepNight_43 rfl ?_
    refine x_get (pc := 44) (T := TX11) (N := 13) (ci := 11) (v := .int (mi 3)) E hw22 inX11 0 10 q_616 rfl rfl (by decide) rfl rfl dX11_keepNight_44 ?_
    refine lv_iconst (pc := 47) (v := 1) E.1 E.2.1 dX11_keepNight_47 (by decide +kernel) ?_
    refine lv_iadd (pc := 48) E.1 E.2.1 dX11_keepNight_48 ?_
    refine lv_topi (fun v_34 ev_34 => ?_)
    have hv_34 : v_34.toInt = (mi 3).toInt + 1 := by rw [ev_34]; exact addE rfl (by decide +kernel) (by omega)
    refine x_put (pc := 49) (T := TX11) (N := 13) (ci := 11) (ws' := (WZ_Lkeep cI cJ cN mv mr (upd (upd (upd (upd (upd (upd (upd (upd mi 3 v_34) 67 nspoilt_15) 68 nlamp_16) 69 nnight_17) 70 nsnow_18) 71 ndraws_19) 72 ngone_20) 73 nlines_21) (va_up (va_up (va_up (va_up (va_up mf 62 goil_10) 63 gowed_11) 64 ghad_12) 65 glast_13) 66 gdone_14) mg)) E hw22 inX11 tyX11_ok nmX11 0 10 q_616 rfl rfl (by decide) rfl rfl rfl rfl (Nat.le_of_ble_eq_true rfl) rfl dX11_keepNight_49 (fun H locs hw35 => ?_)
    refine lv_goto (pc := 52) (tgt := 68) E.1 E.2.1 dX11_keepNight_52 (by decide) ?_
    exact em_v (w1 := (fun (u : Int32 × Int32 × (Nat → Int32) × (Nat → Int32) × (Nat → Int32) × (Nat → Int32) × (Nat → Int32) × Int32 × Int32 × Int32 × Int32 × Int32 × Int32 × Int32) => (WZ_Lkeep cI cJ cN mv mr (upd (upd (upd (upd (upd (upd (upd (upd (upd mi 2 u.1) 3 u.2.1) 67 u.2.2.2.2.2.2.2.1) 68 u.2.2.2.2.2.2.2.2.1) 69 u.2.2.2.2.2.2.2.2.2.1) 70 u.2.2.2.2.2.2.2.2.2.2.1) 71 u.2.2.2.2.2.2.2.2.2.2.2.1) 72 u.2.2.2.2.2.2.2.2.2.2.2.2.1) 73 u.2.2.2.2.2.2.2.2.2.2.2.2.2) (va_up (va_up (va_up (va_up (va_up mf 62 u.2.2.1) 63 u.2.2.2.1) 64 u.2.2.2.2.1) 65 u.2.2.2.2.2.1) 66 u.2.2.2.2.2.2.1) mg))) E hr hlk ((mi 2), v_34, goil_10, gowed_11, ghad_12, glast_13, gdone_14, nspoilt_15, nlamp_16, nnight_17, nsnow_18, ndraws_19, ngone_20, nlines_21) hw35 ⟨h0.1, h0.2, (by show 0 ≤ v_34.toInt; omega), (by show v_34.toInt ≤ 6; omega), (by show 0 ≤ ngone_20.toInt; omega), (by show ngone_20.toInt ≤ 200; omega)⟩ (Nat.le_of_ble_eq_true rfl) (Nat.le_of_ble_eq_true rfl) dX11_keepNight_68
set_option maxHeartbeats 4000000 in
set_option maxRecDepth 100000 in
theorem t_keep10 (l : Launch) (D : va_G) (cI cJ : ClassId) (sz : Nat) (mr : Nat → Nat) (mi : Nat → Int32) (mf : Nat → Nat → Int32) (mg : Nat → Nat → Int64)  (cN : ClassId) (mv : Nat → Value) (h0 : 0 ≤ (mi 2).toInt ∧ (mi 2).toInt ≤ 5) (h1 : 0 ≤ (mi 3).toInt ∧ (mi 3).toInt ≤ 6) (h2 : 0 ≤ (mi 20).toInt ∧ (mi 20).toInt ≤ 200) (h3 : 0 ≤ (mi 33).toInt ∧ (mi 33).toInt ≤ 200) (h4 : 0 ≤ (mi 46).toInt ∧ (mi 46).toInt ≤ 200) (h5 : 0 ≤ (mi 59).toInt ∧ (mi 59).toInt ≤ 200) (h6 : 0 ≤ (mi 72).toInt ∧ (mi 72).toInt ≤ 200) (h7 : 0 ≤ (mi 85).toInt ∧ (mi 85).toInt ≤ 200) (h8 : 0 ≤ (mi 98).toInt ∧ (mi 98).toInt ≤ 200) (h9 : (mi 2).toInt + (mi 3).toInt = 10) : Met l yX11_keepNight (Cond.code yX11_keepNight cX11_keepNight 2 none :: GW) ({ frames := 2, cells := 0, slots := 0, locals := 81 } : Room) (va_Pc [.ref (mr 0)] (PW D cI cJ sz (WZ_Lkeep cI cJ cN mv mr mi mf mg) (xN D cI cJ cN))) (va_Qv (fun (u : Int32 × Int32 × (Nat → Int32) × (Nat → Int32) × (Nat → Int32) × (Nat → Int32) × (Nat → Int32) × Int32 × Int32 × Int32 × Int32 × Int32 × Int32 × Int32) => (0 ≤ u.1.toInt) ∧ (u.1.toInt ≤ 5) ∧ (0 ≤ u.2.1.toInt) ∧ (u.2.1.toInt ≤ 6) ∧ (0 ≤ u.2.2.2.2.2.2.2.2.2.2.2.2.1.toInt) ∧ (u.2.2.2.2.2.2.2.2.2.2.2.2.1.toInt ≤ 200)) (fun u => QW D cI cJ (va_A (WZ_Lkeep cI cJ cN mv mr mi mf mg) sz) ((fun (u : Int32 × Int32 × (Nat → Int32) × (Nat → Int32) × (Nat → Int32) × (Nat → Int32) × (Nat → Int32) × Int32 × Int32 × Int32 × Int32 × Int32 × Int32 × Int32) => (WZ_Lkeep cI cJ cN mv mr (upd (upd (upd (upd (upd (upd (upd (upd (upd mi 2 u.1) 3 u.2.1) 80 u.2.2.2.2.2.2.2.1) 81 u.2.2.2.2.2.2.2.2.1) 82 u.2.2.2.2.2.2.2.2.2.1) 83 u.2.2.2.2.2.2.2.2.2.2.1) 84 u.2.2.2.2.2.2.2.2.2.2.2.1) 85 u.2.2.2.2.2.2.2.2.2.2.2.2.1) 86 u.2.2.2.2.2.2.2.2.2.2.2.2.2) (va_up (va_up (va_up (va_up (va_up mf 75 u.2.2.1) 76 u.2.2.2.1) 77 u.2.2.2.2.1) 78 u.2.2.2.2.2.1) 79 u.2.2.2.2.2.2.1) mg)) u)) (va_A (WZ_Lkeep cI cJ cN mv mr mi mf mg) sz)) 0 0 (va_A (WZ_Lkeep cI cJ cN mv mr mi mf mg) sz) := by
  refine mk_met (y := yX11_keepNight) (bytes := cX11_keepNight) (maxL := 2) (avs := [.ref (mr 0)]) (WS := (WZ_Lkeep cI cJ cN mv mr mi mf mg)) (Qf := fun A => va_Qv (fun (u : Int32 × Int32 × (Nat → Int32) × (Nat → Int32) × (Nat → Int32) × (Nat → Int32) × (Nat → Int32) × Int32 × Int32 × Int32 × Int32 × Int32 × Int32 × Int32) => (0 ≤ u.1.toInt) ∧ (u.1.toInt ≤ 5) ∧ (0 ≤ u.2.1.toInt) ∧ (u.2.1.toInt ≤ 6) ∧ (0 ≤ u.2.2.2.2.2.2.2.2.2.2.2.2.1.toInt) ∧ (u.2.2.2.2.2.2.2.2.2.2.2.2.1.toInt ≤ 200)) (fun u => QW D cI cJ A ((fun (u : Int32 × Int32 × (Nat → Int32) × (Nat → Int32) × (Nat → Int32) × (Nat → Int32) × (Nat → Int32) × Int32 × Int32 × Int32 × Int32 × Int32 × Int32 × Int32) => (WZ_Lkeep cI cJ cN mv mr (upd (upd (upd (upd (upd (upd (upd (upd (upd mi 2 u.1) 3 u.2.1) 80 u.2.2.2.2.2.2.2.1) 81 u.2.2.2.2.2.2.2.2.1) 82 u.2.2.2.2.2.2.2.2.2.1) 83 u.2.2.2.2.2.2.2.2.2.2.1) 84 u.2.2.2.2.2.2.2.2.2.2.2.1) 85 u.2.2.2.2.2.2.2.2.2.2.2.2.1) 86 u.2.2.2.2.2.2.2.2.2.2.2.2.2) (va_up (va_up (va_up (va_up (va_up mf 75 u.2.2.1) 76 u.2.2.2.1) 77 u.2.2.2.2.1) 78 u.2.2.2.2.2.1) 79 u.2.2.2.2.2.2.1) mg)) u)) A) (by decide) (Nat.le_of_ble_eq_true rfl) ?_
  intro p e s m below meth c A ls E hr hlk hnm hX hw1 hl2
  have hl3 : lv_has ls 2 [(0, .ref (mr 0))] := hl2
  refine lv_aload_n (pc := 0) E.1 E.2.1 dX11_keepNight_0 rfl (lv_at hl3 0 rfl) ?_
  refine x_get (pc := 1) (T := TX11) (N := 13) (ci := 11) (v := .ref (mr 1)) E hw1 inX11 0 8 q_614 rfl rfl (by decide) rfl rfl dX11_keepNight_1 ?_
  refine lv_aload_n (pc := 4) E.1 E.2.1 dX11_keepNight_4 rfl (lv_at hl3 0 rfl) ?_
  refine x_get (pc := 5) (T := TX11) (N := 13) (ci := 11) (v := .int (mi 2)) E hw1 inX11 0 9 q_615 rfl rfl (by decide) rfl rfl dX11_keepNight_5 ?_
  refine lv_aload_n (pc := 8) E.1 E.2.1 dX11_keepNight_8 rfl (lv_at hl3 0 rfl) ?_
  refine x_get (pc := 9) (T := TX11) (N := 13) (ci := 11) (v := .int (mi 3)) E hw1 inX11 0 10 q_616 rfl rfl (by decide) rfl rfl dX11_keepNight_9 ?_
  refine lv_iadd (pc := 12) E.1 E.2.1 dX11_keepNight_12 ?_
  refine lv_topi (fun v_4 ev_4 => ?_)
  have hv_4 : v_4.toInt = (mi 2).toInt + (mi 3).toInt := by rw [ev_4]; exact addE rfl rfl (by omega)
  refine lv_bipush (pc := 13) (v := 6) E.1 E.2.1 dX11_keepNight_13 (by decide +kernel) ?_
  refine lv_irem (pc := 15) E.1 E.2.1 dX11_keepNight_15 (by decide +kernel) ?_
  refine lv_topi (fun v_5 ev_5 => ?_)
  have hbv_5 : v_5.toInt = v_4.toInt - 6 := by rw [ev_5]; exact rem6b (by omega)
  refine x_aldq (pc := 16) (k := 4) E hX hw1 1 rfl (by show v_5.toInt = 4; omega) (by decide) rfl dX11_keepNight_16 ?_
  refine lv_astore_n (pc := 17) (lv' := [(1, .ref (mr 74)), (0, .ref (mr 0))]) E.1 E.2.1 dX11_keepNight_17 rfl hl3 (by decide) rfl (fun ls hl6 => ?_)
  refine lv_aload_n (pc := 18) E.1 E.2.1 dX11_keepNight_18 rfl (lv_at hl6 0 rfl) ?_
  refine lv_ifnull (pc := 19) E.1 E.2.1 dX11_keepNight_19 ?_
  refine lv_aload_n (pc := 22) E.1 E.2.1 dX11_keepNight_22 rfl (lv_at hl6 0 rfl) ?_
  refine lv_aload_n (pc := 23) E.1 E.2.1 dX11_keepNight_23 rfl (lv_at hl6 1 rfl) ?_
  refine x_get (pc := 24) (T := TX11) (N := 13) (ci := 11) (v := .ref (mr 4)) E hw1 inX11 0 0 q_606 rfl rfl (by decide) rfl rfl dX11_keepNight_24 ?_
  refine x_get (pc := 27) (T := TX10) (N := 17) (ci := 10) (v := .ref (mr 9)) E hw1 inX10 2 0 q_458 rfl rfl (by decide) rfl rfl dX11_keepNight_27 ?_
  refine cq_v (pc := 30) (ws' := (fun (u : (Nat → Int32) × (Nat → Int32) × (Nat → Int32) × (Nat → Int32) × (Nat → Int32) × Int32 × Int32 × Int32 × Int32 × Int32 × Int32 × Int32) => (WZ_Lkeep cI cJ cN mv mr (upd (upd (upd (upd (upd (upd (upd mi 80 u.2.2.2.2.2.1) 81 u.2.2.2.2.2.2.1) 82 u.2.2.2.2.2.2.2.1) 83 u.2.2.2.2.2.2.2.2.1) 84 u.2.2.2.2.2.2.2.2.2.1) 85 u.2.2.2.2.2.2.2.2.2.2.1) 86 u.2.2.2.2.2.2.2.2.2.2.2) (va_up (va_up (va_up (va_up (va_up mf 75 u.1) 76 u.2.1) 77 u.2.2.1) 78 u.2.2.2.1) 79 u.2.2.2.2.1) mg))) hw1 [33, 34, 35, 36, 37, 38, 3, 4, 5, 6, 7, 8] [0, 1, 2, 9, 10, 11, 12, 13, 14, 15, 16, 17, 18, 19, 20, 21, 22, 23, 24, 25, 26, 27, 28, 29, 30, 31, 32, 39, 40, 41, 42, 43, 44] [0, 1, 2, 39, 40, 41, 42, 43, 44, 3, 4, 5, 6, 7, 8, 9, 10, 11, 12, 13, 14, 15, 16, 17, 18, 19, 20, 21, 22, 23, 24, 25, 26, 33, 34, 35, 36, 37, 38, 27, 28, 29, 30, 31, 32] rfl rfl (by decide) (by decide) (fun _ => rfl) (by decide) (rn_V (As := [.ref (mr 9)]) (rest := []) E hw1 (t_nowTake l D cI cJ _ (ixf [74, 75, 76, 77, 78, 79, 80, 81, 82, 83, 84, 85, 86, 9, 10, 11, 12, 13, 14, 15, 16, 17, 18, 19, 20, 21] mr) (ixf [74, 75, 76, 77, 78, 79, 80, 81, 82, 83, 84, 85, 86, 9, 10, 11, 12, 13, 14, 15, 16, 17, 18, 19, 20, 21] mi) (ixf [74, 75, 76, 77, 78, 79, 80, 81, 82, 83, 84, 85, 86, 9, 10, 11, 12, 13, 14, 15, 16, 17, 18, 19, 20, 21] mf) (ixf [74, 75, 76, 77, 78, 79, 80, 81, 82, 83, 84, 85, 86, 9, 10, 11, 12, 13, 14, 15, 16, 17, 18, 19, 20, 21] mg) ) (gdV q_999 q_1000 q_1001 q_153 q_1002) hdV_X4_take ⟨rfl, rfl⟩ ⟨(Nat.le_of_ble_eq_true rfl), (Nat.le_of_ble_eq_true rfl)⟩ ⟨(Nat.le_of_ble_eq_true rfl), (Nat.le_of_ble_eq_true rfl)⟩ xT_b xT_at 33 4 rfl rfl rfl [33, 34, 35, 36, 37, 38, 3, 4, 5, 6, 7, 8] rfl (by decide) rfl hl6.1 rfl (Nat.le_of_ble_eq_true rfl) dX11_keepNight_30) (fun u_7 H1 locs hp hw9 => ?_)
  obtain ⟨goil_10, gowed_11, ghad_12, glast_13, gdone_14, nspoilt_15, nlamp_16, nnight_17, nsnow_18, ndraws_19, ngone_20, nlines_21⟩ := u_7
  generalize H1 = H at hw9 ⊢
  have hw22 : WD D A s.heap (WZ_Lkeep cI cJ cN mv mr (upd (upd (upd (upd (upd (upd (upd mi 80 nspoilt_15) 81 nlamp_16) 82 nnight_17) 83 nsnow_18) 84 ndraws_19) 85 ngone_20) 86 nlines_21) (va_up (va_up (va_up (va_up (va_up mf 75 goil_10) 76 gowed_11) 77 ghad_12) 78 glast_13) 79 gdone_14) mg) H locs := hw9
  obtain ⟨hp_23, hp_24, hp_25, hp_26, hp_27, hp_28, hp_29⟩ := hp
  have hp_23 : nspoilt_15.toInt = (mi 15).toInt := hp_23
  have hp_24 : nlamp_16.toInt = (mi 16).toInt := hp_24
  have hp_25 : nnight_17.toInt = (mi 17).toInt := hp_25
  have hp_26 : nsnow_18.toInt = (mi 18).toInt := hp_26
  have hp_27 : ndraws_19.toInt = (mi 19).toInt := hp_27
  have hp_28 : ngone_20.toInt = (mi 20).toInt := hp_28
  have hp_29 : nlines_21.toInt = (mi 21).toInt := hp_29
  refine lv_aload_n (pc := 33) E.1 E.2.1 dX11_keepNight_33 rfl (lv_at hl6 1 rfl) ?_
  refine x_get (pc := 34) (T := TX11) (N := 13) (ci := 11) (v := .int (mi 3)) E hw22 inX11 0 10 q_616 rfl rfl (by decide) rfl rfl dX11_keepNight_34 ?_
  refine lv_bipush (pc := 37) (v := 6) E.1 E.2.1 dX11_keepNight_37 (by decide +kernel) ?_
  refine lv_icmp_ge (pc := 39) (tgt := 55) E.1 E.2.1 dX11_keepNight_39 (by decide) (fun c_30 => ?_) (fun c_30 => ?_)
  · skip
    have hc_30 := leE (a := 6) (b := (mi 3).toInt) (by decide +kernel) rfl c_30
    refine lv_aload_n (pc := 55) E.1 E.2.1 dX11_keepNight_55 rfl (lv_at hl6 1 rfl) ?_
    refine lv_aload_n (pc := 56) E.1 E.2.1 dX11_keepNight_56 rfl (lv_at hl6 1 rfl) ?_
    refine x_get (pc := 57) (T := TX11) (N := 13) (ci := 11) (v := .int (mi 2)) E hw22 inX11 0 9 q_615 rfl rfl (by decide) rfl rfl dX11_keepNight_57 ?_
    refine lv_iconst (pc := 60) (v := 1) E.1 E.2.1 dX11_keepNight_60 (by decide +kernel) ?_
    refine lv_iadd (pc := 61) E.1 E.2.1 dX11_keepNight_61 ?_
    refine lv_topi (fun v_31 ev_31 => ?_)
    have hv_31 : v_31.toInt = (mi 2).toInt + 1 := by rw [ev_31]; exact addE rfl (by decide +kernel) (by omega)
    refine lv_bipush (pc := 62) (v := 6) E.1 E.2.1 dX11_keepNight_62 (by decide +kernel) ?_
    refine lv_irem (pc := 64) E.1 E.2.1 dX11_keepNight_64 (by decide +kernel) ?_
    refine lv_topi (fun v_32 ev_32 => ?_)
    have hbv_32 : v_32.toInt = v_31.toInt := by rw [ev_32]; exact rem6a (by omega)
    refine x_put (pc := 65) (T := TX11) (N := 13) (ci := 11) (ws' := (WZ_Lkeep cI cJ cN mv mr (upd (upd (upd (upd (upd (upd (upd (upd mi 2 v_32) 80 nspoilt_15) 81 nlamp_16) 82 nnight_17) 83 nsnow_18) 84 ndraws_19) 85 ngone_20) 86 nlines_21) (va_up (va_up (va_up (va_up (va_up mf 75 goil_10) 76 gowed_11) 77 ghad_12) 78 glast_13) 79 gdone_14) mg)) E hw22 inX11 tyX11_ok nmX11 0 9 q_615 rfl rfl (by decide) rfl rfl rfl rfl (Nat.le_of_ble_eq_true rfl) rfl dX11_keepNight_65 (fun H locs hw33 => ?_)
    exact em_v (w1 := (fun (u : Int32 × Int32 × (Nat → Int32) × (Nat → Int32) × (Nat → Int32) × (Nat → Int32) × (Nat → Int32) × Int32 × Int32 × Int32 × Int32 × Int32 × Int32 × Int32) => (WZ_Lkeep cI cJ cN mv mr (upd (upd (upd (upd (upd (upd (upd (upd (upd mi 2 u.1) 3 u.2.1) 80 u.2.2.2.2.2.2.2.1) 81 u.2.2.2.2.2.2.2.2.1) 82 u.2.2.2.2.2.2.2.2.2.1) 83 u.2.2.2.2.2.2.2.2.2.2.1) 84 u.2.2.2.2.2.2.2.2.2.2.2.1) 85 u.2.2.2.2.2.2.2.2.2.2.2.2.1) 86 u.2.2.2.2.2.2.2.2.2.2.2.2.2) (va_up (va_up (va_up (va_up (va_up mf 75 u.2.2.1) 76 u.2.2.2.1) 77 u.2.2.2.2.1) 78 u.2.2.2.2.2.1) 79 u.2.2.2.2.2.2.1) mg))) E hr hlk (v_32, (mi 3), goil_10, gowed_11, ghad_12, glast_13, gdone_14, nspoilt_15, nlamp_16, nnight_17, nsnow_18, ndraws_19, ngone_20, nlines_21) hw33 ⟨(by show 0 ≤ v_32.toInt; omega), (by show v_32.toInt ≤ 5; omega), h1.1, h1.2, (by show 0 ≤ ngone_20.toInt; omega), (by show ngone_20.toInt ≤ 200; omega)⟩ (Nat.le_of_ble_eq_true rfl) (Nat.le_of_ble_eq_true rfl) dX11_keepNight_68
  · skip
    have hc_30 := nleE (a := 6) (b := (mi 3).toInt) (by decide +kernel) rfl c_30
    refine lv_aload_n (pc := 42) E.1 E.2.1 dX11_keepNight_42 rfl (lv_at hl6 1 rfl) ?_
    refine lv_dup (pc := 43) E.1 E.2.1 dX11_keepNight_43 rfl ?_
    refine x_get (pc := 44) (T := TX11) (N := 13) (ci := 11) (v := .int (mi 3)) E hw22 inX11 0 10 q_616 rfl rfl (by decide) rfl rfl dX11_keepNight_44 ?_
    refine lv_iconst (pc := 47) (v := 1) E.1 E.2.1 dX11_keepNight_47 (by decide +kernel) ?_
    refine lv_iadd (pc := 48) E.1 E.2.1 dX11_keepNight_48 ?_
    refine lv_topi (fun v_34 ev_34 => ?_)
    have hv_34 : v_34.toInt = (mi 3).toInt + 1 := by rw [ev_34]; exact addE rfl (by decide +kernel) (by omega)
    refine x_put (pc := 49) (T := TX11) (N := 13) (ci := 11) (ws' := (WZ_Lkeep cI cJ cN mv mr (upd (upd (upd (upd (upd (upd (upd (upd mi 3 v_34) 80 nspoilt_15) 81 nlamp_16) 82 nnight_17) 83 nsnow_18) 84 ndraws_19) 85 ngone_20) 86 nlines_21) (va_up (va_up (va_up (va_up (va_up mf 75 goil_10) 76 gowed_11) 77 ghad_12) 78 glast_13) 79 gdone_14) mg)) E hw22 inX11 tyX11_ok nmX11 0 10 q_616 rfl rfl (by decide) rfl rfl rfl rfl (Nat.le_of_ble_eq_true rfl) rfl dX11_keepNight_49 (fun H locs hw35 => ?_)
    refine lv_goto (pc := 52) (tgt := 68) E.1 E.2.1 dX11_keepNight_52 (by decide) ?_
    exact em_v (w1 := (fun (u : Int32 × Int32 × (Nat → Int32) × (Nat → Int32) × (Nat → Int32) × (Nat → Int32) × (Nat → Int32) × Int32 × Int32 × Int32 × Int32 × Int32 × Int32 × Int32) => (WZ_Lkeep cI cJ cN mv mr (upd (upd (upd (upd (upd (upd (upd (upd (upd mi 2 u.1) 3 u.2.1) 80 u.2.2.2.2.2.2.2.1) 81 u.2.2.2.2.2.2.2.2.1) 82 u.2.2.2.2.2.2.2.2.2.1) 83 u.2.2.2.2.2.2.2.2.2.2.1) 84 u.2.2.2.2.2.2.2.2.2.2.2.1) 85 u.2.2.2.2.2.2.2.2.2.2.2.2.1) 86 u.2.2.2.2.2.2.2.2.2.2.2.2.2) (va_up (va_up (va_up (va_up (va_up mf 75 u.2.2.1) 76 u.2.2.2.1) 77 u.2.2.2.2.1) 78 u.2.2.2.2.2.1) 79 u.2.2.2.2.2.2.1) mg))) E hr hlk ((mi 2), v_34, goil_10, gowed_11, ghad_12, glast_13, gdone_14, nspoilt_15, nlamp_16, nnight_17, nsnow_18, ndraws_19, ngone_20, nlines_21) hw35 ⟨h0.1, h0.2, (by show 0 ≤ v_34.toInt; omega), (by show v_34.toInt ≤ 6; omega), (by show 0 ≤ ngone_20.toInt; omega), (by show ngone_20.toInt ≤ 200; omega)⟩ (Nat.le_of_ble_eq_true rfl) (Nat.le_of_ble_eq_true rfl) dX11_keepNight_68
set_option maxHeartbeats 4000000 in
set_option maxRecDepth 100000 in
theorem t_keep11 (l : Launch) (D : va_G) (cI cJ : ClassId) (sz : Nat) (mr : Nat → Nat) (mi : Nat → Int32) (mf : Nat → Nat → Int32) (mg : Nat → Nat → Int64)  (cN : ClassId) (mv : Nat → Value) (h0 : 0 ≤ (mi 2).toInt ∧ (mi 2).toInt ≤ 5) (h1 : 0 ≤ (mi 3).toInt ∧ (mi 3).toInt ≤ 6) (h2 : 0 ≤ (mi 20).toInt ∧ (mi 20).toInt ≤ 200) (h3 : 0 ≤ (mi 33).toInt ∧ (mi 33).toInt ≤ 200) (h4 : 0 ≤ (mi 46).toInt ∧ (mi 46).toInt ≤ 200) (h5 : 0 ≤ (mi 59).toInt ∧ (mi 59).toInt ≤ 200) (h6 : 0 ≤ (mi 72).toInt ∧ (mi 72).toInt ≤ 200) (h7 : 0 ≤ (mi 85).toInt ∧ (mi 85).toInt ≤ 200) (h8 : 0 ≤ (mi 98).toInt ∧ (mi 98).toInt ≤ 200) (h9 : (mi 2).toInt + (mi 3).toInt = 11) : Met l yX11_keepNight (Cond.code yX11_keepNight cX11_keepNight 2 none :: GW) ({ frames := 2, cells := 0, slots := 0, locals := 81 } : Room) (va_Pc [.ref (mr 0)] (PW D cI cJ sz (WZ_Lkeep cI cJ cN mv mr mi mf mg) (xN D cI cJ cN))) (va_Qv (fun (u : Int32 × Int32 × (Nat → Int32) × (Nat → Int32) × (Nat → Int32) × (Nat → Int32) × (Nat → Int32) × Int32 × Int32 × Int32 × Int32 × Int32 × Int32 × Int32) => (0 ≤ u.1.toInt) ∧ (u.1.toInt ≤ 5) ∧ (0 ≤ u.2.1.toInt) ∧ (u.2.1.toInt ≤ 6) ∧ (0 ≤ u.2.2.2.2.2.2.2.2.2.2.2.2.1.toInt) ∧ (u.2.2.2.2.2.2.2.2.2.2.2.2.1.toInt ≤ 200)) (fun u => QW D cI cJ (va_A (WZ_Lkeep cI cJ cN mv mr mi mf mg) sz) ((fun (u : Int32 × Int32 × (Nat → Int32) × (Nat → Int32) × (Nat → Int32) × (Nat → Int32) × (Nat → Int32) × Int32 × Int32 × Int32 × Int32 × Int32 × Int32 × Int32) => (WZ_Lkeep cI cJ cN mv mr (upd (upd (upd (upd (upd (upd (upd (upd (upd mi 2 u.1) 3 u.2.1) 93 u.2.2.2.2.2.2.2.1) 94 u.2.2.2.2.2.2.2.2.1) 95 u.2.2.2.2.2.2.2.2.2.1) 96 u.2.2.2.2.2.2.2.2.2.2.1) 97 u.2.2.2.2.2.2.2.2.2.2.2.1) 98 u.2.2.2.2.2.2.2.2.2.2.2.2.1) 99 u.2.2.2.2.2.2.2.2.2.2.2.2.2) (va_up (va_up (va_up (va_up (va_up mf 88 u.2.2.1) 89 u.2.2.2.1) 90 u.2.2.2.2.1) 91 u.2.2.2.2.2.1) 92 u.2.2.2.2.2.2.1) mg)) u)) (va_A (WZ_Lkeep cI cJ cN mv mr mi mf mg) sz)) 0 0 (va_A (WZ_Lkeep cI cJ cN mv mr mi mf mg) sz) := by
  refine mk_met (y := yX11_keepNight) (bytes := cX11_keepNight) (maxL := 2) (avs := [.ref (mr 0)]) (WS := (WZ_Lkeep cI cJ cN mv mr mi mf mg)) (Qf := fun A => va_Qv (fun (u : Int32 × Int32 × (Nat → Int32) × (Nat → Int32) × (Nat → Int32) × (Nat → Int32) × (Nat → Int32) × Int32 × Int32 × Int32 × Int32 × Int32 × Int32 × Int32) => (0 ≤ u.1.toInt) ∧ (u.1.toInt ≤ 5) ∧ (0 ≤ u.2.1.toInt) ∧ (u.2.1.toInt ≤ 6) ∧ (0 ≤ u.2.2.2.2.2.2.2.2.2.2.2.2.1.toInt) ∧ (u.2.2.2.2.2.2.2.2.2.2.2.2.1.toInt ≤ 200)) (fun u => QW D cI cJ A ((fun (u : Int32 × Int32 × (Nat → Int32) × (Nat → Int32) × (Nat → Int32) × (Nat → Int32) × (Nat → Int32) × Int32 × Int32 × Int32 × Int32 × Int32 × Int32 × Int32) => (WZ_Lkeep cI cJ cN mv mr (upd (upd (upd (upd (upd (upd (upd (upd (upd mi 2 u.1) 3 u.2.1) 93 u.2.2.2.2.2.2.2.1) 94 u.2.2.2.2.2.2.2.2.1) 95 u.2.2.2.2.2.2.2.2.2.1) 96 u.2.2.2.2.2.2.2.2.2.2.1) 97 u.2.2.2.2.2.2.2.2.2.2.2.1) 98 u.2.2.2.2.2.2.2.2.2.2.2.2.1) 99 u.2.2.2.2.2.2.2.2.2.2.2.2.2) (va_up (va_up (va_up (va_up (va_up mf 88 u.2.2.1) 89 u.2.2.2.1) 90 u.2.2.2.2.1) 91 u.2.2.2.2.2.1) 92 u.2.2.2.2.2.2.1) mg)) u)) A) (by decide) (Nat.le_of_ble_eq_true rfl) ?_
  intro p e s m below meth c A ls E hr hlk hnm hX hw1 hl2
  have hl3 : lv_has ls 2 [(0, .ref (mr 0))] := hl2
  refine lv_aload_n (pc := 0) E.1 E.2.1 dX11_keepNight_0 rfl (lv_at hl3 0 rfl) ?_
  refine x_get (pc := 1) (T := TX11) (N := 13) (ci := 11) (v := .ref (mr 1)) E hw1 inX11 0 8 q_614 rfl rfl (by decide) rfl rfl dX11_keepNight_1 ?_
  refine lv_aload_n (pc := 4) E.1 E.2.1 dX11_keepNight_4 rfl (lv_at hl3 0 rfl) ?_
  refine x_get (pc := 5) (T := TX11) (N := 13) (ci := 11) (v := .int (mi 2)) E hw1 inX11 0 9 q_615 rfl rfl (by decide) rfl rfl dX11_keepNight_5 ?_
  refine lv_aload_n (pc := 8) E.1 E.2.1 dX11_keepNight_8 rfl (lv_at hl3 0 rfl) ?_
  refine x_get (pc := 9) (T := TX11) (N := 13) (ci := 11) (v := .int (mi 3)) E hw1 inX11 0 10 q_616 rfl rfl (by decide) rfl rfl dX11_keepNight_9 ?_
  refine lv_iadd (pc := 12) E.1 E.2.1 dX11_keepNight_12 ?_
  refine lv_topi (fun v_4 ev_4 => ?_)
  have hv_4 : v_4.toInt = (mi 2).toInt + (mi 3).toInt := by rw [ev_4]; exact addE rfl rfl (by omega)
  refine lv_bipush (pc := 13) (v := 6) E.1 E.2.1 dX11_keepNight_13 (by decide +kernel) ?_
  refine lv_irem (pc := 15) E.1 E.2.1 dX11_keepNight_15 (by decide +kernel) ?_
  refine lv_topi (fun v_5 ev_5 => ?_)
  have hbv_5 : v_5.toInt = v_4.toInt - 6 := by rw [ev_5]; exact rem6b (by omega)
  refine x_aldq (pc := 16) (k := 5) E hX hw1 1 rfl (by show v_5.toInt = 5; omega) (by decide) rfl dX11_keepNight_16 ?_
  refine lv_astore_n (pc := 17) (lv' := [(1, .ref (mr 87)), (0, .ref (mr 0))]) E.1 E.2.1 dX11_keepNight_17 rfl hl3 (by decide) rfl (fun ls hl6 => ?_)
  refine lv_aload_n (pc := 18) E.1 E.2.1 dX11_keepNight_18 rfl (lv_at hl6 0 rfl) ?_
  refine lv_ifnull (pc := 19) E.1 E.2.1 dX11_keepNight_19 ?_
  refine lv_aload_n (pc := 22) E.1 E.2.1 dX11_keepNight_22 rfl (lv_at hl6 0 rfl) ?_
  refine lv_aload_n (pc := 23) E.1 E.2.1 dX11_keepNight_23 rfl (lv_at hl6 1 rfl) ?_
  refine x_get (pc := 24) (T := TX11) (N := 13) (ci := 11) (v := .ref (mr 4)) E hw1 inX11 0 0 q_606 rfl rfl (by decide) rfl rfl dX11_keepNight_24 ?_
  refine x_get (pc := 27) (T := TX10) (N := 17) (ci := 10) (v := .ref (mr 9)) E hw1 inX10 2 0 q_458 rfl rfl (by decide) rfl rfl dX11_keepNight_27 ?_
  refine cq_v (pc := 30) (ws' := (fun (u : (Nat → Int32) × (Nat → Int32) × (Nat → Int32) × (Nat → Int32) × (Nat → Int32) × Int32 × Int32 × Int32 × Int32 × Int32 × Int32 × Int32) => (WZ_Lkeep cI cJ cN mv mr (upd (upd (upd (upd (upd (upd (upd mi 93 u.2.2.2.2.2.1) 94 u.2.2.2.2.2.2.1) 95 u.2.2.2.2.2.2.2.1) 96 u.2.2.2.2.2.2.2.2.1) 97 u.2.2.2.2.2.2.2.2.2.1) 98 u.2.2.2.2.2.2.2.2.2.2.1) 99 u.2.2.2.2.2.2.2.2.2.2.2) (va_up (va_up (va_up (va_up (va_up mf 88 u.1) 89 u.2.1) 90 u.2.2.1) 91 u.2.2.2.1) 92 u.2.2.2.2.1) mg))) hw1 [39, 40, 41, 42, 43, 44, 3, 4, 5, 6, 7, 8] [0, 1, 2, 9, 10, 11, 12, 13, 14, 15, 16, 17, 18, 19, 20, 21, 22, 23, 24, 25, 26, 27, 28, 29, 30, 31, 32, 33, 34, 35, 36, 37, 38] [0, 1, 2, 39, 40, 41, 42, 43, 44, 3, 4, 5, 6, 7, 8, 9, 10, 11, 12, 13, 14, 15, 16, 17, 18, 19, 20, 21, 22, 23, 24, 25, 26, 27, 28, 29, 30, 31, 32, 33, 34, 35, 36, 37, 38] rfl rfl (by decide) (by decide) (fun _ => rfl) (by decide) (rn_V (As := [.ref (mr 9)]) (rest := []) E hw1 (t_nowTake l D cI cJ _ (ixf [87, 88, 89, 90, 91, 92, 93, 94, 95, 96, 97, 98, 99, 9, 10, 11, 12, 13, 14, 15, 16, 17, 18, 19, 20, 21] mr) (ixf [87, 88, 89, 90, 91, 92, 93, 94, 95, 96, 97, 98, 99, 9, 10, 11, 12, 13, 14, 15, 16, 17, 18, 19, 20, 21] mi) (ixf [87, 88, 89, 90, 91, 92, 93, 94, 95, 96, 97, 98, 99, 9, 10, 11, 12, 13, 14, 15, 16, 17, 18, 19, 20, 21] mf) (ixf [87, 88, 89, 90, 91, 92, 93, 94, 95, 96, 97, 98, 99, 9, 10, 11, 12, 13, 14, 15, 16, 17, 18, 19, 20, 21] mg) ) (gdV q_999 q_1000 q_1001 q_153 q_1002) hdV_X4_take ⟨rfl, rfl⟩ ⟨(Nat.le_of_ble_eq_true rfl), (Nat.le_of_ble_eq_true rfl)⟩ ⟨(Nat.le_of_ble_eq_true rfl), (Nat.le_of_ble_eq_true rfl)⟩ xT_b xT_at 39 4 rfl rfl rfl [39, 40, 41, 42, 43, 44, 3, 4, 5, 6, 7, 8] rfl (by decide) rfl hl6.1 rfl (Nat.le_of_ble_eq_true rfl) dX11_keepNight_30) (fun u_7 H1 locs hp hw9 => ?_)
  obtain ⟨goil_10, gowed_11, ghad_12, glast_13, gdone_14, nspoilt_15, nlamp_16, nnight_17, nsnow_18, ndraws_19, ngone_20, nlines_21⟩ := u_7
  generalize H1 = H at hw9 ⊢
  have hw22 : WD D A s.heap (WZ_Lkeep cI cJ cN mv mr (upd (upd (upd (upd (upd (upd (upd mi 93 nspoilt_15) 94 nlamp_16) 95 nnight_17) 96 nsnow_18) 97 ndraws_19) 98 ngone_20) 99 nlines_21) (va_up (va_up (va_up (va_up (va_up mf 88 goil_10) 89 gowed_11) 90 ghad_12) 91 glast_13) 92 gdone_14) mg) H locs := hw9
  obtain ⟨hp_23, hp_24, hp_25, hp_26, hp_27, hp_28, hp_29⟩ := hp
  have hp_23 : nspoilt_15.toInt = (mi 15).toInt := hp_23
  have hp_24 : nlamp_16.toInt = (mi 16).toInt := hp_24
  have hp_25 : nnight_17.toInt = (mi 17).toInt := hp_25
  have hp_26 : nsnow_18.toInt = (mi 18).toInt := hp_26
  have hp_27 : ndraws_19.toInt = (mi 19).toInt := hp_27
  have hp_28 : ngone_20.toInt = (mi 20).toInt := hp_28
  have hp_29 : nlines_21.toInt = (mi 21).toInt := hp_29
  refine lv_aload_n (pc := 33) E.1 E.2.1 dX11_keepNight_33 rfl (lv_at hl6 1 rfl) ?_
  refine x_get (pc := 34) (T := TX11) (N := 13) (ci := 11) (v := .int (mi 3)) E hw22 inX11 0 10 q_616 rfl rfl (by decide) rfl rfl dX11_keepNight_34 ?_
  refine lv_bipush (pc := 37) (v := 6) E.1 E.2.1 dX11_keepNight_37 (by decide +kernel) ?_
  refine lv_icmp_ge (pc := 39) (tgt := 55) E.1 E.2.1 dX11_keepNight_39 (by decide) (fun _ => ?_) (fun c_30 => absurd (mleE (a := 6) (b := (mi 3).toInt) (by decide +kernel) rfl (by omega)) c_30)
  refine lv_aload_n (pc := 55) E.1 E.2.1 dX11_keepNight_55 rfl (lv_at hl6 1 rfl) ?_
  refine lv_aload_n (pc := 56) E.1 E.2.1 dX11_keepNight_56 rfl (lv_at hl6 1 rfl) ?_
  refine x_get (pc := 57) (T := TX11) (N := 13) (ci := 11) (v := .int (mi 2)) E hw22 inX11 0 9 q_615 rfl rfl (by decide) rfl rfl dX11_keepNight_57 ?_
  refine lv_iconst (pc := 60) (v := 1) E.1 E.2.1 dX11_keepNight_60 (by decide +kernel) ?_
  refine lv_iadd (pc := 61) E.1 E.2.1 dX11_keepNight_61 ?_
  refine lv_topi (fun v_31 ev_31 => ?_)
  have hv_31 : v_31.toInt = (mi 2).toInt + 1 := by rw [ev_31]; exact addE rfl (by decide +kernel) (by omega)
  refine lv_bipush (pc := 62) (v := 6) E.1 E.2.1 dX11_keepNight_62 (by decide +kernel) ?_
  refine lv_irem (pc := 64) E.1 E.2.1 dX11_keepNight_64 (by decide +kernel) ?_
  refine lv_topi (fun v_32 ev_32 => ?_)
  have hbv_32 : v_32.toInt = v_31.toInt - 6 := by rw [ev_32]; exact rem6b (by omega)
  refine x_put (pc := 65) (T := TX11) (N := 13) (ci := 11) (ws' := (WZ_Lkeep cI cJ cN mv mr (upd (upd (upd (upd (upd (upd (upd (upd mi 2 v_32) 93 nspoilt_15) 94 nlamp_16) 95 nnight_17) 96 nsnow_18) 97 ndraws_19) 98 ngone_20) 99 nlines_21) (va_up (va_up (va_up (va_up (va_up mf 88 goil_10) 89 gowed_11) 90 ghad_12) 91 glast_13) 92 gdone_14) mg)) E hw22 inX11 tyX11_ok nmX11 0 9 q_615 rfl rfl (by decide) rfl rfl rfl rfl (Nat.le_of_ble_eq_true rfl) rfl dX11_keepNight_65 (fun H locs hw33 => ?_)
  exact em_v (w1 := (fun (u : Int32 × Int32 × (Nat → Int32) × (Nat → Int32) × (Nat → Int32) × (Nat → Int32) × (Nat → Int32) × Int32 × Int32 × Int32 × Int32 × Int32 × Int32 × Int32) => (WZ_Lkeep cI cJ cN mv mr (upd (upd (upd (upd (upd (upd (upd (upd (upd mi 2 u.1) 3 u.2.1) 93 u.2.2.2.2.2.2.2.1) 94 u.2.2.2.2.2.2.2.2.1) 95 u.2.2.2.2.2.2.2.2.2.1) 96 u.2.2.2.2.2.2.2.2.2.2.1) 97 u.2.2.2.2.2.2.2.2.2.2.2.1) 98 u.2.2.2.2.2.2.2.2.2.2.2.2.1) 99 u.2.2.2.2.2.2.2.2.2.2.2.2.2) (va_up (va_up (va_up (va_up (va_up mf 88 u.2.2.1) 89 u.2.2.2.1) 90 u.2.2.2.2.1) 91 u.2.2.2.2.2.1) 92 u.2.2.2.2.2.2.1) mg))) E hr hlk (v_32, (mi 3), goil_10, gowed_11, ghad_12, glast_13, gdone_14, nspoilt_15, nlamp_16, nnight_17, nsnow_18, ndraws_19, ngone_20, nlines_21) hw33 ⟨(by show 0 ≤ v_32.toInt; omega), (by show v_32.toInt ≤ 5; omega), h1.1, h1.2, (by show 0 ≤ ngone_20.toInt; omega), (by show ngone_20.toInt ≤ 200; omega)⟩ (Nat.le_of_ble_eq_true rfl) (Nat.le_of_ble_eq_true rfl) dX11_keepNight_68
