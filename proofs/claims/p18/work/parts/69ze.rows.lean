set_option maxHeartbeats 4000000 in
set_option maxRecDepth 100000 in
theorem t_run (l : Launch) (D : va_G) (cI cJ : ClassId) (sz : Nat) (mr : Nat → Nat) (mi : Nat → Int32) (mf : Nat → Nat → Int32) (mg : Nat → Nat → Int64) (z_n : Int32) (z_what : Int32) (mv : Nat → Value) (h0 : 0 ≤ (mi 1).toInt ∧ (mi 1).toInt ≤ 5) (h1 : 0 ≤ (mi 2).toInt ∧ (mi 2).toInt ≤ 6) (h2 : 0 ≤ (mi 24).toInt ∧ (mi 24).toInt ≤ 200) (h3 : 0 ≤ (mi 32).toInt ∧ (mi 32).toInt ≤ 10) (h4 : 0 ≤ (mi 40).toInt ∧ (mi 40).toInt ≤ 40) (h5 : 0 ≤ (mi 49).toInt ∧ (mi 49).toInt ≤ 10) (h6 : 0 ≤ (mi 72).toInt ∧ (mi 72).toInt ≤ 200) (h7 : 0 ≤ (mi 79).toInt ∧ (mi 79).toInt ≤ 8) (a_p_from : p9 (mf 36)) (a_p_to : p9 (mf 37)) (a_t_marks : m4 (mf 53)) (a_u_marks : m4 (mf 63)) : Met l yX11_run (Cond.code yX11_run cX11_run 7 (some .int) :: GW) ({ frames := 11, cells := 0, slots := 0, locals := 263 } : Room) (va_Pc [.ref (mr 0), .int z_n, .int z_what] (PW D cI cJ sz (WZ_Mrun cI cJ mv mr mi mf mg) xT)) (va_Qi (fun (r : Int32) (u : (Nat → Int32) × (Nat → Nat → Int32) × (Nat → Nat → Int64)) => (0 ≤ (u.1 1).toInt) ∧ ((u.1 1).toInt ≤ 5) ∧ (0 ≤ (u.1 2).toInt) ∧ ((u.1 2).toInt ≤ 6) ∧ (0 ≤ (u.1 24).toInt) ∧ ((u.1 24).toInt ≤ 200) ∧ (0 ≤ (u.1 32).toInt) ∧ ((u.1 32).toInt ≤ 10) ∧ (0 ≤ (u.1 40).toInt) ∧ ((u.1 40).toInt ≤ 40) ∧ (0 ≤ (u.1 49).toInt) ∧ ((u.1 49).toInt ≤ 10) ∧ (0 ≤ (u.1 72).toInt) ∧ ((u.1 72).toInt ≤ 200) ∧ (0 ≤ (u.1 79).toInt) ∧ ((u.1 79).toInt ≤ 8) ∧ ((u.1 32).toInt = (mi 32).toInt) ∧ ((u.1 79).toInt = (mi 79).toInt) ∧ (p9 (u.2.1 36)) ∧ (p9 (u.2.1 37)) ∧ (m4 (u.2.1 53)) ∧ (m4 (u.2.1 63)) ∧ ((Eq (mf 27)) (u.2.1 27)) ∧ ((Eq (mf 31)) (u.2.1 31))) (fun u => QW D cI cJ (va_A (WZ_Mrun cI cJ mv mr mi mf mg) sz) ((fun (u : (Nat → Int32) × (Nat → Nat → Int32) × (Nat → Nat → Int64)) => (WZ_Mrun cI cJ mv mr u.1 u.2.1 u.2.2)) u)) (va_A (WZ_Mrun cI cJ mv mr mi mf mg) sz)) 0 0 (va_A (WZ_Mrun cI cJ mv mr mi mf mg) sz) := by
  refine mk_met (y := yX11_run) (bytes := cX11_run) (maxL := 7) (avs := [.ref (mr 0), .int z_n, .int z_what]) (WS := (WZ_Mrun cI cJ mv mr mi mf mg)) (Qf := fun A => va_Qi (fun (r : Int32) (u : (Nat → Int32) × (Nat → Nat → Int32) × (Nat → Nat → Int64)) => (0 ≤ (u.1 1).toInt) ∧ ((u.1 1).toInt ≤ 5) ∧ (0 ≤ (u.1 2).toInt) ∧ ((u.1 2).toInt ≤ 6) ∧ (0 ≤ (u.1 24).toInt) ∧ ((u.1 24).toInt ≤ 200) ∧ (0 ≤ (u.1 32).toInt) ∧ ((u.1 32).toInt ≤ 10) ∧ (0 ≤ (u.1 40).toInt) ∧ ((u.1 40).toInt ≤ 40) ∧ (0 ≤ (u.1 49).toInt) ∧ ((u.1 49).toInt ≤ 10) ∧ (0 ≤ (u.1 72).toInt) ∧ ((u.1 72).toInt ≤ 200) ∧ (0 ≤ (u.1 79).toInt) ∧ ((u.1 79).toInt ≤ 8) ∧ ((u.1 32).toInt = (mi 32).toInt) ∧ ((u.1 79).toInt = (mi 79).toInt) ∧ (p9 (u.2.1 36)) ∧ (p9 (u.2.1 37)) ∧ (m4 (u.2.1 53)) ∧ (m4 (u.2.1 63)) ∧ ((Eq (mf 27)) (u.2.1 27)) ∧ ((Eq (mf 31)) (u.2.1 31))) (fun u => QW D cI cJ A ((fun (u : (Nat → Int32) × (Nat → Nat → Int32) × (Nat → Nat → Int64)) => (WZ_Mrun cI cJ mv mr u.1 u.2.1 u.2.2)) u)) A) (by decide) (Nat.le_of_ble_eq_true rfl) ?_
  intro p e s m below meth c A ls E hr hlk hnm hX hw1 hl2
  have hl3 : lv_has ls 7 [(0, .ref (mr 0)), (1, .int z_n), (2, .int z_what)] := hl2
  refine lv_iload_n (pc := 0) E.1 E.2.1 dX11_run_0 rfl (lv_at hl3 1 rfl) ?_
  refine lv_iconst (pc := 1) (v := 1) E.1 E.2.1 dX11_run_1 (by decide +kernel) ?_
  refine lv_icmp_lt (pc := 2) (tgt := 33) E.1 E.2.1 dX11_run_2 (by decide) (fun c_4 => ?_) (fun c_4 => ?_)
  · skip
    have hc_4 := ltE (a := z_n.toInt) (b := 1) rfl (by decide +kernel) c_4
    refine lv_iconst (pc := 33) (v := (-1)) E.1 E.2.1 dX11_run_33 (by decide +kernel) ?_
    exact em_i (w1 := (fun (u : (Nat → Int32) × (Nat → Nat → Int32) × (Nat → Nat → Int64)) => (WZ_Mrun cI cJ mv mr u.1 u.2.1 u.2.2))) E hr hlk (mi, mf, mg) hw1 ⟨h0.1, h0.2, h1.1, h1.2, h2.1, h2.2, h3.1, h3.2, h4.1, h4.2, h5.1, h5.2, h6.1, h6.2, h7.1, h7.2, rfl, rfl, a_p_from, a_p_to, a_t_marks, a_u_marks, rfl, rfl⟩ (Nat.le_of_ble_eq_true rfl) (Nat.le_of_ble_eq_true rfl) dX11_run_34
  · skip
    have hc_4 := nltE (a := z_n.toInt) (b := 1) rfl (by decide +kernel) c_4
    refine lv_iload_n (pc := 5) E.1 E.2.1 dX11_run_5 rfl (lv_at hl3 1 rfl) ?_
    refine lv_bipush (pc := 6) (v := 99) E.1 E.2.1 dX11_run_6 (by decide +kernel) ?_
    refine lv_icmp_gt (pc := 8) (tgt := 33) E.1 E.2.1 dX11_run_8 (by decide) (fun c_5 => ?_) (fun c_5 => ?_)
    · skip
      have hc_5 := ltE (a := 99) (b := z_n.toInt) (by decide +kernel) rfl c_5
      refine lv_iconst (pc := 33) (v := (-1)) E.1 E.2.1 dX11_run_33 (by decide +kernel) ?_
      exact em_i (w1 := (fun (u : (Nat → Int32) × (Nat → Nat → Int32) × (Nat → Nat → Int64)) => (WZ_Mrun cI cJ mv mr u.1 u.2.1 u.2.2))) E hr hlk (mi, mf, mg) hw1 ⟨h0.1, h0.2, h1.1, h1.2, h2.1, h2.2, h3.1, h3.2, h4.1, h4.2, h5.1, h5.2, h6.1, h6.2, h7.1, h7.2, rfl, rfl, a_p_from, a_p_to, a_t_marks, a_u_marks, rfl, rfl⟩ (Nat.le_of_ble_eq_true rfl) (Nat.le_of_ble_eq_true rfl) dX11_run_34
    · skip
      have hc_5 := nltE (a := 99) (b := z_n.toInt) (by decide +kernel) rfl c_5
      refine lv_iload_n (pc := 11) E.1 E.2.1 dX11_run_11 rfl (lv_at hl3 2 rfl) ?_
      refine lv_if_lt (pc := 12) (tgt := 33) E.1 E.2.1 dX11_run_12 (by decide) (fun c_6 => ?_) (fun c_6 => ?_)
      · skip
        have hc_6 := ltE (a := z_what.toInt) (b := 0) rfl (by decide +kernel) c_6
        refine lv_iconst (pc := 33) (v := (-1)) E.1 E.2.1 dX11_run_33 (by decide +kernel) ?_
        exact em_i (w1 := (fun (u : (Nat → Int32) × (Nat → Nat → Int32) × (Nat → Nat → Int64)) => (WZ_Mrun cI cJ mv mr u.1 u.2.1 u.2.2))) E hr hlk (mi, mf, mg) hw1 ⟨h0.1, h0.2, h1.1, h1.2, h2.1, h2.2, h3.1, h3.2, h4.1, h4.2, h5.1, h5.2, h6.1, h6.2, h7.1, h7.2, rfl, rfl, a_p_from, a_p_to, a_t_marks, a_u_marks, rfl, rfl⟩ (Nat.le_of_ble_eq_true rfl) (Nat.le_of_ble_eq_true rfl) dX11_run_34
      · skip
        have hc_6 := nltE (a := z_what.toInt) (b := 0) rfl (by decide +kernel) c_6
        refine lv_iload_n (pc := 15) E.1 E.2.1 dX11_run_15 rfl (lv_at hl3 2 rfl) ?_
        refine lv_iconst (pc := 16) (v := 3) E.1 E.2.1 dX11_run_16 (by decide +kernel) ?_
        refine lv_icmp_gt (pc := 17) (tgt := 33) E.1 E.2.1 dX11_run_17 (by decide) (fun c_7 => ?_) (fun c_7 => ?_)
        · skip
          have hc_7 := ltE (a := 3) (b := z_what.toInt) (by decide +kernel) rfl c_7
          refine lv_iconst (pc := 33) (v := (-1)) E.1 E.2.1 dX11_run_33 (by decide +kernel) ?_
          exact em_i (w1 := (fun (u : (Nat → Int32) × (Nat → Nat → Int32) × (Nat → Nat → Int64)) => (WZ_Mrun cI cJ mv mr u.1 u.2.1 u.2.2))) E hr hlk (mi, mf, mg) hw1 ⟨h0.1, h0.2, h1.1, h1.2, h2.1, h2.2, h3.1, h3.2, h4.1, h4.2, h5.1, h5.2, h6.1, h6.2, h7.1, h7.2, rfl, rfl, a_p_from, a_p_to, a_t_marks, a_u_marks, rfl, rfl⟩ (Nat.le_of_ble_eq_true rfl) (Nat.le_of_ble_eq_true rfl) dX11_run_34
        · skip
          have hc_7 := nltE (a := 3) (b := z_what.toInt) (by decide +kernel) rfl c_7
          refine lv_aload_n (pc := 20) E.1 E.2.1 dX11_run_20 rfl (lv_at hl3 0 rfl) ?_
          refine x_get (pc := 21) (T := TX11) (N := 13) (ci := 11) (v := .ref (mr 3)) E hw1 inX11 0 0 q_606 rfl rfl (by decide) rfl rfl dX11_run_21 ?_
          refine x_get (pc := 24) (T := TX10) (N := 17) (ci := 10) (v := .ref (mr 26)) E hw1 inX10 1 1 q_463 rfl rfl (by decide) rfl rfl dX11_run_24 ?_
          refine x_get (pc := 27) (T := TX1) (N := 9) (ci := 1) (v := .int (mi 32)) E hw1 inX1 13 5 q_282 rfl rfl (by decide) rfl rfl dX11_run_27 ?_
          refine lv_if_ne (pc := 30) (tgt := 35) E.1 E.2.1 dX11_run_30 (by decide) (fun c_8 => ?_) (fun c_8 => ?_)
          · skip
            have hc_8 := neE (a := (mi 32).toInt) (b := 0) rfl (by decide +kernel) c_8
            refine lv_aload_n (pc := 35) E.1 E.2.1 dX11_run_35 rfl (lv_at hl3 0 rfl) ?_
            refine x_get (pc := 36) (T := TX11) (N := 13) (ci := 11) (v := .ref (mr 80)) E hw1 inX11 0 7 q_613 rfl rfl (by decide) rfl rfl dX11_run_36 ?_
            refine lv_aload_n (pc := 39) E.1 E.2.1 dX11_run_39 rfl (lv_at hl3 0 rfl) ?_
            refine x_get (pc := 40) (T := TX11) (N := 13) (ci := 11) (v := .ref (mr 3)) E hw1 inX11 0 0 q_606 rfl rfl (by decide) rfl rfl dX11_run_40 ?_
            refine x_get (pc := 43) (T := TX10) (N := 17) (ci := 10) (v := .ref (mr 13)) E hw1 inX10 1 0 q_458 rfl rfl (by decide) rfl rfl dX11_run_43 ?_
            refine cq_v (pc := 46) (ws' := (fun (u : (Nat → Int32) × (Nat → Int32) × (Nat → Int32) × (Nat → Int32) × (Nat → Int32) × Int32 × Int32 × Int32 × Int32 × Int32 × Int32 × Int32) => (WZ_Mrun cI cJ mv mr (upd (upd (upd (upd (upd (upd (upd mi 86 u.2.2.2.2.2.1) 87 u.2.2.2.2.2.2.1) 88 u.2.2.2.2.2.2.2.1) 89 u.2.2.2.2.2.2.2.2.1) 90 u.2.2.2.2.2.2.2.2.2.1) 91 u.2.2.2.2.2.2.2.2.2.2.1) 92 u.2.2.2.2.2.2.2.2.2.2.2) (va_up (va_up (va_up (va_up (va_up mf 81 u.1) 82 u.2.1) 83 u.2.2.1) 84 u.2.2.2.1) 85 u.2.2.2.2.1) mg))) hw1 [51, 52, 53, 54, 55, 56, 7, 8, 9, 10, 11, 12] [0, 1, 2, 3, 4, 5, 6, 13, 14, 15, 16, 17, 18, 19, 20, 21, 22, 23, 24, 25, 26, 27, 28, 29, 30, 31, 32, 33, 34, 35, 36, 37, 38, 39, 40, 41, 42, 43, 44, 45, 46, 47, 48, 49, 50] [0, 1, 2, 3, 4, 5, 6, 51, 52, 53, 54, 55, 56, 7, 8, 9, 10, 11, 12, 13, 14, 15, 16, 17, 18, 19, 20, 21, 22, 23, 24, 25, 26, 27, 28, 29, 30, 31, 32, 33, 34, 35, 36, 37, 38, 39, 40, 41, 42, 43, 44, 45, 46, 47, 48, 49, 50] rfl rfl (by decide) (by decide) (fun _ => rfl) (by decide) (rn_V (As := [.ref (mr 13)]) (rest := []) E hw1 (t_nowTake l D cI cJ _ (shg 13 80 0 mr) (shg 13 80 0 mi) (shg 13 80 0 mf) (shg 13 80 0 mg) ) (gdV q_999 q_1000 q_1001 q_153 q_1002) hdV_X4_take ⟨rfl, rfl⟩ ⟨(Nat.le_of_ble_eq_true rfl), (Nat.le_of_ble_eq_true rfl)⟩ ⟨(Nat.le_of_ble_eq_true rfl), (Nat.le_of_ble_eq_true rfl)⟩ xT_b xT_at 51 4 rfl rfl rfl [51, 52, 53, 54, 55, 56, 7, 8, 9, 10, 11, 12] rfl (by decide) rfl hl3.1 rfl (Nat.le_of_ble_eq_true rfl) dX11_run_46) (fun u_9 H1 locs hp hw11 => ?_)
            obtain ⟨goil_12, gowed_13, ghad_14, glast_15, gdone_16, nspoilt_17, nlamp_18, nnight_19, nsnow_20, ndraws_21, ngone_22, nlines_23⟩ := u_9
            generalize H1 = H at hw11 ⊢
            have hw24 : WD D A s.heap (WZ_Mrun cI cJ mv mr (upd (upd (upd (upd (upd (upd (upd mi 86 nspoilt_17) 87 nlamp_18) 88 nnight_19) 89 nsnow_20) 90 ndraws_21) 91 ngone_22) 92 nlines_23) (va_up (va_up (va_up (va_up (va_up mf 81 goil_12) 82 gowed_13) 83 ghad_14) 84 glast_15) 85 gdone_16) mg) H locs := hw11
            obtain ⟨hp_25, hp_26, hp_27, hp_28, hp_29, hp_30, hp_31⟩ := hp
            have hp_25 : nspoilt_17.toInt = (mi 19).toInt := hp_25
            have hp_26 : nlamp_18.toInt = (mi 20).toInt := hp_26
            have hp_27 : nnight_19.toInt = (mi 21).toInt := hp_27
            have hp_28 : nsnow_20.toInt = (mi 22).toInt := hp_28
            have hp_29 : ndraws_21.toInt = (mi 23).toInt := hp_29
            have hp_30 : ngone_22.toInt = (mi 24).toInt := hp_30
            have hp_31 : nlines_23.toInt = (mi 25).toInt := hp_31
            refine lv_aload_n (pc := 49) E.1 E.2.1 dX11_run_49 rfl (lv_at hl3 0 rfl) ?_
            refine x_get (pc := 50) (T := TX11) (N := 13) (ci := 11) (v := .ref (mr 80)) E hw24 inX11 0 7 q_613 rfl rfl (by decide) rfl rfl dX11_run_50 ?_
            refine x_get (pc := 53) (T := TX4) (N := 12) (ci := 4) (v := .int nspoilt_17) E hw24 inX4 51 5 q_212 rfl rfl (by decide) rfl rfl dX11_run_53 ?_
            refine lv_istore_n (pc := 56) (lv' := [(3, .int nspoilt_17), (0, .ref (mr 0)), (1, .int z_n), (2, .int z_what)]) E.1 E.2.1 dX11_run_56 rfl hl3 (by decide) rfl (fun ls hl32 => ?_)
            refine lv_iconst (pc := 57) (v := 0) E.1 E.2.1 dX11_run_57 (by decide +kernel) ?_
            refine lv_istore (pc := 58) (lv' := [(4, .int 0), (3, .int nspoilt_17), (0, .ref (mr 0)), (1, .int z_n), (2, .int z_what)]) E.1 E.2.1 dX11_run_58 hl32 (by decide) rfl (fun ls hl33 => ?_)
            refine lv_iconst (pc := 60) (v := (-1)) E.1 E.2.1 dX11_run_60 (by decide +kernel) ?_
            refine lv_istore (pc := 61) (lv' := [(5, .int (-1)), (4, .int 0), (3, .int nspoilt_17), (0, .ref (mr 0)), (1, .int z_n), (2, .int z_what)]) E.1 E.2.1 dX11_run_61 hl33 (by decide) rfl (fun ls hl34 => ?_)
            refine lv_iconst (pc := 63) (v := 0) E.1 E.2.1 dX11_run_63 (by decide +kernel) ?_
            refine lv_istore (pc := 64) (lv' := [(6, .int 0), (5, .int (-1)), (4, .int 0), (3, .int nspoilt_17), (0, .ref (mr 0)), (1, .int z_n), (2, .int z_what)]) E.1 E.2.1 dX11_run_64 hl34 (by decide) rfl (fun ls hl35 => ?_)
            have loop_36 : ∀ (k : Nat) (x_37 : Int32) (x_38 : Int32) (x_39 : Int32) (M_40 : Nat → Int32) (M_41 : Nat → Nat → Int32) (M_42 : Nat → Nat → Int64) (H : Heap) (locs : List Loc) (ls : Array Slot), (0 ≤ (M_40 1).toInt ∧ (M_40 1).toInt ≤ 5) ∧ (0 ≤ (M_40 2).toInt ∧ (M_40 2).toInt ≤ 6) ∧ (0 ≤ (M_40 24).toInt ∧ (M_40 24).toInt ≤ 200) ∧ (0 ≤ (M_40 32).toInt ∧ (M_40 32).toInt ≤ 10) ∧ (0 ≤ (M_40 40).toInt ∧ (M_40 40).toInt ≤ 40) ∧ (0 ≤ (M_40 49).toInt ∧ (M_40 49).toInt ≤ 10) ∧ (0 ≤ (M_40 72).toInt ∧ (M_40 72).toInt ≤ 200) ∧ (0 ≤ (M_40 79).toInt ∧ (M_40 79).toInt ≤ 8) ∧ ((M_40 32).toInt = (mi 32).toInt) ∧ ((M_40 79).toInt = (mi 79).toInt) ∧ (0 ≤ (M_40 91).toInt ∧ (M_40 91).toInt ≤ 200) ∧ (0 ≤ x_39.toInt) ∧ (x_39.toInt ≤ z_n.toInt) ∧ (0 ≤ x_37.toInt) ∧ (x_37.toInt ≤ x_39.toInt) ∧ p9 (M_41 36) ∧ p9 (M_41 37) ∧ m4 (M_41 53) ∧ m4 (M_41 63) ∧ (Eq (mf 27)) (M_41 27) ∧ (Eq (mf 31)) (M_41 31) → z_n.toInt - x_39.toInt < (k : Int) → WD D A s.heap (WZ_Mrun cI cJ mv mr M_40 M_41 M_42) H locs → lv_has ls 7 [(6, .int x_39), (5, .int x_38), (4, .int x_37), (3, .int nspoilt_17), (0, .ref (mr 0)), (1, .int z_n), (2, .int z_what)] → W p l e ({ frames := 11, cells := 0, slots := 0, locals := 263 } : Room) s m ([.ref (mr 0), .int z_n, .int z_what] : List Value).toArray below meth c H locs 0 0 (MQ below (va_Qi (fun (r : Int32) (u : (Nat → Int32) × (Nat → Nat → Int32) × (Nat → Nat → Int64)) => (0 ≤ (u.1 1).toInt) ∧ ((u.1 1).toInt ≤ 5) ∧ (0 ≤ (u.1 2).toInt) ∧ ((u.1 2).toInt ≤ 6) ∧ (0 ≤ (u.1 24).toInt) ∧ ((u.1 24).toInt ≤ 200) ∧ (0 ≤ (u.1 32).toInt) ∧ ((u.1 32).toInt ≤ 10) ∧ (0 ≤ (u.1 40).toInt) ∧ ((u.1 40).toInt ≤ 40) ∧ (0 ≤ (u.1 49).toInt) ∧ ((u.1 49).toInt ≤ 10) ∧ (0 ≤ (u.1 72).toInt) ∧ ((u.1 72).toInt ≤ 200) ∧ (0 ≤ (u.1 79).toInt) ∧ ((u.1 79).toInt ≤ 8) ∧ ((u.1 32).toInt = (mi 32).toInt) ∧ ((u.1 79).toInt = (mi 79).toInt) ∧ (p9 (u.2.1 36)) ∧ (p9 (u.2.1 37)) ∧ (m4 (u.2.1 53)) ∧ (m4 (u.2.1 63)) ∧ ((Eq (mf 27)) (u.2.1 27)) ∧ ((Eq (mf 31)) (u.2.1 31))) (fun u => QW D cI cJ A ((fun (u : (Nat → Int32) × (Nat → Nat → Int32) × (Nat → Nat → Int64)) => (WZ_Mrun cI cJ mv mr u.1 u.2.1 u.2.2)) u)) A) ([.ref (mr 0), .int z_n, .int z_what] : List Value).toArray s 0 0 A) (F0 m 66 ls []) := by
              intro k
              induction k with
              | zero =>
                intro x_37 x_38 x_39 M_40 M_41 M_42 _ _ _ hinv hm
                obtain ⟨hi_42_0, hi_42_1, hi_42_2, hi_42_3, hi_42_4, hi_42_5, hi_42_6, hi_42_7, hi_42_8, hi_42_9, hi_42_10, hi_42_11, hi_42_12, hi_42_13, hi_42_14, hi_42_15, hi_42_16, hi_42_17, hi_42_18, hi_42_19, hi_42_20⟩ := hinv
                exact absurd hm (by omega)
              | succ k ih_43 =>
                intro x_37 x_38 x_39 M_40 M_41 M_42 H locs ls hinv hm hw44 hl45
                obtain ⟨hi_42_0, hi_42_1, hi_42_2, hi_42_3, hi_42_4, hi_42_5, hi_42_6, hi_42_7, hi_42_8, hi_42_9, hi_42_10, hi_42_11, hi_42_12, hi_42_13, hi_42_14, hi_42_15, hi_42_16, hi_42_17, hi_42_18, hi_42_19, hi_42_20⟩ := hinv
                refine lv_iload (pc := 66) E.1 E.2.1 dX11_run_66 (lv_at hl45 0 rfl) ?_
                refine lv_iload_n (pc := 68) E.1 E.2.1 dX11_run_68 rfl (lv_at hl45 5 rfl) ?_
                refine lv_icmp_ge (pc := 69) (tgt := 118) E.1 E.2.1 dX11_run_69 (by decide) (fun c_46 => ?_) (fun c_46 => ?_)
                · skip
                  have hc_46 := leE (a := z_n.toInt) (b := x_39.toInt) rfl rfl c_46
                  refine lv_iload_n (pc := 118) E.1 E.2.1 dX11_run_118 rfl (lv_at hl45 6 rfl) ?_
                  rcases swt (x := z_what) 0 2 with hsw_47 | ⟨hsw_47k, hsw_471, hsw_472, hsw_47⟩
                  · skip
                    refine lv_tableOut (pc := 119) (tgt := 167) E.1 E.2.1 dX11_run_119 hsw_47 (by decide) ?_
                    refine lv_iload (pc := 167) E.1 E.2.1 dX11_run_167 (lv_at hl45 1 rfl) ?_
                    exact em_i (w1 := (fun (u : (Nat → Int32) × (Nat → Nat → Int32) × (Nat → Nat → Int64)) => (WZ_Mrun cI cJ mv mr u.1 u.2.1 u.2.2))) E hr hlk (M_40, M_41, M_42) hw44 ⟨hi_42_0.1, hi_42_0.2, hi_42_1.1, hi_42_1.2, hi_42_2.1, hi_42_2.2, hi_42_3.1, hi_42_3.2, hi_42_4.1, hi_42_4.2, hi_42_5.1, hi_42_5.2, hi_42_6.1, hi_42_6.2, hi_42_7.1, hi_42_7.2, hi_42_8, hi_42_9, hi_42_15, hi_42_16, hi_42_17, hi_42_18, hi_42_19, hi_42_20⟩ (Nat.le_of_ble_eq_true rfl) (Nat.le_of_ble_eq_true rfl) dX11_run_169
                  · skip
                    rcases (show hsw_47k = 0 ∨ hsw_47k = 1 ∨ hsw_47k = 2 from by omega) with rfl | rfl | rfl
                    · skip
                      have hsw_47v : z_what.toInt = 0 := hsw_47
                      have hsw_47e : z_what = 0 := Int32.toInt_inj.mp (by rw [hsw_47]; decide +kernel)
                      refine lv_tableIn (pc := 119) (off := 25) (tgt := 144) E.1 E.2.1 dX11_run_119 (by rw [hsw_47e]; decide +kernel) (by rw [hsw_47e]; decide +kernel) (by rw [hsw_47e]; decide +kernel) (by decide) ?_
                      refine lv_aload_n (pc := 144) E.1 E.2.1 dX11_run_144 rfl (lv_at hl45 4 rfl) ?_
                      refine x_get (pc := 145) (T := TX11) (N := 13) (ci := 11) (v := .ref (mr 80)) E hw44 inX11 0 7 q_613 rfl rfl (by decide) rfl rfl dX11_run_145 ?_
                      refine x_get (pc := 148) (T := TX4) (N := 12) (ci := 4) (v := .int (M_40 87)) E hw44 inX4 51 6 q_216 rfl rfl (by decide) rfl rfl dX11_run_148 ?_
                      exact em_i (w1 := (fun (u : (Nat → Int32) × (Nat → Nat → Int32) × (Nat → Nat → Int64)) => (WZ_Mrun cI cJ mv mr u.1 u.2.1 u.2.2))) E hr hlk (M_40, M_41, M_42) hw44 ⟨hi_42_0.1, hi_42_0.2, hi_42_1.1, hi_42_1.2, hi_42_2.1, hi_42_2.2, hi_42_3.1, hi_42_3.2, hi_42_4.1, hi_42_4.2, hi_42_5.1, hi_42_5.2, hi_42_6.1, hi_42_6.2, hi_42_7.1, hi_42_7.2, hi_42_8, hi_42_9, hi_42_15, hi_42_16, hi_42_17, hi_42_18, hi_42_19, hi_42_20⟩ (Nat.le_of_ble_eq_true rfl) (Nat.le_of_ble_eq_true rfl) dX11_run_151
                    · skip
                      have hsw_47v : z_what.toInt = 1 := hsw_47
                      have hsw_47e : z_what = 1 := Int32.toInt_inj.mp (by rw [hsw_47]; decide +kernel)
                      refine lv_tableIn (pc := 119) (off := 33) (tgt := 152) E.1 E.2.1 dX11_run_119 (by rw [hsw_47e]; decide +kernel) (by rw [hsw_47e]; decide +kernel) (by rw [hsw_47e]; decide +kernel) (by decide) ?_
                      refine lv_iload (pc := 152) E.1 E.2.1 dX11_run_152 (lv_at hl45 2 rfl) ?_
                      exact em_i (w1 := (fun (u : (Nat → Int32) × (Nat → Nat → Int32) × (Nat → Nat → Int64)) => (WZ_Mrun cI cJ mv mr u.1 u.2.1 u.2.2))) E hr hlk (M_40, M_41, M_42) hw44 ⟨hi_42_0.1, hi_42_0.2, hi_42_1.1, hi_42_1.2, hi_42_2.1, hi_42_2.2, hi_42_3.1, hi_42_3.2, hi_42_4.1, hi_42_4.2, hi_42_5.1, hi_42_5.2, hi_42_6.1, hi_42_6.2, hi_42_7.1, hi_42_7.2, hi_42_8, hi_42_9, hi_42_15, hi_42_16, hi_42_17, hi_42_18, hi_42_19, hi_42_20⟩ (Nat.le_of_ble_eq_true rfl) (Nat.le_of_ble_eq_true rfl) dX11_run_154
                    · skip
                      have hsw_47v : z_what.toInt = 2 := hsw_47
                      have hsw_47e : z_what = 2 := Int32.toInt_inj.mp (by rw [hsw_47]; decide +kernel)
                      refine lv_tableIn (pc := 119) (off := 36) (tgt := 155) E.1 E.2.1 dX11_run_119 (by rw [hsw_47e]; decide +kernel) (by rw [hsw_47e]; decide +kernel) (by rw [hsw_47e]; decide +kernel) (by decide) ?_
                      refine lv_aload_n (pc := 155) E.1 E.2.1 dX11_run_155 rfl (lv_at hl45 4 rfl) ?_
                      refine x_get (pc := 156) (T := TX11) (N := 13) (ci := 11) (v := .ref (mr 80)) E hw44 inX11 0 7 q_613 rfl rfl (by decide) rfl rfl dX11_run_156 ?_
                      refine x_get (pc := 159) (T := TX4) (N := 12) (ci := 4) (v := .int (M_40 86)) E hw44 inX4 51 5 q_212 rfl rfl (by decide) rfl rfl dX11_run_159 ?_
                      refine lv_iload_n (pc := 162) E.1 E.2.1 dX11_run_162 rfl (lv_at hl45 3 rfl) ?_
                      refine lv_iconst (pc := 163) (v := (-1)) E.1 E.2.1 dX11_run_163 (by decide +kernel) ?_
                      refine lv_ixor (pc := 164) E.1 E.2.1 dX11_run_164 ?_
                      refine lv_topi (fun v_48 ev_48 => ?_)
                      refine lv_iand (pc := 165) E.1 E.2.1 dX11_run_165 ?_
                      refine lv_topi (fun v_49 ev_49 => ?_)
                      exact em_i (w1 := (fun (u : (Nat → Int32) × (Nat → Nat → Int32) × (Nat → Nat → Int64)) => (WZ_Mrun cI cJ mv mr u.1 u.2.1 u.2.2))) E hr hlk (M_40, M_41, M_42) hw44 ⟨hi_42_0.1, hi_42_0.2, hi_42_1.1, hi_42_1.2, hi_42_2.1, hi_42_2.2, hi_42_3.1, hi_42_3.2, hi_42_4.1, hi_42_4.2, hi_42_5.1, hi_42_5.2, hi_42_6.1, hi_42_6.2, hi_42_7.1, hi_42_7.2, hi_42_8, hi_42_9, hi_42_15, hi_42_16, hi_42_17, hi_42_18, hi_42_19, hi_42_20⟩ (Nat.le_of_ble_eq_true rfl) (Nat.le_of_ble_eq_true rfl) dX11_run_166
                · skip
                  have hc_46 := nleE (a := z_n.toInt) (b := x_39.toInt) rfl rfl c_46
                  refine lv_aload_n (pc := 72) E.1 E.2.1 dX11_run_72 rfl (lv_at hl45 4 rfl) ?_
                  refine x_get (pc := 73) (T := TX11) (N := 13) (ci := 11) (v := .ref (mr 3)) E hw44 inX11 0 0 q_606 rfl rfl (by decide) rfl rfl dX11_run_73 ?_
                  refine lv_aload_n (pc := 76) E.1 E.2.1 dX11_run_76 rfl (lv_at hl45 4 rfl) ?_
                  refine x_get (pc := 77) (T := TX11) (N := 13) (ci := 11) (v := .ref (mr 80)) E hw44 inX11 0 7 q_613 rfl rfl (by decide) rfl rfl dX11_run_77 ?_
                  refine lv_iconst (pc := 80) (v := 0) E.1 E.2.1 dX11_run_80 (by decide +kernel) ?_
                  refine ck_i (pc := 81) (ws' := (fun (u : (Nat → Int32) × (Nat → Int32) × (Nat → Int32) × (Nat → Int32) × (Nat → Int32) × (Nat → Int32) × (Nat → Int32) × (Nat → Int32) × (Nat → Int32) × (Nat → Int32) × (Nat → Int32) × Int32 × Int32 × Int32 × Int32 × Int32 × Int32 × Int32) => (WZ_Mrun cI cJ mv mr (upd (upd (upd (upd (upd (upd (upd M_40 86 u.2.2.2.2.2.2.2.2.2.2.2.1) 87 u.2.2.2.2.2.2.2.2.2.2.2.2.2.2.2.2.1) 88 u.2.2.2.2.2.2.2.2.2.2.2.2.2.2.2.2.2) 89 u.2.2.2.2.2.2.2.2.2.2.2.2.2.2.1) 90 u.2.2.2.2.2.2.2.2.2.2.2.2.2.1) 91 u.2.2.2.2.2.2.2.2.2.2.2.2.2.2.2.1) 92 u.2.2.2.2.2.2.2.2.2.2.2.2.1) (va_up (va_up (va_up (va_up (va_up (va_up (va_up (va_up (va_up (va_up (va_up M_41 4 u.2.2.2.2.2.1) 9 u.1) 41 u.2.1) 42 u.2.2.1) 55 u.2.2.2.1) 65 u.2.2.2.2.1) 81 u.2.2.2.2.2.2.1) 82 u.2.2.2.2.2.2.2.2.2.2.1) 83 u.2.2.2.2.2.2.2.2.1) 84 u.2.2.2.2.2.2.2.2.2.1) 85 u.2.2.2.2.2.2.2.1) M_42))) [false, true, true, true, true, true, true, true, true, true, true, true, true, true, true, true, true, true, true, true, true, true, true, true, true, true, true, true, true, true, true, true, true, true, true, true, true, true, true, true, true, true, true, true, true, true, true, true, true, true, true, true, true, true, true, true, true] hw44 rfl (fun hC_ => (rn_V (As := [.ref (mr 80), .int 0]) (rest := []) E hw44 (t_passNights l D cI cJ _ (shf 3 mr) (shf 3 M_40) (shf 3 M_41) (shf 3 M_42) (vl [mv 9]) hi_42_3 hi_42_4 hi_42_5 hi_42_10 hi_42_6 hi_42_15 hi_42_16 hi_42_17 hi_42_18) (gdV q_1004 q_1005 q_1006 q_152 q_1007) hdV_X10_passNight ⟨rfl, rfl⟩ ⟨(Nat.le_of_ble_eq_true rfl), (Nat.le_of_ble_eq_true rfl)⟩ ⟨(Nat.le_of_ble_eq_true rfl), (Nat.le_of_ble_eq_true rfl)⟩ xT_b xT_at 1 10 rfl rfl rfl _ hC_ (nd_T _ 0) rfl hl45.1 rfl (Nat.le_of_ble_eq_true rfl) dX11_run_81)) rfl (fun _ => rfl) (fun _ => rfl) (fun r_51 u_50 H1 locs hp hw52 => ?_)
                  obtain ⟨greadings_53, gpmeasured_54, gpmeasuredIn_55, gtstack_56, gustack_57, gbook_58, gsoil_59, gsdone_60, gshad_61, gslast_62, gsowed_63, nsspoilt_64, nslines_65, nsdraws_66, nssnow_67, nsgone_68, nslamp_69, nsnight_70⟩ := u_50
                  generalize H1 = H at hw52 ⊢
                  have hw71 : WD D A s.heap (WZ_Mrun cI cJ mv mr (upd (upd (upd (upd (upd (upd (upd M_40 86 nsspoilt_64) 87 nslamp_69) 88 nsnight_70) 89 nssnow_67) 90 nsdraws_66) 91 nsgone_68) 92 nslines_65) (va_up (va_up (va_up (va_up (va_up (va_up (va_up (va_up (va_up (va_up (va_up M_41 4 gbook_58) 9 greadings_53) 41 gpmeasured_54) 42 gpmeasuredIn_55) 55 gtstack_56) 65 gustack_57) 81 gsoil_59) 82 gsowed_63) 83 gshad_61) 84 gslast_62) 85 gsdone_60) M_42) H locs := hw52
                  obtain ⟨hp_72, hp_73, hp_74, hp_75⟩ := hp
                  have hp_72 : 0 ≤ r_51.toInt := hp_72
                  have hp_73 : r_51.toInt ≤ 1 := hp_73
                  have hp_74 : 0 ≤ nsgone_68.toInt := hp_74
                  have hp_75 : nsgone_68.toInt ≤ 200 := hp_75
                  refine lv_if_ne (pc := 84) (tgt := 90) E.1 E.2.1 dX11_run_84 (by decide) (fun c_76 => ?_) (fun c_76 => ?_)
                  · skip
                    have hc_76 := neE (a := r_51.toInt) (b := 0) rfl (by decide +kernel) c_76
                    refine lv_iload (pc := 90) E.1 E.2.1 dX11_run_90 (lv_at hl45 1 rfl) ?_
                    refine lv_iconst (pc := 92) (v := (-1)) E.1 E.2.1 dX11_run_92 (by decide +kernel) ?_
                    refine lv_icmp_ne (pc := 93) (tgt := 112) E.1 E.2.1 dX11_run_93 (by decide) (fun c_77 => ?_) (fun c_77 => ?_)
                    · skip
                      have hc_77 := neE (a := x_38.toInt) (b := (-1)) rfl (by decide +kernel) c_77
                      obtain ⟨v_78, ev_78⟩ : ∃ z : Int32, x_39 + Int32.ofInt (1) = z := ⟨_, rfl⟩
                      have hv_78 : v_78.toInt = x_39.toInt + (1) := by rw [← ev_78]; exact incE rfl (by decide) (by omega)
                      refine lv_iinc (pc := 112) (v := v_78) (lv' := [(6, .int v_78), (5, .int x_38), (4, .int x_37), (3, .int nspoilt_17), (0, .ref (mr 0)), (1, .int z_n), (2, .int z_what)]) E.1 E.2.1 dX11_run_112 hl45 (k := 0) rfl ev_78 (by decide) rfl (fun ls hl79 => ?_)
                      refine lv_goto (pc := 115) (tgt := 66) E.1 E.2.1 dX11_run_115 (by decide) ?_
                      exact ih_43 x_37 x_38 v_78 (upd (upd (upd (upd (upd (upd (upd M_40 86 nsspoilt_64) 87 nslamp_69) 88 nsnight_70) 89 nssnow_67) 90 nsdraws_66) 91 nsgone_68) 92 nslines_65) (va_up (va_up (va_up (va_up (va_up (va_up (va_up (va_up (va_up (va_up (va_up M_41 4 gbook_58) 9 greadings_53) 41 gpmeasured_54) 42 gpmeasuredIn_55) 55 gtstack_56) 65 gustack_57) 81 gsoil_59) 82 gsowed_63) 83 gshad_61) 84 gslast_62) 85 gsdone_60) M_42 _ _ _ ⟨hi_42_0, hi_42_1, hi_42_2, hi_42_3, hi_42_4, hi_42_5, hi_42_6, hi_42_7, hi_42_8, hi_42_9, ⟨hp_74, hp_75⟩, (by show 0 ≤ v_78.toInt; omega), (by show v_78.toInt ≤ z_n.toInt; omega), hi_42_13, (by show x_37.toInt ≤ v_78.toInt; omega), hi_42_15, hi_42_16, hi_42_17, hi_42_18, hi_42_19, hi_42_20⟩ (by omega) hw71 (lv_sub hl79 [0, 1, 2, 3, 4, 5, 6] rfl)
                    · skip
                      have hc_77 := eqE (a := x_38.toInt) (b := (-1)) rfl (by decide +kernel) c_77
                      refine lv_aload_n (pc := 96) E.1 E.2.1 dX11_run_96 rfl (lv_at hl45 4 rfl) ?_
                      refine x_get (pc := 97) (T := TX11) (N := 13) (ci := 11) (v := .ref (mr 80)) E hw71 inX11 0 7 q_613 rfl rfl (by decide) rfl rfl dX11_run_97 ?_
                      refine x_get (pc := 100) (T := TX4) (N := 12) (ci := 4) (v := .int nsspoilt_64) E hw71 inX4 51 5 q_212 rfl rfl (by decide) rfl rfl dX11_run_100 ?_
                      refine lv_iload_n (pc := 103) E.1 E.2.1 dX11_run_103 rfl (lv_at hl45 3 rfl) ?_
                      refine lv_iconst (pc := 104) (v := (-1)) E.1 E.2.1 dX11_run_104 (by decide +kernel) ?_
                      refine lv_ixor (pc := 105) E.1 E.2.1 dX11_run_105 ?_
                      refine lv_topi (fun v_80 ev_80 => ?_)
                      refine lv_iand (pc := 106) E.1 E.2.1 dX11_run_106 ?_
                      refine lv_topi (fun v_81 ev_81 => ?_)
                      refine ck_i (pc := 107) (ws' := (fun (u : Unit) => (WZ_Mrun cI cJ mv mr (upd (upd (upd (upd (upd (upd (upd M_40 86 nsspoilt_64) 87 nslamp_69) 88 nsnight_70) 89 nssnow_67) 90 nsdraws_66) 91 nsgone_68) 92 nslines_65) (va_up (va_up (va_up (va_up (va_up (va_up (va_up (va_up (va_up (va_up (va_up M_41 4 gbook_58) 9 greadings_53) 41 gpmeasured_54) 42 gpmeasuredIn_55) 55 gtstack_56) 65 gustack_57) 81 gsoil_59) 82 gsowed_63) 83 gshad_61) 84 gslast_62) 85 gsdone_60) M_42))) [false, false, false, false, false, false, false, false, false, false, false, false, false, false, false, false, false, false, false, false, false, false, false, false, false, false, false, false, false, false, false, false, false, false, false, false, false, false, false, false, false, false, false, false, false, false, false, false, false, false, false, false, false, false, false, false, false] hw71 rfl (fun hC_ => (rn_S (As := [.int v_81]) (rest := []) E hw71 (t_least l D cI cJ _ mr (upd (upd (upd (upd (upd (upd (upd M_40 86 nsspoilt_64) 87 nslamp_69) 88 nsnight_70) 89 nssnow_67) 90 nsdraws_66) 91 nsgone_68) 92 nslines_65) (va_up (va_up (va_up (va_up (va_up (va_up (va_up (va_up (va_up (va_up (va_up M_41 4 gbook_58) 9 greadings_53) 41 gpmeasured_54) 42 gpmeasuredIn_55) 55 gtstack_56) 65 gustack_57) 81 gsoil_59) 82 gsowed_63) 83 gshad_61) 84 gslast_62) 85 gsdone_60) M_42 v_81) (gdS q_1147 q_1148 q_151 q_1149) hdV_X11_least ⟨rfl, rfl⟩ ⟨(Nat.le_of_ble_eq_true rfl), (Nat.le_of_ble_eq_true rfl)⟩ ⟨(Nat.le_of_ble_eq_true rfl), (Nat.le_of_ble_eq_true rfl)⟩ xT_b xT_at _ hC_ (nd_T _ 0) rfl hl45.1 rfl (Nat.le_of_ble_eq_true rfl) dX11_run_107)) rfl (fun _ => rfl) (fun _ => rfl) (fun r_83 u_82 H1 locs hp hw84 => ?_)
                      generalize H1 = H at hw84 ⊢
                      have hw85 : WD D A s.heap (WZ_Mrun cI cJ mv mr (upd (upd (upd (upd (upd (upd (upd M_40 86 nsspoilt_64) 87 nslamp_69) 88 nsnight_70) 89 nssnow_67) 90 nsdraws_66) 91 nsgone_68) 92 nslines_65) (va_up (va_up (va_up (va_up (va_up (va_up (va_up (va_up (va_up (va_up (va_up M_41 4 gbook_58) 9 greadings_53) 41 gpmeasured_54) 42 gpmeasuredIn_55) 55 gtstack_56) 65 gustack_57) 81 gsoil_59) 82 gsowed_63) 83 gshad_61) 84 gslast_62) 85 gsdone_60) M_42) H locs := hw84
                      refine lv_istore (pc := 110) (lv' := [(5, .int r_83), (6, .int x_39), (4, .int x_37), (3, .int nspoilt_17), (0, .ref (mr 0)), (1, .int z_n), (2, .int z_what)]) E.1 E.2.1 dX11_run_110 hl45 (by decide) rfl (fun ls hl86 => ?_)
                      obtain ⟨v_87, ev_87⟩ : ∃ z : Int32, x_39 + Int32.ofInt (1) = z := ⟨_, rfl⟩
                      have hv_87 : v_87.toInt = x_39.toInt + (1) := by rw [← ev_87]; exact incE rfl (by decide) (by omega)
                      refine lv_iinc (pc := 112) (v := v_87) (lv' := [(6, .int v_87), (5, .int r_83), (4, .int x_37), (3, .int nspoilt_17), (0, .ref (mr 0)), (1, .int z_n), (2, .int z_what)]) E.1 E.2.1 dX11_run_112 hl86 (k := 1) rfl ev_87 (by decide) rfl (fun ls hl88 => ?_)
                      refine lv_goto (pc := 115) (tgt := 66) E.1 E.2.1 dX11_run_115 (by decide) ?_
                      exact ih_43 x_37 r_83 v_87 (upd (upd (upd (upd (upd (upd (upd M_40 86 nsspoilt_64) 87 nslamp_69) 88 nsnight_70) 89 nssnow_67) 90 nsdraws_66) 91 nsgone_68) 92 nslines_65) (va_up (va_up (va_up (va_up (va_up (va_up (va_up (va_up (va_up (va_up (va_up M_41 4 gbook_58) 9 greadings_53) 41 gpmeasured_54) 42 gpmeasuredIn_55) 55 gtstack_56) 65 gustack_57) 81 gsoil_59) 82 gsowed_63) 83 gshad_61) 84 gslast_62) 85 gsdone_60) M_42 _ _ _ ⟨hi_42_0, hi_42_1, hi_42_2, hi_42_3, hi_42_4, hi_42_5, hi_42_6, hi_42_7, hi_42_8, hi_42_9, ⟨hp_74, hp_75⟩, (by show 0 ≤ v_87.toInt; omega), (by show v_87.toInt ≤ z_n.toInt; omega), hi_42_13, (by show x_37.toInt ≤ v_87.toInt; omega), hi_42_15, hi_42_16, hi_42_17, hi_42_18, hi_42_19, hi_42_20⟩ (by omega) hw85 (lv_sub hl88 [0, 1, 2, 3, 4, 5, 6] rfl)
                  · skip
                    have hc_76 := eqE (a := r_51.toInt) (b := 0) rfl (by decide +kernel) c_76
                    obtain ⟨v_89, ev_89⟩ : ∃ z : Int32, x_37 + Int32.ofInt (1) = z := ⟨_, rfl⟩
                    have hv_89 : v_89.toInt = x_37.toInt + (1) := by rw [← ev_89]; exact incE rfl (by decide) (by omega)
                    refine lv_iinc (pc := 87) (v := v_89) (lv' := [(4, .int v_89), (6, .int x_39), (5, .int x_38), (3, .int nspoilt_17), (0, .ref (mr 0)), (1, .int z_n), (2, .int z_what)]) E.1 E.2.1 dX11_run_87 hl45 (k := 2) rfl ev_89 (by decide) rfl (fun ls hl90 => ?_)
                    refine lv_iload (pc := 90) E.1 E.2.1 dX11_run_90 (lv_at hl90 2 rfl) ?_
                    refine lv_iconst (pc := 92) (v := (-1)) E.1 E.2.1 dX11_run_92 (by decide +kernel) ?_
                    refine lv_icmp_ne (pc := 93) (tgt := 112) E.1 E.2.1 dX11_run_93 (by decide) (fun c_91 => ?_) (fun c_91 => ?_)
                    · skip
                      have hc_91 := neE (a := x_38.toInt) (b := (-1)) rfl (by decide +kernel) c_91
                      obtain ⟨v_92, ev_92⟩ : ∃ z : Int32, x_39 + Int32.ofInt (1) = z := ⟨_, rfl⟩
                      have hv_92 : v_92.toInt = x_39.toInt + (1) := by rw [← ev_92]; exact incE rfl (by decide) (by omega)
                      refine lv_iinc (pc := 112) (v := v_92) (lv' := [(6, .int v_92), (4, .int v_89), (5, .int x_38), (3, .int nspoilt_17), (0, .ref (mr 0)), (1, .int z_n), (2, .int z_what)]) E.1 E.2.1 dX11_run_112 hl90 (k := 1) rfl ev_92 (by decide) rfl (fun ls hl93 => ?_)
                      refine lv_goto (pc := 115) (tgt := 66) E.1 E.2.1 dX11_run_115 (by decide) ?_
                      exact ih_43 v_89 x_38 v_92 (upd (upd (upd (upd (upd (upd (upd M_40 86 nsspoilt_64) 87 nslamp_69) 88 nsnight_70) 89 nssnow_67) 90 nsdraws_66) 91 nsgone_68) 92 nslines_65) (va_up (va_up (va_up (va_up (va_up (va_up (va_up (va_up (va_up (va_up (va_up M_41 4 gbook_58) 9 greadings_53) 41 gpmeasured_54) 42 gpmeasuredIn_55) 55 gtstack_56) 65 gustack_57) 81 gsoil_59) 82 gsowed_63) 83 gshad_61) 84 gslast_62) 85 gsdone_60) M_42 _ _ _ ⟨hi_42_0, hi_42_1, hi_42_2, hi_42_3, hi_42_4, hi_42_5, hi_42_6, hi_42_7, hi_42_8, hi_42_9, ⟨hp_74, hp_75⟩, (by show 0 ≤ v_92.toInt; omega), (by show v_92.toInt ≤ z_n.toInt; omega), (by show 0 ≤ v_89.toInt; omega), (by show v_89.toInt ≤ v_92.toInt; omega), hi_42_15, hi_42_16, hi_42_17, hi_42_18, hi_42_19, hi_42_20⟩ (by omega) hw71 (lv_sub hl93 [0, 2, 1, 3, 4, 5, 6] rfl)
                    · skip
                      have hc_91 := eqE (a := x_38.toInt) (b := (-1)) rfl (by decide +kernel) c_91
                      refine lv_aload_n (pc := 96) E.1 E.2.1 dX11_run_96 rfl (lv_at hl90 4 rfl) ?_
                      refine x_get (pc := 97) (T := TX11) (N := 13) (ci := 11) (v := .ref (mr 80)) E hw71 inX11 0 7 q_613 rfl rfl (by decide) rfl rfl dX11_run_97 ?_
                      refine x_get (pc := 100) (T := TX4) (N := 12) (ci := 4) (v := .int nsspoilt_64) E hw71 inX4 51 5 q_212 rfl rfl (by decide) rfl rfl dX11_run_100 ?_
                      refine lv_iload_n (pc := 103) E.1 E.2.1 dX11_run_103 rfl (lv_at hl90 3 rfl) ?_
                      refine lv_iconst (pc := 104) (v := (-1)) E.1 E.2.1 dX11_run_104 (by decide +kernel) ?_
                      refine lv_ixor (pc := 105) E.1 E.2.1 dX11_run_105 ?_
                      refine lv_topi (fun v_94 ev_94 => ?_)
                      refine lv_iand (pc := 106) E.1 E.2.1 dX11_run_106 ?_
                      refine lv_topi (fun v_95 ev_95 => ?_)
                      refine ck_i (pc := 107) (ws' := (fun (u : Unit) => (WZ_Mrun cI cJ mv mr (upd (upd (upd (upd (upd (upd (upd M_40 86 nsspoilt_64) 87 nslamp_69) 88 nsnight_70) 89 nssnow_67) 90 nsdraws_66) 91 nsgone_68) 92 nslines_65) (va_up (va_up (va_up (va_up (va_up (va_up (va_up (va_up (va_up (va_up (va_up M_41 4 gbook_58) 9 greadings_53) 41 gpmeasured_54) 42 gpmeasuredIn_55) 55 gtstack_56) 65 gustack_57) 81 gsoil_59) 82 gsowed_63) 83 gshad_61) 84 gslast_62) 85 gsdone_60) M_42))) [false, false, false, false, false, false, false, false, false, false, false, false, false, false, false, false, false, false, false, false, false, false, false, false, false, false, false, false, false, false, false, false, false, false, false, false, false, false, false, false, false, false, false, false, false, false, false, false, false, false, false, false, false, false, false, false, false] hw71 rfl (fun hC_ => (rn_S (As := [.int v_95]) (rest := []) E hw71 (t_least l D cI cJ _ mr (upd (upd (upd (upd (upd (upd (upd M_40 86 nsspoilt_64) 87 nslamp_69) 88 nsnight_70) 89 nssnow_67) 90 nsdraws_66) 91 nsgone_68) 92 nslines_65) (va_up (va_up (va_up (va_up (va_up (va_up (va_up (va_up (va_up (va_up (va_up M_41 4 gbook_58) 9 greadings_53) 41 gpmeasured_54) 42 gpmeasuredIn_55) 55 gtstack_56) 65 gustack_57) 81 gsoil_59) 82 gsowed_63) 83 gshad_61) 84 gslast_62) 85 gsdone_60) M_42 v_95) (gdS q_1147 q_1148 q_151 q_1149) hdV_X11_least ⟨rfl, rfl⟩ ⟨(Nat.le_of_ble_eq_true rfl), (Nat.le_of_ble_eq_true rfl)⟩ ⟨(Nat.le_of_ble_eq_true rfl), (Nat.le_of_ble_eq_true rfl)⟩ xT_b xT_at _ hC_ (nd_T _ 0) rfl hl90.1 rfl (Nat.le_of_ble_eq_true rfl) dX11_run_107)) rfl (fun _ => rfl) (fun _ => rfl) (fun r_97 u_96 H1 locs hp hw98 => ?_)
                      generalize H1 = H at hw98 ⊢
                      have hw99 : WD D A s.heap (WZ_Mrun cI cJ mv mr (upd (upd (upd (upd (upd (upd (upd M_40 86 nsspoilt_64) 87 nslamp_69) 88 nsnight_70) 89 nssnow_67) 90 nsdraws_66) 91 nsgone_68) 92 nslines_65) (va_up (va_up (va_up (va_up (va_up (va_up (va_up (va_up (va_up (va_up (va_up M_41 4 gbook_58) 9 greadings_53) 41 gpmeasured_54) 42 gpmeasuredIn_55) 55 gtstack_56) 65 gustack_57) 81 gsoil_59) 82 gsowed_63) 83 gshad_61) 84 gslast_62) 85 gsdone_60) M_42) H locs := hw98
                      refine lv_istore (pc := 110) (lv' := [(5, .int r_97), (4, .int v_89), (6, .int x_39), (3, .int nspoilt_17), (0, .ref (mr 0)), (1, .int z_n), (2, .int z_what)]) E.1 E.2.1 dX11_run_110 hl90 (by decide) rfl (fun ls hl100 => ?_)
                      obtain ⟨v_101, ev_101⟩ : ∃ z : Int32, x_39 + Int32.ofInt (1) = z := ⟨_, rfl⟩
                      have hv_101 : v_101.toInt = x_39.toInt + (1) := by rw [← ev_101]; exact incE rfl (by decide) (by omega)
                      refine lv_iinc (pc := 112) (v := v_101) (lv' := [(6, .int v_101), (5, .int r_97), (4, .int v_89), (3, .int nspoilt_17), (0, .ref (mr 0)), (1, .int z_n), (2, .int z_what)]) E.1 E.2.1 dX11_run_112 hl100 (k := 2) rfl ev_101 (by decide) rfl (fun ls hl102 => ?_)
                      refine lv_goto (pc := 115) (tgt := 66) E.1 E.2.1 dX11_run_115 (by decide) ?_
                      exact ih_43 v_89 r_97 v_101 (upd (upd (upd (upd (upd (upd (upd M_40 86 nsspoilt_64) 87 nslamp_69) 88 nsnight_70) 89 nssnow_67) 90 nsdraws_66) 91 nsgone_68) 92 nslines_65) (va_up (va_up (va_up (va_up (va_up (va_up (va_up (va_up (va_up (va_up (va_up M_41 4 gbook_58) 9 greadings_53) 41 gpmeasured_54) 42 gpmeasuredIn_55) 55 gtstack_56) 65 gustack_57) 81 gsoil_59) 82 gsowed_63) 83 gshad_61) 84 gslast_62) 85 gsdone_60) M_42 _ _ _ ⟨hi_42_0, hi_42_1, hi_42_2, hi_42_3, hi_42_4, hi_42_5, hi_42_6, hi_42_7, hi_42_8, hi_42_9, ⟨hp_74, hp_75⟩, (by show 0 ≤ v_101.toInt; omega), (by show v_101.toInt ≤ z_n.toInt; omega), (by show 0 ≤ v_89.toInt; omega), (by show v_89.toInt ≤ v_101.toInt; omega), hi_42_15, hi_42_16, hi_42_17, hi_42_18, hi_42_19, hi_42_20⟩ (by omega) hw99 (lv_sub hl102 [0, 1, 2, 3, 4, 5, 6] rfl)
            exact loop_36 (Int.toNat (z_n.toInt - 0) + 1) 0 (-1) 0 (upd (upd (upd (upd (upd (upd (upd mi 86 nspoilt_17) 87 nlamp_18) 88 nnight_19) 89 nsnow_20) 90 ndraws_21) 91 ngone_22) 92 nlines_23) (va_up (va_up (va_up (va_up (va_up mf 81 goil_12) 82 gowed_13) 83 ghad_14) 84 glast_15) 85 gdone_16) mg _ _ _ ⟨h0, h1, h2, h3, h4, h5, h6, h7, rfl, rfl, (by show 0 ≤ ngone_22.toInt ∧ ngone_22.toInt ≤ 200; omega), (by show 0 ≤ (0 : Int32).toInt; have k_0 : (0 : Int32).toInt = 0 := (by decide +kernel); omega), (by show (0 : Int32).toInt ≤ z_n.toInt; have k_0 : (0 : Int32).toInt = 0 := (by decide +kernel); omega), (by show 0 ≤ (0 : Int32).toInt; have k_0 : (0 : Int32).toInt = 0 := (by decide +kernel); omega), (by show (0 : Int32).toInt ≤ (0 : Int32).toInt; have k_0 : (0 : Int32).toInt = 0 := (by decide +kernel); omega), a_p_from, a_p_to, a_t_marks, a_u_marks, rfl, rfl⟩ (by have k_0 : (0 : Int32).toInt = 0 := (by decide +kernel); have k_1 : ((-1) : Int32).toInt = -1 := (by decide +kernel); have k_2 : (0 : Int32).toInt = 0 := (by decide +kernel); omega) hw24 (lv_sub hl35 [0, 1, 2, 3, 4, 5, 6] rfl)
          · skip
            have hc_8 := eqE (a := (mi 32).toInt) (b := 0) rfl (by decide +kernel) c_8
            refine lv_iconst (pc := 33) (v := (-1)) E.1 E.2.1 dX11_run_33 (by decide +kernel) ?_
            exact em_i (w1 := (fun (u : (Nat → Int32) × (Nat → Nat → Int32) × (Nat → Nat → Int64)) => (WZ_Mrun cI cJ mv mr u.1 u.2.1 u.2.2))) E hr hlk (mi, mf, mg) hw1 ⟨h0.1, h0.2, h1.1, h1.2, h2.1, h2.2, h3.1, h3.2, h4.1, h4.2, h5.1, h5.2, h6.1, h6.2, h7.1, h7.2, rfl, rfl, a_p_from, a_p_to, a_t_marks, a_u_marks, rfl, rfl⟩ (Nat.le_of_ble_eq_true rfl) (Nat.le_of_ble_eq_true rfl) dX11_run_34
