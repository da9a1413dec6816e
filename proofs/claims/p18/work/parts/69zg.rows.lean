set_option maxHeartbeats 4000000 in
set_option maxRecDepth 100000 in
theorem t_sure (l : Launch) (D : va_G) (cI cJ : ClassId) (sz : Nat) (mr : Nat → Nat) (mi : Nat → Int32) (mf : Nat → Nat → Int32) (mg : Nat → Nat → Int64) (z_house : Int32) (z_goal : Int32) (z_k : Int32) (mv : Nat → Value) (h0 : 0 ≤ (mi 1).toInt ∧ (mi 1).toInt ≤ 5) (h1 : 0 ≤ (mi 2).toInt ∧ (mi 2).toInt ≤ 6) (h2 : 0 ≤ (mi 24).toInt ∧ (mi 24).toInt ≤ 200) (h3 : 0 ≤ (mi 32).toInt ∧ (mi 32).toInt ≤ 10) (h4 : 0 ≤ (mi 40).toInt ∧ (mi 40).toInt ≤ 40) (h5 : 0 ≤ (mi 49).toInt ∧ (mi 49).toInt ≤ 10) (h6 : 0 ≤ (mi 72).toInt ∧ (mi 72).toInt ≤ 200) (h7 : 0 ≤ (mi 79).toInt ∧ (mi 79).toInt ≤ 8) (a_p_from : p9 (mf 36)) (a_p_to : p9 (mf 37)) (a_t_marks : m4 (mf 53)) (a_u_marks : m4 (mf 63)) : Met l yX11_sure (Cond.code yX11_sure cX11_sure 4 (some .int) :: GW) ({ frames := 11, cells := 0, slots := 0, locals := 263 } : Room) (va_Pc [.ref (mr 0), .int z_house, .int z_goal, .int z_k] (PW D cI cJ sz (WZ_MV cI cJ mv mr mi mf mg) xT)) (va_Qi (fun (r : Int32) (u : (Nat → Int32) × (Nat → Nat → Int32) × (Nat → Nat → Int64)) => (0 ≤ (u.1 1).toInt) ∧ ((u.1 1).toInt ≤ 5) ∧ (0 ≤ (u.1 2).toInt) ∧ ((u.1 2).toInt ≤ 6) ∧ (0 ≤ (u.1 24).toInt) ∧ ((u.1 24).toInt ≤ 200) ∧ (0 ≤ (u.1 32).toInt) ∧ ((u.1 32).toInt ≤ 10) ∧ (0 ≤ (u.1 40).toInt) ∧ ((u.1 40).toInt ≤ 40) ∧ (0 ≤ (u.1 49).toInt) ∧ ((u.1 49).toInt ≤ 10) ∧ (0 ≤ (u.1 72).toInt) ∧ ((u.1 72).toInt ≤ 200) ∧ (0 ≤ (u.1 79).toInt) ∧ ((u.1 79).toInt ≤ 8) ∧ ((u.1 32).toInt = (mi 32).toInt) ∧ ((u.1 79).toInt = (mi 79).toInt) ∧ (p9 (u.2.1 36)) ∧ (p9 (u.2.1 37)) ∧ (m4 (u.2.1 53)) ∧ (m4 (u.2.1 63)) ∧ ((Eq (mf 27)) (u.2.1 27)) ∧ ((Eq (mf 31)) (u.2.1 31))) (fun u => QW D cI cJ (va_A (WZ_MV cI cJ mv mr mi mf mg) sz) ((fun (u : (Nat → Int32) × (Nat → Nat → Int32) × (Nat → Nat → Int64)) => (WZ_MV cI cJ mv mr u.1 u.2.1 u.2.2)) u)) (va_A (WZ_MV cI cJ mv mr mi mf mg) sz)) 0 0 (va_A (WZ_MV cI cJ mv mr mi mf mg) sz) := by
  refine mk_met (y := yX11_sure) (bytes := cX11_sure) (maxL := 4) (avs := [.ref (mr 0), .int z_house, .int z_goal, .int z_k]) (WS := (WZ_MV cI cJ mv mr mi mf mg)) (Qf := fun A => va_Qi (fun (r : Int32) (u : (Nat → Int32) × (Nat → Nat → Int32) × (Nat → Nat → Int64)) => (0 ≤ (u.1 1).toInt) ∧ ((u.1 1).toInt ≤ 5) ∧ (0 ≤ (u.1 2).toInt) ∧ ((u.1 2).toInt ≤ 6) ∧ (0 ≤ (u.1 24).toInt) ∧ ((u.1 24).toInt ≤ 200) ∧ (0 ≤ (u.1 32).toInt) ∧ ((u.1 32).toInt ≤ 10) ∧ (0 ≤ (u.1 40).toInt) ∧ ((u.1 40).toInt ≤ 40) ∧ (0 ≤ (u.1 49).toInt) ∧ ((u.1 49).toInt ≤ 10) ∧ (0 ≤ (u.1 72).toInt) ∧ ((u.1 72).toInt ≤ 200) ∧ (0 ≤ (u.1 79).toInt) ∧ ((u.1 79).toInt ≤ 8) ∧ ((u.1 32).toInt = (mi 32).toInt) ∧ ((u.1 79).toInt = (mi 79).toInt) ∧ (p9 (u.2.1 36)) ∧ (p9 (u.2.1 37)) ∧ (m4 (u.2.1 53)) ∧ (m4 (u.2.1 63)) ∧ ((Eq (mf 27)) (u.2.1 27)) ∧ ((Eq (mf 31)) (u.2.1 31))) (fun u => QW D cI cJ A ((fun (u : (Nat → Int32) × (Nat → Nat → Int32) × (Nat → Nat → Int64)) => (WZ_MV cI cJ mv mr u.1 u.2.1 u.2.2)) u)) A) (by decide) (Nat.le_of_ble_eq_true rfl) ?_
  intro p e s m below meth c A ls E hr hlk hnm hX hw1 hl2
  have hl3 : lv_has ls 4 [(0, .ref (mr 0)), (1, .int z_house), (2, .int z_goal), (3, .int z_k)] := hl2
  refine lv_aload_n (pc := 0) E.1 E.2.1 dX11_sure_0 rfl (lv_at hl3 0 rfl) ?_
  refine x_get (pc := 1) (T := TX11) (N := 13) (ci := 11) (v := .ref (mr 3)) E hw1 inX11 0 0 q_606 rfl rfl (by decide) rfl rfl dX11_sure_1 ?_
  refine x_get (pc := 4) (T := TX10) (N := 17) (ci := 10) (v := .ref (mr 26)) E hw1 inX10 1 1 q_463 rfl rfl (by decide) rfl rfl dX11_sure_4 ?_
  refine lv_iload_n (pc := 7) E.1 E.2.1 dX11_sure_7 rfl (lv_at hl3 1 rfl) ?_
  refine ck_i (pc := 8) (ws' := (fun (u : Unit) => (WZ_MV cI cJ mv mr mi mf mg))) [false, false, false, false, false, false, false, false, false, false, false, false, false, true, true, true, true, true, true, true, true, false, false, false, false, false, false, false, false, false, false, false, false, false, false, false, false, false, false, false, false, false, false, false, false, false, false, false, false, false, false] hw1 rfl (fun hC_ => (rn_V (As := [.int z_house]) (rest := []) E hw1 (t_has l D cI cJ _ (shf 26 mr) (shf 26 mi) (shf 26 mf) (shf 26 mg) z_house (vl [mv 10])) (gdV q_674 q_675 q_676 q_154 q_677) hdV_X1_has ⟨rfl, rfl⟩ ⟨(Nat.le_of_ble_eq_true rfl), (Nat.le_of_ble_eq_true rfl)⟩ ⟨(Nat.le_of_ble_eq_true rfl), (Nat.le_of_ble_eq_true rfl)⟩ xT_b xT_at 13 1 rfl rfl rfl _ hC_ (nd_T _ 0) rfl hl3.1 rfl (Nat.le_of_ble_eq_true rfl) dX11_sure_8)) rfl (fun _ => rfl) (fun _ => rfl) (fun r_5 u_4 H1 locs hp hw6 => ?_)
  generalize H1 = H at hw6 ⊢
  have hw7 : WD D A s.heap (WZ_MV cI cJ mv mr mi mf mg) H locs := hw6
  have hp_8 := hp
  rcases hp_8 with ⟨rfl, ha_9, ha_10, ha_11⟩ | ⟨rfl, ha_12⟩ | ⟨rfl, ha_13⟩ | ⟨rfl, ha_14⟩
  · skip
    have ha_9 : 0 ≤ z_house.toInt := ha_9
    have ha_10 : z_house.toInt + 1 ≤ (mi 32).toInt := ha_10
    have ha_11 : z_house.toInt ≤ 9 := ha_11
    refine lv_if_eq (pc := 11) (tgt := 39) E.1 E.2.1 dX11_sure_11 (by decide) (fun c_15 => absurd c_15 (mneE (a := 1) (b := 0) (by decide +kernel) (by decide +kernel) (by omega))) (fun _ => ?_)
    refine lv_aload_n (pc := 14) E.1 E.2.1 dX11_sure_14 rfl (lv_at hl3 0 rfl) ?_
    refine x_get (pc := 15) (T := TX11) (N := 13) (ci := 11) (v := .ref (mr 3)) E hw7 inX11 0 0 q_606 rfl rfl (by decide) rfl rfl dX11_sure_15 ?_
    refine x_get (pc := 18) (T := TX10) (N := 17) (ci := 10) (v := .ref (mr 26)) E hw7 inX10 1 1 q_463 rfl rfl (by decide) rfl rfl dX11_sure_18 ?_
    refine lv_iload_n (pc := 21) E.1 E.2.1 dX11_sure_21 rfl (lv_at hl3 2 rfl) ?_
    refine ck_i (pc := 22) (ws' := (fun (u : Unit) => (WZ_MV cI cJ mv mr mi mf mg))) [false, false, false, false, false, false, false, false, false, false, false, false, false, true, true, true, true, true, true, true, true, false, false, false, false, false, false, false, false, false, false, false, false, false, false, false, false, false, false, false, false, false, false, false, false, false, false, false, false, false, false] hw7 rfl (fun hC_ => (rn_V (As := [.int z_goal]) (rest := []) E hw7 (t_has l D cI cJ _ (shf 26 mr) (shf 26 mi) (shf 26 mf) (shf 26 mg) z_goal (vl [mv 10])) (gdV q_674 q_675 q_676 q_154 q_677) hdV_X1_has ⟨rfl, rfl⟩ ⟨(Nat.le_of_ble_eq_true rfl), (Nat.le_of_ble_eq_true rfl)⟩ ⟨(Nat.le_of_ble_eq_true rfl), (Nat.le_of_ble_eq_true rfl)⟩ xT_b xT_at 13 1 rfl rfl rfl _ hC_ (nd_T _ 0) rfl hl3.1 rfl (Nat.le_of_ble_eq_true rfl) dX11_sure_22)) rfl (fun _ => rfl) (fun _ => rfl) (fun r_17 u_16 H1 locs hp hw18 => ?_)
    generalize H1 = H at hw18 ⊢
    have hw19 : WD D A s.heap (WZ_MV cI cJ mv mr mi mf mg) H locs := hw18
    have hp_20 := hp
    rcases hp_20 with ⟨rfl, ha_21, ha_22, ha_23⟩ | ⟨rfl, ha_24⟩ | ⟨rfl, ha_25⟩ | ⟨rfl, ha_26⟩
    · skip
      have ha_21 : 0 ≤ z_goal.toInt := ha_21
      have ha_22 : z_goal.toInt + 1 ≤ (mi 32).toInt := ha_22
      have ha_23 : z_goal.toInt ≤ 9 := ha_23
      refine lv_if_eq (pc := 25) (tgt := 39) E.1 E.2.1 dX11_sure_25 (by decide) (fun c_27 => absurd c_27 (mneE (a := 1) (b := 0) (by decide +kernel) (by decide +kernel) (by omega))) (fun _ => ?_)
      refine lv_iload_n (pc := 28) E.1 E.2.1 dX11_sure_28 rfl (lv_at hl3 3 rfl) ?_
      refine lv_iconst (pc := 29) (v := 1) E.1 E.2.1 dX11_sure_29 (by decide +kernel) ?_
      refine lv_icmp_lt (pc := 30) (tgt := 39) E.1 E.2.1 dX11_sure_30 (by decide) (fun c_28 => ?_) (fun c_28 => ?_)
      · skip
        have hc_28 := ltE (a := z_k.toInt) (b := 1) rfl (by decide +kernel) c_28
        refine lv_iconst (pc := 39) (v := (-1)) E.1 E.2.1 dX11_sure_39 (by decide +kernel) ?_
        exact em_i (w1 := (fun (u : (Nat → Int32) × (Nat → Nat → Int32) × (Nat → Nat → Int64)) => (WZ_MV cI cJ mv mr u.1 u.2.1 u.2.2))) E hr hlk (mi, mf, mg) hw19 ⟨h0.1, h0.2, h1.1, h1.2, h2.1, h2.2, h3.1, h3.2, h4.1, h4.2, h5.1, h5.2, h6.1, h6.2, h7.1, h7.2, rfl, rfl, a_p_from, a_p_to, a_t_marks, a_u_marks, rfl, rfl⟩ (Nat.le_of_ble_eq_true rfl) (Nat.le_of_ble_eq_true rfl) dX11_sure_40
      · skip
        have hc_28 := nltE (a := z_k.toInt) (b := 1) rfl (by decide +kernel) c_28
        refine lv_iload_n (pc := 33) E.1 E.2.1 dX11_sure_33 rfl (lv_at hl3 3 rfl) ?_
        refine lv_bipush (pc := 34) (v := 9) E.1 E.2.1 dX11_sure_34 (by decide +kernel) ?_
        refine lv_icmp_le (pc := 36) (tgt := 41) E.1 E.2.1 dX11_sure_36 (by decide) (fun c_29 => ?_) (fun c_29 => ?_)
        · skip
          have hc_29 := leE (a := z_k.toInt) (b := 9) rfl (by decide +kernel) c_29
          refine lv_aload_n (pc := 41) E.1 E.2.1 dX11_sure_41 rfl (lv_at hl3 0 rfl) ?_
          refine x_get (pc := 42) (T := TX11) (N := 13) (ci := 11) (v := .ref (mr 3)) E hw19 inX11 0 0 q_606 rfl rfl (by decide) rfl rfl dX11_sure_42 ?_
          refine lv_iload_n (pc := 45) E.1 E.2.1 dX11_sure_45 rfl (lv_at hl3 2 rfl) ?_
          refine lv_iload_n (pc := 46) E.1 E.2.1 dX11_sure_46 rfl (lv_at hl3 3 rfl) ?_
          refine ck_v (pc := 47) (ws' := (fun (u : (Nat → Int32) × (Nat → Int32) × (Nat → Int32) × (Nat → Int32) × (Nat → Int32)) => (WZ_MV cI cJ mv mr mi (va_up (va_up (va_up (va_up (va_up mf 10 u.2.2.1) 11 u.2.2.2.1) 12 u.2.2.2.2) 41 u.1) 42 u.2.1) mg))) [false, true, true, true, true, true, true, true, true, true, true, true, true, true, true, true, true, true, true, true, true, true, true, true, true, true, true, true, true, true, true, true, true, true, true, true, true, true, true, true, true, true, true, true, true, true, true, true, true, true, true] hw19 rfl (fun hC_ => (rn_V (As := [.int z_goal, .int z_k]) (rest := []) E hw19 (t_weighReaching l D cI cJ _ (shf 3 mr) (shf 3 mi) (shf 3 mf) (shf 3 mg) z_goal z_k (vl [mv 10]) h3 h4 h5 (by show 1 ≤ z_k.toInt ∧ z_k.toInt ≤ 9; omega) a_p_from a_p_to) (gdV q_1304 q_1305 q_1306 q_152 q_1307) hdV_X10_weighReaching ⟨rfl, rfl⟩ ⟨(Nat.le_of_ble_eq_true rfl), (Nat.le_of_ble_eq_true rfl)⟩ ⟨(Nat.le_of_ble_eq_true rfl), (Nat.le_of_ble_eq_true rfl)⟩ xT_b xT_at 1 10 rfl rfl rfl _ hC_ (nd_T _ 0) rfl hl3.1 rfl (Nat.le_of_ble_eq_true rfl) dX11_sure_47)) rfl (fun _ => rfl) (fun _ => rfl) (fun u_30 H1 locs hp hw32 => ?_)
          obtain ⟨gpmeasured_33, gpmeasuredIn_34, gchance_35, gchanceAhead_36, glikely_37⟩ := u_30
          generalize H1 = H at hw32 ⊢
          have hw38 : WD D A s.heap (WZ_MV cI cJ mv mr mi (va_up (va_up (va_up (va_up (va_up mf 10 gchance_35) 11 gchanceAhead_36) 12 glikely_37) 41 gpmeasured_33) 42 gpmeasuredIn_34) mg) H locs := hw32
          refine lv_aload_n (pc := 50) E.1 E.2.1 dX11_sure_50 rfl (lv_at hl3 0 rfl) ?_
          refine x_get (pc := 51) (T := TX11) (N := 13) (ci := 11) (v := .ref (mr 3)) E hw38 inX11 0 0 q_606 rfl rfl (by decide) rfl rfl dX11_sure_51 ?_
          refine x_get (pc := 54) (T := TX10) (N := 17) (ci := 10) (v := .ref (mr 12)) E hw38 inX10 1 16 q_494 rfl rfl (by decide) rfl rfl dX11_sure_54 ?_
          refine lv_iload_n (pc := 57) E.1 E.2.1 dX11_sure_57 rfl (lv_at hl3 1 rfl) ?_
          refine x_iald (pc := 58) (f := glikely_37) E hw38 6 rfl (inbE (a := z_house.toInt) rfl (by omega)) dX11_sure_58 ?_
          refine lv_topi (fun v_39 ev_39 => ?_)
          exact em_i (w1 := (fun (u : (Nat → Int32) × (Nat → Nat → Int32) × (Nat → Nat → Int64)) => (WZ_MV cI cJ mv mr u.1 u.2.1 u.2.2))) E hr hlk (mi, (va_up (va_up (va_up (va_up (va_up mf 10 gchance_35) 11 gchanceAhead_36) 12 glikely_37) 41 gpmeasured_33) 42 gpmeasuredIn_34), mg) hw38 ⟨h0.1, h0.2, h1.1, h1.2, h2.1, h2.2, h3.1, h3.2, h4.1, h4.2, h5.1, h5.2, h6.1, h6.2, h7.1, h7.2, rfl, rfl, a_p_from, a_p_to, a_t_marks, a_u_marks, rfl, rfl⟩ (Nat.le_of_ble_eq_true rfl) (Nat.le_of_ble_eq_true rfl) dX11_sure_59
        · skip
          have hc_29 := nleE (a := z_k.toInt) (b := 9) rfl (by decide +kernel) c_29
          refine lv_iconst (pc := 39) (v := (-1)) E.1 E.2.1 dX11_sure_39 (by decide +kernel) ?_
          exact em_i (w1 := (fun (u : (Nat → Int32) × (Nat → Nat → Int32) × (Nat → Nat → Int64)) => (WZ_MV cI cJ mv mr u.1 u.2.1 u.2.2))) E hr hlk (mi, mf, mg) hw19 ⟨h0.1, h0.2, h1.1, h1.2, h2.1, h2.2, h3.1, h3.2, h4.1, h4.2, h5.1, h5.2, h6.1, h6.2, h7.1, h7.2, rfl, rfl, a_p_from, a_p_to, a_t_marks, a_u_marks, rfl, rfl⟩ (Nat.le_of_ble_eq_true rfl) (Nat.le_of_ble_eq_true rfl) dX11_sure_40
    · skip
      have ha_24 : z_goal.toInt + 1 ≤ 0 := ha_24
      refine lv_if_eq (pc := 25) (tgt := 39) E.1 E.2.1 dX11_sure_25 (by decide) (fun _ => ?_) (fun c_40 => absurd (meqE (a := 0) (b := 0) (by decide +kernel) (by decide +kernel) (by omega)) c_40)
      refine lv_iconst (pc := 39) (v := (-1)) E.1 E.2.1 dX11_sure_39 (by decide +kernel) ?_
      exact em_i (w1 := (fun (u : (Nat → Int32) × (Nat → Nat → Int32) × (Nat → Nat → Int64)) => (WZ_MV cI cJ mv mr u.1 u.2.1 u.2.2))) E hr hlk (mi, mf, mg) hw19 ⟨h0.1, h0.2, h1.1, h1.2, h2.1, h2.2, h3.1, h3.2, h4.1, h4.2, h5.1, h5.2, h6.1, h6.2, h7.1, h7.2, rfl, rfl, a_p_from, a_p_to, a_t_marks, a_u_marks, rfl, rfl⟩ (Nat.le_of_ble_eq_true rfl) (Nat.le_of_ble_eq_true rfl) dX11_sure_40
    · skip
      have ha_25 : (mi 32).toInt ≤ z_goal.toInt := ha_25
      refine lv_if_eq (pc := 25) (tgt := 39) E.1 E.2.1 dX11_sure_25 (by decide) (fun _ => ?_) (fun c_41 => absurd (meqE (a := 0) (b := 0) (by decide +kernel) (by decide +kernel) (by omega)) c_41)
      refine lv_iconst (pc := 39) (v := (-1)) E.1 E.2.1 dX11_sure_39 (by decide +kernel) ?_
      exact em_i (w1 := (fun (u : (Nat → Int32) × (Nat → Nat → Int32) × (Nat → Nat → Int64)) => (WZ_MV cI cJ mv mr u.1 u.2.1 u.2.2))) E hr hlk (mi, mf, mg) hw19 ⟨h0.1, h0.2, h1.1, h1.2, h2.1, h2.2, h3.1, h3.2, h4.1, h4.2, h5.1, h5.2, h6.1, h6.2, h7.1, h7.2, rfl, rfl, a_p_from, a_p_to, a_t_marks, a_u_marks, rfl, rfl⟩ (Nat.le_of_ble_eq_true rfl) (Nat.le_of_ble_eq_true rfl) dX11_sure_40
    · skip
      have ha_26 : 10 ≤ z_goal.toInt := ha_26
      refine lv_if_eq (pc := 25) (tgt := 39) E.1 E.2.1 dX11_sure_25 (by decide) (fun _ => ?_) (fun c_42 => absurd (meqE (a := 0) (b := 0) (by decide +kernel) (by decide +kernel) (by omega)) c_42)
      refine lv_iconst (pc := 39) (v := (-1)) E.1 E.2.1 dX11_sure_39 (by decide +kernel) ?_
      exact em_i (w1 := (fun (u : (Nat → Int32) × (Nat → Nat → Int32) × (Nat → Nat → Int64)) => (WZ_MV cI cJ mv mr u.1 u.2.1 u.2.2))) E hr hlk (mi, mf, mg) hw19 ⟨h0.1, h0.2, h1.1, h1.2, h2.1, h2.2, h3.1, h3.2, h4.1, h4.2, h5.1, h5.2, h6.1, h6.2, h7.1, h7.2, rfl, rfl, a_p_from, a_p_to, a_t_marks, a_u_marks, rfl, rfl⟩ (Nat.le_of_ble_eq_true rfl) (Nat.le_of_ble_eq_true rfl) dX11_sure_40
  · skip
    have ha_12 : z_house.toInt + 1 ≤ 0 := ha_12
    refine lv_if_eq (pc := 11) (tgt := 39) E.1 E.2.1 dX11_sure_11 (by decide) (fun _ => ?_) (fun c_43 => absurd (meqE (a := 0) (b := 0) (by decide +kernel) (by decide +kernel) (by omega)) c_43)
    refine lv_iconst (pc := 39) (v := (-1)) E.1 E.2.1 dX11_sure_39 (by decide +kernel) ?_
    exact em_i (w1 := (fun (u : (Nat → Int32) × (Nat → Nat → Int32) × (Nat → Nat → Int64)) => (WZ_MV cI cJ mv mr u.1 u.2.1 u.2.2))) E hr hlk (mi, mf, mg) hw7 ⟨h0.1, h0.2, h1.1, h1.2, h2.1, h2.2, h3.1, h3.2, h4.1, h4.2, h5.1, h5.2, h6.1, h6.2, h7.1, h7.2, rfl, rfl, a_p_from, a_p_to, a_t_marks, a_u_marks, rfl, rfl⟩ (Nat.le_of_ble_eq_true rfl) (Nat.le_of_ble_eq_true rfl) dX11_sure_40
  · skip
    have ha_13 : (mi 32).toInt ≤ z_house.toInt := ha_13
    refine lv_if_eq (pc := 11) (tgt := 39) E.1 E.2.1 dX11_sure_11 (by decide) (fun _ => ?_) (fun c_44 => absurd (meqE (a := 0) (b := 0) (by decide +kernel) (by decide +kernel) (by omega)) c_44)
    refine lv_iconst (pc := 39) (v := (-1)) E.1 E.2.1 dX11_sure_39 (by decide +kernel) ?_
    exact em_i (w1 := (fun (u : (Nat → Int32) × (Nat → Nat → Int32) × (Nat → Nat → Int64)) => (WZ_MV cI cJ mv mr u.1 u.2.1 u.2.2))) E hr hlk (mi, mf, mg) hw7 ⟨h0.1, h0.2, h1.1, h1.2, h2.1, h2.2, h3.1, h3.2, h4.1, h4.2, h5.1, h5.2, h6.1, h6.2, h7.1, h7.2, rfl, rfl, a_p_from, a_p_to, a_t_marks, a_u_marks, rfl, rfl⟩ (Nat.le_of_ble_eq_true rfl) (Nat.le_of_ble_eq_true rfl) dX11_sure_40
  · skip
    have ha_14 : 10 ≤ z_house.toInt := ha_14
    refine lv_if_eq (pc := 11) (tgt := 39) E.1 E.2.1 dX11_sure_11 (by decide) (fun _ => ?_) (fun c_45 => absurd (meqE (a := 0) (b := 0) (by decide +kernel) (by decide +kernel) (by omega)) c_45)
    refine lv_iconst (pc := 39) (v := (-1)) E.1 E.2.1 dX11_sure_39 (by decide +kernel) ?_
    exact em_i (w1 := (fun (u : (Nat → Int32) × (Nat → Nat → Int32) × (Nat → Nat → Int64)) => (WZ_MV cI cJ mv mr u.1 u.2.1 u.2.2))) E hr hlk (mi, mf, mg) hw7 ⟨h0.1, h0.2, h1.1, h1.2, h2.1, h2.2, h3.1, h3.2, h4.1, h4.2, h5.1, h5.2, h6.1, h6.2, h7.1, h7.2, rfl, rfl, a_p_from, a_p_to, a_t_marks, a_u_marks, rfl, rfl⟩ (Nat.le_of_ble_eq_true rfl) (Nat.le_of_ble_eq_true rfl) dX11_sure_40
