set_option maxHeartbeats 4000000 in
set_option maxRecDepth 100000 in
theorem s_plan (l : Launch) (D : va_G) (cI cJ : ClassId) (sz M : Nat) (mr : Nat → Nat) (mi : Nat → Int32) (mf : Nat → Nat → Int32) (mg : Nat → Nat → Int64) (z_n : Int32) (z_what : Int32) (h0 : 0 ≤ (mi 6).toInt ∧ (mi 6).toInt ≤ 10) (h1 : 0 ≤ ((mf 1) 2).toInt ∧ ((mf 1) 2).toInt ≤ 150) (h2 : 0 ≤ ((mf 1) 3).toInt ∧ ((mf 1) 3).toInt ≤ 9) (h3 : 0 ≤ ((mf 1) 5).toInt ∧ ((mf 1) 5).toInt ≤ 200) (h4 : 0 ≤ (mi 44).toInt ∧ (mi 44).toInt ≤ 10) (h5 : 0 ≤ (mi 42).toInt ∧ (mi 42).toInt ≤ 40) (a_paths : pathsOK (mf 43)) (lf_lamp : (((mi 6).toInt = 0 ∧ ((mf 1) 3).toInt = 0) ∨ ((mf 1) 3).toInt < (mi 6).toInt)) : Met l yX12_plan (Cond.code yX12_plan cX12_plan 8 (some .int) :: GW) ({ frames := 6, cells := 0, slots := 0, locals := 165 } : Room) (va_Pc [.ref M, .int z_n, .int z_what] (PW D cI cJ sz (MW cI cJ M mr mi mf mg) xT)) (va_Qi (fun (r : Int32) (u : Int32 × (Nat → Int32) × (Nat → Int32)) => True) (fun u => QW D cI cJ (va_A (MW cI cJ M mr mi mf mg) sz) ((fun (u : Int32 × (Nat → Int32) × (Nat → Int32)) => (MW cI cJ M mr (upd mi 0 u.1) (va_up (va_up mf 55 u.2.1) 59 u.2.2) mg)) u)) (va_A (MW cI cJ M mr mi mf mg) sz)) 0 0 (va_A (MW cI cJ M mr mi mf mg) sz) := by
  refine mk_met (y := yX12_plan) (bytes := cX12_plan) (maxL := 8) (avs := [.ref M, .int z_n, .int z_what]) (WS := (MW cI cJ M mr mi mf mg)) (Qf := fun A => va_Qi (fun (r : Int32) (u : Int32 × (Nat → Int32) × (Nat → Int32)) => True) (fun u => QW D cI cJ A ((fun (u : Int32 × (Nat → Int32) × (Nat → Int32)) => (MW cI cJ M mr (upd mi 0 u.1) (va_up (va_up mf 55 u.2.1) 59 u.2.2) mg)) u)) A) (by decide) (Nat.le_of_ble_eq_true rfl) ?_
  intro p e s m below meth c A ls E hr hlk hnm hX hw1 hl2
  have hl3 : lv_has ls 8 [(0, .ref M), (1, .int z_n), (2, .int z_what)] := hl2
  refine lv_aload_n (pc := 0) E.1 E.2.1 dX12_plan_0 rfl (lv_at hl3 0 rfl) ?_
  refine lv_iconst (pc := 1) (v := 0) E.1 E.2.1 dX12_plan_1 (by decide +kernel) ?_
  refine x_put (pc := 2) (T := TX12) (N := 70) (ci := 12) (ws' := (MW cI cJ M mr (upd mi 0 0) mf mg)) E hw1 inX12 tyX12_ok nmX12 0 0 q_1399 rfl rfl (by decide) rfl rfl rfl rfl (Nat.le_of_ble_eq_true rfl) rfl dX12_plan_2 (fun H locs hw4 => ?_)
  refine lv_aload_n (pc := 5) E.1 E.2.1 dX12_plan_5 rfl (lv_at hl3 0 rfl) ?_
  refine lv_iload_n (pc := 6) E.1 E.2.1 dX12_plan_6 rfl (lv_at hl3 1 rfl) ?_
  refine lv_iconst (pc := 7) (v := 1) E.1 E.2.1 dX12_plan_7 (by decide +kernel) ?_
  refine lv_bipush (pc := 8) (v := 10) E.1 E.2.1 dX12_plan_8 (by decide +kernel) ?_
  refine cm_i (pc := 10) hw4 (rn_M (As := [.int z_n, .int 1, .int 10]) (rest := []) E hw4 (s_isIn l D cI cJ _ M mr (upd mi 0 0) mf mg z_n 1 10) (gdV q_1622 q_1624 q_46 q_162 q_1625) hdV_X12_isIn ⟨rfl, rfl⟩ ⟨(Nat.le_of_ble_eq_true rfl), (Nat.le_of_ble_eq_true rfl)⟩ ⟨(Nat.le_of_ble_eq_true rfl), (Nat.le_of_ble_eq_true rfl)⟩ 12 rfl rfl rfl rfl hl3.1 rfl (Nat.le_of_ble_eq_true rfl) dX12_plan_10) (fun r_6 u_5 H1 locs hp hw7 => ?_)
  generalize H1 = H at hw7 ⊢
  have hw8 : WD D A s.heap (MW cI cJ M mr (upd mi 0 0) mf mg) H locs := hw7
  have hp_9 := hp
  rcases hp_9 with ⟨rfl, ha_10⟩ | ⟨rfl, ha_11⟩ | ⟨rfl, ha_12, ha_13⟩
  · skip
    have ha_10 : z_n.toInt < (1 : Int32).toInt := ha_10
    rw [show (1 : Int32).toInt = 1 from by decide +kernel] at ha_10
    refine lv_if_eq (pc := 13) (tgt := 47) E.1 E.2.1 dX12_plan_13 (by decide) (fun _ => ?_) (fun c_14 => absurd (meqE (a := 0) (b := 0) (by decide +kernel) (by decide +kernel) (by omega)) c_14)
    refine lv_iconst (pc := 47) (v := (-1)) E.1 E.2.1 dX12_plan_47 (by decide +kernel) ?_
    exact em_i (w1 := (fun (u : Int32 × (Nat → Int32) × (Nat → Int32)) => (MW cI cJ M mr (upd mi 0 u.1) (va_up (va_up mf 55 u.2.1) 59 u.2.2) mg))) E hr hlk (0, (mf 55), (mf 59)) hw8 trivial (Nat.le_of_ble_eq_true rfl) (Nat.le_of_ble_eq_true rfl) dX12_plan_48
  · skip
    have ha_11 : (10 : Int32).toInt < z_n.toInt := ha_11
    rw [show (10 : Int32).toInt = 10 from by decide +kernel] at ha_11
    refine lv_if_eq (pc := 13) (tgt := 47) E.1 E.2.1 dX12_plan_13 (by decide) (fun _ => ?_) (fun c_15 => absurd (meqE (a := 0) (b := 0) (by decide +kernel) (by decide +kernel) (by omega)) c_15)
    refine lv_iconst (pc := 47) (v := (-1)) E.1 E.2.1 dX12_plan_47 (by decide +kernel) ?_
    exact em_i (w1 := (fun (u : Int32 × (Nat → Int32) × (Nat → Int32)) => (MW cI cJ M mr (upd mi 0 u.1) (va_up (va_up mf 55 u.2.1) 59 u.2.2) mg))) E hr hlk (0, (mf 55), (mf 59)) hw8 trivial (Nat.le_of_ble_eq_true rfl) (Nat.le_of_ble_eq_true rfl) dX12_plan_48
  · skip
    have ha_12 : (1 : Int32).toInt ≤ z_n.toInt := ha_12
    rw [show (1 : Int32).toInt = 1 from by decide +kernel] at ha_12
    have ha_13 : z_n.toInt ≤ (10 : Int32).toInt := ha_13
    rw [show (10 : Int32).toInt = 10 from by decide +kernel] at ha_13
    refine lv_if_eq (pc := 13) (tgt := 47) E.1 E.2.1 dX12_plan_13 (by decide) (fun c_16 => absurd c_16 (mneE (a := 1) (b := 0) (by decide +kernel) (by decide +kernel) (by omega))) (fun _ => ?_)
    refine lv_aload_n (pc := 16) E.1 E.2.1 dX12_plan_16 rfl (lv_at hl3 0 rfl) ?_
    refine x_get (pc := 17) (T := TX12) (N := 70) (ci := 12) (v := .int (mi 6)) E hw8 inX12 0 6 q_1405 rfl rfl (by decide) rfl rfl dX12_plan_17 ?_
    refine lv_if_eq (pc := 20) (tgt := 47) E.1 E.2.1 dX12_plan_20 (by decide) (fun c_17 => ?_) (fun c_17 => ?_)
    · skip
      have hc_17 := eqE (a := (mi 6).toInt) (b := 0) rfl (by decide +kernel) c_17
      refine lv_iconst (pc := 47) (v := (-1)) E.1 E.2.1 dX12_plan_47 (by decide +kernel) ?_
      exact em_i (w1 := (fun (u : Int32 × (Nat → Int32) × (Nat → Int32)) => (MW cI cJ M mr (upd mi 0 u.1) (va_up (va_up mf 55 u.2.1) 59 u.2.2) mg))) E hr hlk (0, (mf 55), (mf 59)) hw8 trivial (Nat.le_of_ble_eq_true rfl) (Nat.le_of_ble_eq_true rfl) dX12_plan_48
    · skip
      have hc_17 := neE (a := (mi 6).toInt) (b := 0) rfl (by decide +kernel) c_17
      refine lv_aload_n (pc := 23) E.1 E.2.1 dX12_plan_23 rfl (lv_at hl3 0 rfl) ?_
      refine lv_iload_n (pc := 24) E.1 E.2.1 dX12_plan_24 rfl (lv_at hl3 2 rfl) ?_
      refine lv_iconst (pc := 25) (v := 0) E.1 E.2.1 dX12_plan_25 (by decide +kernel) ?_
      refine lv_iconst (pc := 26) (v := 1) E.1 E.2.1 dX12_plan_26 (by decide +kernel) ?_
      refine cm_i (pc := 27) hw8 (rn_M (As := [.int z_what, .int 0, .int 1]) (rest := []) E hw8 (s_isIn l D cI cJ _ M mr (upd mi 0 0) mf mg z_what 0 1) (gdV q_1622 q_1624 q_46 q_162 q_1625) hdV_X12_isIn ⟨rfl, rfl⟩ ⟨(Nat.le_of_ble_eq_true rfl), (Nat.le_of_ble_eq_true rfl)⟩ ⟨(Nat.le_of_ble_eq_true rfl), (Nat.le_of_ble_eq_true rfl)⟩ 12 rfl rfl rfl rfl hl3.1 rfl (Nat.le_of_ble_eq_true rfl) dX12_plan_27) (fun r_19 u_18 H1 locs hp hw20 => ?_)
      generalize H1 = H at hw20 ⊢
      have hw21 : WD D A s.heap (MW cI cJ M mr (upd mi 0 0) mf mg) H locs := hw20
      have hp_22 := hp
      rcases hp_22 with ⟨rfl, ha_23⟩ | ⟨rfl, ha_24⟩ | ⟨rfl, ha_25, ha_26⟩
      · skip
        have ha_23 : z_what.toInt < (0 : Int32).toInt := ha_23
        rw [show (0 : Int32).toInt = 0 from by decide +kernel] at ha_23
        refine lv_if_ne (pc := 30) (tgt := 49) E.1 E.2.1 dX12_plan_30 (by decide) (fun c_27 => absurd (meqE (a := 0) (b := 0) (by decide +kernel) (by decide +kernel) (by omega)) c_27) (fun _ => ?_)
        refine lv_aload_n (pc := 33) E.1 E.2.1 dX12_plan_33 rfl (lv_at hl3 0 rfl) ?_
        refine lv_iload_n (pc := 34) E.1 E.2.1 dX12_plan_34 rfl (lv_at hl3 2 rfl) ?_
        refine lv_bipush (pc := 35) (v := 10) E.1 E.2.1 dX12_plan_35 (by decide +kernel) ?_
        refine lv_bipush (pc := 37) (v := 9) E.1 E.2.1 dX12_plan_37 (by decide +kernel) ?_
        refine lv_iload_n (pc := 39) E.1 E.2.1 dX12_plan_39 rfl (lv_at hl3 1 rfl) ?_
        refine lv_iadd (pc := 40) E.1 E.2.1 dX12_plan_40 ?_
        refine lv_topi (fun v_28 ev_28 => ?_)
        have hv_28 : v_28.toInt = 9 + z_n.toInt := by rw [ev_28]; exact addE (by decide +kernel) rfl (by omega)
        refine cm_i (pc := 41) hw21 (rn_M (As := [.int z_what, .int 10, .int v_28]) (rest := []) E hw21 (s_isIn l D cI cJ _ M mr (upd mi 0 0) mf mg z_what 10 v_28) (gdV q_1622 q_1624 q_46 q_162 q_1625) hdV_X12_isIn ⟨rfl, rfl⟩ ⟨(Nat.le_of_ble_eq_true rfl), (Nat.le_of_ble_eq_true rfl)⟩ ⟨(Nat.le_of_ble_eq_true rfl), (Nat.le_of_ble_eq_true rfl)⟩ 12 rfl rfl rfl rfl hl3.1 rfl (Nat.le_of_ble_eq_true rfl) dX12_plan_41) (fun r_30 u_29 H1 locs hp hw31 => ?_)
        generalize H1 = H at hw31 ⊢
        have hw32 : WD D A s.heap (MW cI cJ M mr (upd mi 0 0) mf mg) H locs := hw31
        have hp_33 := hp
        rcases hp_33 with ⟨rfl, ha_34⟩ | ⟨rfl, ha_35⟩ | ⟨rfl, ha_36, ha_37⟩
        · skip
          have ha_34 : z_what.toInt < (10 : Int32).toInt := ha_34
          rw [show (10 : Int32).toInt = 10 from by decide +kernel] at ha_34
          refine lv_if_ne (pc := 44) (tgt := 49) E.1 E.2.1 dX12_plan_44 (by decide) (fun c_38 => absurd (meqE (a := 0) (b := 0) (by decide +kernel) (by decide +kernel) (by omega)) c_38) (fun _ => ?_)
          refine lv_iconst (pc := 47) (v := (-1)) E.1 E.2.1 dX12_plan_47 (by decide +kernel) ?_
          exact em_i (w1 := (fun (u : Int32 × (Nat → Int32) × (Nat → Int32)) => (MW cI cJ M mr (upd mi 0 u.1) (va_up (va_up mf 55 u.2.1) 59 u.2.2) mg))) E hr hlk (0, (mf 55), (mf 59)) hw32 trivial (Nat.le_of_ble_eq_true rfl) (Nat.le_of_ble_eq_true rfl) dX12_plan_48
        · skip
          have ha_35 : v_28.toInt < z_what.toInt := ha_35
          exfalso; omega
        · skip
          have ha_36 : (10 : Int32).toInt ≤ z_what.toInt := ha_36
          rw [show (10 : Int32).toInt = 10 from by decide +kernel] at ha_36
          have ha_37 : z_what.toInt ≤ v_28.toInt := ha_37
          exfalso; omega
      · skip
        have ha_24 : (1 : Int32).toInt < z_what.toInt := ha_24
        rw [show (1 : Int32).toInt = 1 from by decide +kernel] at ha_24
        refine lv_if_ne (pc := 30) (tgt := 49) E.1 E.2.1 dX12_plan_30 (by decide) (fun c_39 => absurd (meqE (a := 0) (b := 0) (by decide +kernel) (by decide +kernel) (by omega)) c_39) (fun _ => ?_)
        refine lv_aload_n (pc := 33) E.1 E.2.1 dX12_plan_33 rfl (lv_at hl3 0 rfl) ?_
        refine lv_iload_n (pc := 34) E.1 E.2.1 dX12_plan_34 rfl (lv_at hl3 2 rfl) ?_
        refine lv_bipush (pc := 35) (v := 10) E.1 E.2.1 dX12_plan_35 (by decide +kernel) ?_
        refine lv_bipush (pc := 37) (v := 9) E.1 E.2.1 dX12_plan_37 (by decide +kernel) ?_
        refine lv_iload_n (pc := 39) E.1 E.2.1 dX12_plan_39 rfl (lv_at hl3 1 rfl) ?_
        refine lv_iadd (pc := 40) E.1 E.2.1 dX12_plan_40 ?_
        refine lv_topi (fun v_40 ev_40 => ?_)
        have hv_40 : v_40.toInt = 9 + z_n.toInt := by rw [ev_40]; exact addE (by decide +kernel) rfl (by omega)
        refine cm_i (pc := 41) hw21 (rn_M (As := [.int z_what, .int 10, .int v_40]) (rest := []) E hw21 (s_isIn l D cI cJ _ M mr (upd mi 0 0) mf mg z_what 10 v_40) (gdV q_1622 q_1624 q_46 q_162 q_1625) hdV_X12_isIn ⟨rfl, rfl⟩ ⟨(Nat.le_of_ble_eq_true rfl), (Nat.le_of_ble_eq_true rfl)⟩ ⟨(Nat.le_of_ble_eq_true rfl), (Nat.le_of_ble_eq_true rfl)⟩ 12 rfl rfl rfl rfl hl3.1 rfl (Nat.le_of_ble_eq_true rfl) dX12_plan_41) (fun r_42 u_41 H1 locs hp hw43 => ?_)
        generalize H1 = H at hw43 ⊢
        have hw44 : WD D A s.heap (MW cI cJ M mr (upd mi 0 0) mf mg) H locs := hw43
        have hp_45 := hp
        rcases hp_45 with ⟨rfl, ha_46⟩ | ⟨rfl, ha_47⟩ | ⟨rfl, ha_48, ha_49⟩
        · skip
          have ha_46 : z_what.toInt < (10 : Int32).toInt := ha_46
          rw [show (10 : Int32).toInt = 10 from by decide +kernel] at ha_46
          refine lv_if_ne (pc := 44) (tgt := 49) E.1 E.2.1 dX12_plan_44 (by decide) (fun c_50 => absurd (meqE (a := 0) (b := 0) (by decide +kernel) (by decide +kernel) (by omega)) c_50) (fun _ => ?_)
          refine lv_iconst (pc := 47) (v := (-1)) E.1 E.2.1 dX12_plan_47 (by decide +kernel) ?_
          exact em_i (w1 := (fun (u : Int32 × (Nat → Int32) × (Nat → Int32)) => (MW cI cJ M mr (upd mi 0 u.1) (va_up (va_up mf 55 u.2.1) 59 u.2.2) mg))) E hr hlk (0, (mf 55), (mf 59)) hw44 trivial (Nat.le_of_ble_eq_true rfl) (Nat.le_of_ble_eq_true rfl) dX12_plan_48
        · skip
          have ha_47 : v_40.toInt < z_what.toInt := ha_47
          refine lv_if_ne (pc := 44) (tgt := 49) E.1 E.2.1 dX12_plan_44 (by decide) (fun c_51 => absurd (meqE (a := 0) (b := 0) (by decide +kernel) (by decide +kernel) (by omega)) c_51) (fun _ => ?_)
          refine lv_iconst (pc := 47) (v := (-1)) E.1 E.2.1 dX12_plan_47 (by decide +kernel) ?_
          exact em_i (w1 := (fun (u : Int32 × (Nat → Int32) × (Nat → Int32)) => (MW cI cJ M mr (upd mi 0 u.1) (va_up (va_up mf 55 u.2.1) 59 u.2.2) mg))) E hr hlk (0, (mf 55), (mf 59)) hw44 trivial (Nat.le_of_ble_eq_true rfl) (Nat.le_of_ble_eq_true rfl) dX12_plan_48
        · skip
          have ha_48 : (10 : Int32).toInt ≤ z_what.toInt := ha_48
          rw [show (10 : Int32).toInt = 10 from by decide +kernel] at ha_48
          have ha_49 : z_what.toInt ≤ v_40.toInt := ha_49
          refine lv_if_ne (pc := 44) (tgt := 49) E.1 E.2.1 dX12_plan_44 (by decide) (fun _ => ?_) (fun c_52 => absurd c_52 (mneE (a := 1) (b := 0) (by decide +kernel) (by decide +kernel) (by omega)))
          have hlamp_53 : ((mf 1) 3).toInt + 1 ≤ (mi 6).toInt := by have q := lf_lamp; omega
          refine lv_aload_n (pc := 49) E.1 E.2.1 dX12_plan_49 rfl (lv_at hl3 0 rfl) ?_
          refine lv_aload_n (pc := 50) E.1 E.2.1 dX12_plan_50 rfl (lv_at hl3 0 rfl) ?_
          refine x_get (pc := 51) (T := TX12) (N := 70) (ci := 12) (v := .ref (mr 1)) E hw44 inX12 0 1 q_1400 rfl rfl (by decide) rfl rfl dX12_plan_51 ?_
          refine lv_iconst (pc := 54) (v := 4) E.1 E.2.1 dX12_plan_54 (by decide +kernel) ?_
          refine x_iald (pc := 55) (f := (mf 1)) E hw44 1 rfl (inbE (a := 4) (by decide +kernel) (by omega)) dX12_plan_55 ?_
          refine lv_topi (fun v_54 ev_54 => ?_)
          refine cm_v (pc := 56) hw44 (rn_M (As := [.int v_54]) (rest := []) E hw44 (s_findsFar l D cI cJ _ M mr (upd mi 0 0) mf mg v_54 h0 h5 a_paths) (gdV q_1822 q_1824 q_89 q_162 q_1825) hdV_X12_findsFar ⟨rfl, rfl⟩ ⟨(Nat.le_of_ble_eq_true rfl), (Nat.le_of_ble_eq_true rfl)⟩ ⟨(Nat.le_of_ble_eq_true rfl), (Nat.le_of_ble_eq_true rfl)⟩ 12 rfl rfl rfl rfl hl3.1 rfl (Nat.le_of_ble_eq_true rfl) dX12_plan_56) (fun u_55 H1 locs hp hw57 => ?_)
          obtain ⟨gfarOf_58, rfl⟩ : ∃ z, z = u_55 := ⟨_, rfl⟩
          generalize H1 = H at hw57 ⊢
          have hw59 : WD D A s.heap (MW cI cJ M mr (upd mi 0 0) (va_up mf 55 gfarOf_58) mg) H locs := hw57
          refine lv_aload_n (pc := 59) E.1 E.2.1 dX12_plan_59 rfl (lv_at hl3 0 rfl) ?_
          refine lv_iload_n (pc := 60) E.1 E.2.1 dX12_plan_60 rfl (lv_at hl3 1 rfl) ?_
          refine cm_v (pc := 61) hw59 (rn_M (As := [.int z_n]) (rest := []) E hw59 (s_findsPlans l D cI cJ _ M mr (upd mi 0 0) (va_up mf 55 gfarOf_58) mg z_n (by show 1 ≤ z_n.toInt ∧ z_n.toInt ≤ 10; omega) h2.1 (by show ((mf 1) 3).toInt + 1 ≤ (mi 6).toInt; omega) h0.2 h4) (gdV q_1990 q_1992 q_124 q_162 q_1993) hdV_X12_findsPlans ⟨rfl, rfl⟩ ⟨(Nat.le_of_ble_eq_true rfl), (Nat.le_of_ble_eq_true rfl)⟩ ⟨(Nat.le_of_ble_eq_true rfl), (Nat.le_of_ble_eq_true rfl)⟩ 12 rfl rfl rfl rfl hl3.1 rfl (Nat.le_of_ble_eq_true rfl) dX12_plan_61) (fun u_60 H1 locs hp hw62 => ?_)
          obtain ⟨gplans_63, rfl⟩ : ∃ z, z = u_60 := ⟨_, rfl⟩
          generalize H1 = H at hw62 ⊢
          have hw64 : WD D A s.heap (MW cI cJ M mr (upd mi 0 0) (va_up (va_up mf 55 gfarOf_58) 59 gplans_63) mg) H locs := hw62
          refine lv_aload_n (pc := 64) E.1 E.2.1 dX12_plan_64 rfl (lv_at hl3 0 rfl) ?_
          refine x_get (pc := 65) (T := TX12) (N := 70) (ci := 12) (v := .ref (mr 1)) E hw64 inX12 0 1 q_1400 rfl rfl (by decide) rfl rfl dX12_plan_65 ?_
          refine lv_iconst (pc := 68) (v := 3) E.1 E.2.1 dX12_plan_68 (by decide +kernel) ?_
          refine x_iald (pc := 69) (f := (mf 1)) E hw64 1 rfl (inbE (a := 3) (by decide +kernel) (by omega)) dX12_plan_69 ?_
          refine lv_topi (fun v_65 ev_65 => ?_)
          have hv_65 : v_65.toInt = ((mf 1) 3).toInt := by rw [ev_65]; rfl
          refine lv_istore_n (pc := 70) (lv' := [(3, .int v_65), (0, .ref M), (1, .int z_n), (2, .int z_what)]) E.1 E.2.1 dX12_plan_70 rfl hl3 (by decide) rfl (fun ls hl66 => ?_)
          refine lv_iconst (pc := 71) (v := 0) E.1 E.2.1 dX12_plan_71 (by decide +kernel) ?_
          refine lv_istore (pc := 72) (lv' := [(4, .int 0), (3, .int v_65), (0, .ref M), (1, .int z_n), (2, .int z_what)]) E.1 E.2.1 dX12_plan_72 hl66 (by decide) rfl (fun ls hl67 => ?_)
          refine lv_iconst (pc := 74) (v := 0) E.1 E.2.1 dX12_plan_74 (by decide +kernel) ?_
          refine lv_istore (pc := 75) (lv' := [(5, .int 0), (4, .int 0), (3, .int v_65), (0, .ref M), (1, .int z_n), (2, .int z_what)]) E.1 E.2.1 dX12_plan_75 hl67 (by decide) rfl (fun ls hl68 => ?_)
          refine lv_iconst (pc := 77) (v := 0) E.1 E.2.1 dX12_plan_77 (by decide +kernel) ?_
          refine lv_istore (pc := 78) (lv' := [(6, .int 0), (5, .int 0), (4, .int 0), (3, .int v_65), (0, .ref M), (1, .int z_n), (2, .int z_what)]) E.1 E.2.1 dX12_plan_78 hl68 (by decide) rfl (fun ls hl69 => ?_)
          have loop_70 : ∀ (k : Nat) (x_71 : Int32) (x_72 : Int32) (x_73 : Int32) (x_74 : Int32) (H : Heap) (locs : List Loc) (ls : Array Slot), (0 ≤ x_71.toInt) ∧ (x_71.toInt ≤ z_n.toInt) ∧ (0 ≤ x_72.toInt) ∧ (x_72.toInt + 1 ≤ (mi 6).toInt) ∧ (0 ≤ x_73.toInt) ∧ (x_73.toInt ≤ 1023) → z_n.toInt - x_71.toInt < (k : Int) → WD D A s.heap (MW cI cJ M mr (upd mi 0 0) (va_up (va_up mf 55 gfarOf_58) 59 gplans_63) mg) H locs → lv_has ls 8 [(6, .int x_71), (5, .int x_74), (4, .int x_73), (3, .int x_72), (0, .ref M), (1, .int z_n), (2, .int z_what)] → W p l e ({ frames := 6, cells := 0, slots := 0, locals := 165 } : Room) s m ([.ref M, .int z_n, .int z_what] : List Value).toArray below meth c H locs 0 0 (MQ below (va_Qi (fun (r : Int32) (u : Int32 × (Nat → Int32) × (Nat → Int32)) => True) (fun u => QW D cI cJ A ((fun (u : Int32 × (Nat → Int32) × (Nat → Int32)) => (MW cI cJ M mr (upd mi 0 u.1) (va_up (va_up mf 55 u.2.1) 59 u.2.2) mg)) u)) A) ([.ref M, .int z_n, .int z_what] : List Value).toArray s 0 0 A) (F0 m 80 ls []) := by
            intro k
            induction k with
            | zero =>
              intro x_71 x_72 x_73 x_74 _ _ _ hinv hm
              obtain ⟨hi_74_0, hi_74_1, hi_74_2, hi_74_3, hi_74_4, hi_74_5⟩ := hinv
              exact absurd hm (by omega)
            | succ k ih_75 =>
              intro x_71 x_72 x_73 x_74 H locs ls hinv hm hw76 hl77
              obtain ⟨hi_74_0, hi_74_1, hi_74_2, hi_74_3, hi_74_4, hi_74_5⟩ := hinv
              refine lv_iload (pc := 80) E.1 E.2.1 dX12_plan_80 (lv_at hl77 0 rfl) ?_
              refine lv_iload_n (pc := 82) E.1 E.2.1 dX12_plan_82 rfl (lv_at hl77 5 rfl) ?_
              refine lv_icmp_ge (pc := 83) (tgt := 147) E.1 E.2.1 dX12_plan_83 (by decide) (fun c_78 => ?_) (fun c_78 => ?_)
              · skip
                have hc_78 := leE (a := z_n.toInt) (b := x_71.toInt) rfl rfl c_78
                refine lv_iload_n (pc := 147) E.1 E.2.1 dX12_plan_147 rfl (lv_at hl77 6 rfl) ?_
                refine lv_if_ne (pc := 148) (tgt := 160) E.1 E.2.1 dX12_plan_148 (by decide) (fun _ => ?_) (fun c_79 => absurd c_79 (mneE (a := z_what.toInt) (b := 0) rfl (by decide +kernel) (by omega)))
                refine lv_iload (pc := 160) E.1 E.2.1 dX12_plan_160 (lv_at hl77 1 rfl) ?_
                exact em_i (w1 := (fun (u : Int32 × (Nat → Int32) × (Nat → Int32)) => (MW cI cJ M mr (upd mi 0 u.1) (va_up (va_up mf 55 u.2.1) 59 u.2.2) mg))) E hr hlk (0, gfarOf_58, gplans_63) hw76 trivial (Nat.le_of_ble_eq_true rfl) (Nat.le_of_ble_eq_true rfl) dX12_plan_162
              · skip
                have hc_78 := nleE (a := z_n.toInt) (b := x_71.toInt) rfl rfl c_78
                refine lv_aload_n (pc := 86) E.1 E.2.1 dX12_plan_86 rfl (lv_at hl77 4 rfl) ?_
                refine lv_iload (pc := 87) E.1 E.2.1 dX12_plan_87 (lv_at hl77 0 rfl) ?_
                refine lv_iload_n (pc := 89) E.1 E.2.1 dX12_plan_89 rfl (lv_at hl77 3 rfl) ?_
                refine lv_iload (pc := 90) E.1 E.2.1 dX12_plan_90 (lv_at hl77 2 rfl) ?_
                refine cm_i (pc := 92) hw76 (rn_M (As := [.int x_71, .int x_72, .int x_73]) (rest := []) E hw76 (s_bestStep l D cI cJ _ M mr (upd mi 0 0) (va_up (va_up mf 55 gfarOf_58) 59 gplans_63) mg x_71 x_72 x_73 hi_74_0 (by show x_71.toInt ≤ 9; omega) hi_74_2 hi_74_3 h0.2 hi_74_4 hi_74_5 h4) (gdV q_1998 q_2000 q_126 q_162 q_2001) hdV_X12_bestStep ⟨rfl, rfl⟩ ⟨(Nat.le_of_ble_eq_true rfl), (Nat.le_of_ble_eq_true rfl)⟩ ⟨(Nat.le_of_ble_eq_true rfl), (Nat.le_of_ble_eq_true rfl)⟩ 12 rfl rfl rfl rfl hl77.1 rfl (Nat.le_of_ble_eq_true rfl) dX12_plan_92) (fun r_81 u_80 H1 locs hp hw82 => ?_)
                generalize H1 = H at hw82 ⊢
                have hw83 : WD D A s.heap (MW cI cJ M mr (upd mi 0 0) (va_up (va_up mf 55 gfarOf_58) 59 gplans_63) mg) H locs := hw82
                obtain ⟨hp_84, hp_85⟩ := hp
                have hp_84 : 0 ≤ r_81.toInt := hp_84
                have hp_85 : r_81.toInt + 1 ≤ (mi 6).toInt := hp_85
                refine lv_istore (pc := 95) (lv' := [(7, .int r_81), (6, .int x_71), (5, .int x_74), (4, .int x_73), (3, .int x_72), (0, .ref M), (1, .int z_n), (2, .int z_what)]) E.1 E.2.1 dX12_plan_95 hl77 (by decide) rfl (fun ls hl86 => ?_)
                refine lv_aload_n (pc := 97) E.1 E.2.1 dX12_plan_97 rfl (lv_at hl86 5 rfl) ?_
                refine lv_iload (pc := 98) E.1 E.2.1 dX12_plan_98 (lv_at hl86 1 rfl) ?_
                refine lv_iload_n (pc := 100) E.1 E.2.1 dX12_plan_100 rfl (lv_at hl86 4 rfl) ?_
                refine lv_iload (pc := 101) E.1 E.2.1 dX12_plan_101 (lv_at hl86 0 rfl) ?_
                refine lv_iload (pc := 103) E.1 E.2.1 dX12_plan_103 (lv_at hl86 3 rfl) ?_
                refine cm_i (pc := 105) hw83 (rn_M (As := [.int x_71, .int x_72, .int r_81, .int x_73]) (rest := []) E hw83 (s_doneBy l D cI cJ _ M mr (upd mi 0 0) (va_up (va_up mf 55 gfarOf_58) 59 gplans_63) mg x_71 x_72 r_81 x_73 hp_84 (by show r_81.toInt ≤ 9; omega) hi_74_4 hi_74_5 h4) (gdV q_2006 q_2008 q_128 q_162 q_2009) hdV_X12_doneBy ⟨rfl, rfl⟩ ⟨(Nat.le_of_ble_eq_true rfl), (Nat.le_of_ble_eq_true rfl)⟩ ⟨(Nat.le_of_ble_eq_true rfl), (Nat.le_of_ble_eq_true rfl)⟩ 12 rfl rfl rfl rfl hl86.1 rfl (Nat.le_of_ble_eq_true rfl) dX12_plan_105) (fun r_88 u_87 H1 locs hp hw89 => ?_)
                generalize H1 = H at hw89 ⊢
                have hw90 : WD D A s.heap (MW cI cJ M mr (upd mi 0 0) (va_up (va_up mf 55 gfarOf_58) 59 gplans_63) mg) H locs := hw89
                obtain ⟨hp_91, hp_92⟩ := hp
                have hp_91 : 0 ≤ r_88.toInt := hp_91
                have hp_92 : r_88.toInt ≤ 1023 := hp_92
                refine lv_istore (pc := 108) (lv' := [(4, .int r_88), (7, .int r_81), (6, .int x_71), (5, .int x_74), (3, .int x_72), (0, .ref M), (1, .int z_n), (2, .int z_what)]) E.1 E.2.1 dX12_plan_108 hl86 (by decide) rfl (fun ls hl93 => ?_)
                refine lv_iload (pc := 110) E.1 E.2.1 dX12_plan_110 (lv_at hl93 3 rfl) ?_
                refine lv_aload_n (pc := 112) E.1 E.2.1 dX12_plan_112 rfl (lv_at hl93 5 rfl) ?_
                refine x_get (pc := 113) (T := TX12) (N := 70) (ci := 12) (v := .ref (mr 55)) E hw90 inX12 0 55 q_1454 rfl rfl (by decide) rfl rfl dX12_plan_113 ?_
                refine lv_bipush (pc := 116) (v := 10) E.1 E.2.1 dX12_plan_116 (by decide +kernel) ?_
                refine lv_iload_n (pc := 118) E.1 E.2.1 dX12_plan_118 rfl (lv_at hl93 4 rfl) ?_
                refine lv_imul (pc := 119) E.1 E.2.1 dX12_plan_119 ?_
                refine lv_topi (fun v_94 ev_94 => ?_)
                have hv_94 : v_94.toInt = 10 * x_72.toInt := by rw [ev_94]; exact mulE (by decide +kernel) rfl (by omega)
                refine lv_iload (pc := 120) E.1 E.2.1 dX12_plan_120 (lv_at hl93 1 rfl) ?_
                refine lv_iadd (pc := 122) E.1 E.2.1 dX12_plan_122 ?_
                refine lv_topi (fun v_95 ev_95 => ?_)
                have hv_95 : v_95.toInt = v_94.toInt + r_81.toInt := by rw [ev_95]; exact addE rfl rfl (by omega)
                refine x_iald (pc := 123) (f := gfarOf_58) E hw90 30 rfl (inbE (a := v_95.toInt) rfl (by omega)) dX12_plan_123 ?_
                refine lv_topi (fun v_96 ev_96 => ?_)
                refine lv_iadd (pc := 124) E.1 E.2.1 dX12_plan_124 ?_
                refine lv_topi (fun v_97 ev_97 => ?_)
                refine lv_istore (pc := 125) (lv' := [(5, .int v_97), (4, .int r_88), (7, .int r_81), (6, .int x_71), (3, .int x_72), (0, .ref M), (1, .int z_n), (2, .int z_what)]) E.1 E.2.1 dX12_plan_125 hl93 (by decide) rfl (fun ls hl98 => ?_)
                refine lv_iload (pc := 127) E.1 E.2.1 dX12_plan_127 (lv_at hl98 2 rfl) ?_
                refine lv_istore_n (pc := 129) (lv' := [(3, .int r_81), (5, .int v_97), (4, .int r_88), (7, .int r_81), (6, .int x_71), (0, .ref M), (1, .int z_n), (2, .int z_what)]) E.1 E.2.1 dX12_plan_129 rfl hl98 (by decide) rfl (fun ls hl99 => ?_)
                refine lv_iload_n (pc := 130) E.1 E.2.1 dX12_plan_130 rfl (lv_at hl99 7 rfl) ?_
                refine lv_bipush (pc := 131) (v := 10) E.1 E.2.1 dX12_plan_131 (by decide +kernel) ?_
                refine lv_iload (pc := 133) E.1 E.2.1 dX12_plan_133 (lv_at hl99 4 rfl) ?_
                refine lv_iadd (pc := 135) E.1 E.2.1 dX12_plan_135 ?_
                refine lv_topi (fun v_100 ev_100 => ?_)
                have hv_100 : v_100.toInt = 10 + x_71.toInt := by rw [ev_100]; exact addE (by decide +kernel) rfl (by omega)
                refine lv_icmp_ne (pc := 136) (tgt := 141) E.1 E.2.1 dX12_plan_136 (by decide) (fun c_101 => ?_) (fun c_101 => ?_)
                · skip
                  have hc_101 := neE (a := z_what.toInt) (b := v_100.toInt) rfl rfl c_101
                  obtain ⟨v_102, ev_102⟩ : ∃ z : Int32, x_71 + Int32.ofInt (1) = z := ⟨_, rfl⟩
                  have hv_102 : v_102.toInt = x_71.toInt + (1) := by rw [← ev_102]; exact incE rfl (by decide) (by omega)
                  refine lv_iinc (pc := 141) (v := v_102) (lv' := [(6, .int v_102), (3, .int r_81), (5, .int v_97), (4, .int r_88), (7, .int r_81), (0, .ref M), (1, .int z_n), (2, .int z_what)]) E.1 E.2.1 dX12_plan_141 hl99 (k := 4) rfl ev_102 (by decide) rfl (fun ls hl103 => ?_)
                  refine lv_goto (pc := 144) (tgt := 80) E.1 E.2.1 dX12_plan_144 (by decide) ?_
                  exact ih_75 v_102 r_81 r_88 v_97 _ _ _ ⟨(by show 0 ≤ v_102.toInt; omega), (by show v_102.toInt ≤ z_n.toInt; omega), hp_84, hp_85, hp_91, hp_92⟩ (by omega) hw90 (lv_sub hl103 [0, 2, 3, 1, 5, 6, 7] rfl)
                · skip
                  have hc_101 := eqE (a := z_what.toInt) (b := v_100.toInt) rfl rfl c_101
                  refine lv_iload_n (pc := 139) E.1 E.2.1 dX12_plan_139 rfl (lv_at hl99 0 rfl) ?_
                  exact em_i (w1 := (fun (u : Int32 × (Nat → Int32) × (Nat → Int32)) => (MW cI cJ M mr (upd mi 0 u.1) (va_up (va_up mf 55 u.2.1) 59 u.2.2) mg))) E hr hlk (0, gfarOf_58, gplans_63) hw90 trivial (Nat.le_of_ble_eq_true rfl) (Nat.le_of_ble_eq_true rfl) dX12_plan_140
          exact loop_70 (Int.toNat (z_n.toInt - 0) + 1) 0 v_65 0 0 _ _ _ ⟨(by show 0 ≤ (0 : Int32).toInt; have k_0 : (0 : Int32).toInt = 0 := (by decide +kernel); omega), (by show (0 : Int32).toInt ≤ z_n.toInt; have k_0 : (0 : Int32).toInt = 0 := (by decide +kernel); omega), (by show 0 ≤ v_65.toInt; omega), (by show v_65.toInt + 1 ≤ (mi 6).toInt; omega), (by show 0 ≤ (0 : Int32).toInt; have k_0 : (0 : Int32).toInt = 0 := (by decide +kernel); omega), (by show (0 : Int32).toInt ≤ 1023; have k_0 : (0 : Int32).toInt = 0 := (by decide +kernel); omega)⟩ (by have k_0 : (0 : Int32).toInt = 0 := (by decide +kernel); have k_2 : (0 : Int32).toInt = 0 := (by decide +kernel); have k_3 : (0 : Int32).toInt = 0 := (by decide +kernel); omega) hw64 (lv_sub hl69 [0, 1, 2, 3, 4, 5, 6] rfl)
      · skip
        have ha_25 : (0 : Int32).toInt ≤ z_what.toInt := ha_25
        rw [show (0 : Int32).toInt = 0 from by decide +kernel] at ha_25
        have ha_26 : z_what.toInt ≤ (1 : Int32).toInt := ha_26
        rw [show (1 : Int32).toInt = 1 from by decide +kernel] at ha_26
        refine lv_if_ne (pc := 30) (tgt := 49) E.1 E.2.1 dX12_plan_30 (by decide) (fun _ => ?_) (fun c_104 => absurd c_104 (mneE (a := 1) (b := 0) (by decide +kernel) (by decide +kernel) (by omega)))
        have hlamp_105 : ((mf 1) 3).toInt + 1 ≤ (mi 6).toInt := by have q := lf_lamp; omega
        refine lv_aload_n (pc := 49) E.1 E.2.1 dX12_plan_49 rfl (lv_at hl3 0 rfl) ?_
        refine lv_aload_n (pc := 50) E.1 E.2.1 dX12_plan_50 rfl (lv_at hl3 0 rfl) ?_
        refine x_get (pc := 51) (T := TX12) (N := 70) (ci := 12) (v := .ref (mr 1)) E hw21 inX12 0 1 q_1400 rfl rfl (by decide) rfl rfl dX12_plan_51 ?_
        refine lv_iconst (pc := 54) (v := 4) E.1 E.2.1 dX12_plan_54 (by decide +kernel) ?_
        refine x_iald (pc := 55) (f := (mf 1)) E hw21 1 rfl (inbE (a := 4) (by decide +kernel) (by omega)) dX12_plan_55 ?_
        refine lv_topi (fun v_106 ev_106 => ?_)
        refine cm_v (pc := 56) hw21 (rn_M (As := [.int v_106]) (rest := []) E hw21 (s_findsFar l D cI cJ _ M mr (upd mi 0 0) mf mg v_106 h0 h5 a_paths) (gdV q_1822 q_1824 q_89 q_162 q_1825) hdV_X12_findsFar ⟨rfl, rfl⟩ ⟨(Nat.le_of_ble_eq_true rfl), (Nat.le_of_ble_eq_true rfl)⟩ ⟨(Nat.le_of_ble_eq_true rfl), (Nat.le_of_ble_eq_true rfl)⟩ 12 rfl rfl rfl rfl hl3.1 rfl (Nat.le_of_ble_eq_true rfl) dX12_plan_56) (fun u_107 H1 locs hp hw109 => ?_)
        obtain ⟨gfarOf_110, rfl⟩ : ∃ z, z = u_107 := ⟨_, rfl⟩
        generalize H1 = H at hw109 ⊢
        have hw111 : WD D A s.heap (MW cI cJ M mr (upd mi 0 0) (va_up mf 55 gfarOf_110) mg) H locs := hw109
        refine lv_aload_n (pc := 59) E.1 E.2.1 dX12_plan_59 rfl (lv_at hl3 0 rfl) ?_
        refine lv_iload_n (pc := 60) E.1 E.2.1 dX12_plan_60 rfl (lv_at hl3 1 rfl) ?_
        refine cm_v (pc := 61) hw111 (rn_M (As := [.int z_n]) (rest := []) E hw111 (s_findsPlans l D cI cJ _ M mr (upd mi 0 0) (va_up mf 55 gfarOf_110) mg z_n (by show 1 ≤ z_n.toInt ∧ z_n.toInt ≤ 10; omega) h2.1 (by show ((mf 1) 3).toInt + 1 ≤ (mi 6).toInt; omega) h0.2 h4) (gdV q_1990 q_1992 q_124 q_162 q_1993) hdV_X12_findsPlans ⟨rfl, rfl⟩ ⟨(Nat.le_of_ble_eq_true rfl), (Nat.le_of_ble_eq_true rfl)⟩ ⟨(Nat.le_of_ble_eq_true rfl), (Nat.le_of_ble_eq_true rfl)⟩ 12 rfl rfl rfl rfl hl3.1 rfl (Nat.le_of_ble_eq_true rfl) dX12_plan_61) (fun u_112 H1 locs hp hw114 => ?_)
        obtain ⟨gplans_115, rfl⟩ : ∃ z, z = u_112 := ⟨_, rfl⟩
        generalize H1 = H at hw114 ⊢
        have hw116 : WD D A s.heap (MW cI cJ M mr (upd mi 0 0) (va_up (va_up mf 55 gfarOf_110) 59 gplans_115) mg) H locs := hw114
        refine lv_aload_n (pc := 64) E.1 E.2.1 dX12_plan_64 rfl (lv_at hl3 0 rfl) ?_
        refine x_get (pc := 65) (T := TX12) (N := 70) (ci := 12) (v := .ref (mr 1)) E hw116 inX12 0 1 q_1400 rfl rfl (by decide) rfl rfl dX12_plan_65 ?_
        refine lv_iconst (pc := 68) (v := 3) E.1 E.2.1 dX12_plan_68 (by decide +kernel) ?_
        refine x_iald (pc := 69) (f := (mf 1)) E hw116 1 rfl (inbE (a := 3) (by decide +kernel) (by omega)) dX12_plan_69 ?_
        refine lv_topi (fun v_117 ev_117 => ?_)
        have hv_117 : v_117.toInt = ((mf 1) 3).toInt := by rw [ev_117]; rfl
        refine lv_istore_n (pc := 70) (lv' := [(3, .int v_117), (0, .ref M), (1, .int z_n), (2, .int z_what)]) E.1 E.2.1 dX12_plan_70 rfl hl3 (by decide) rfl (fun ls hl118 => ?_)
        refine lv_iconst (pc := 71) (v := 0) E.1 E.2.1 dX12_plan_71 (by decide +kernel) ?_
        refine lv_istore (pc := 72) (lv' := [(4, .int 0), (3, .int v_117), (0, .ref M), (1, .int z_n), (2, .int z_what)]) E.1 E.2.1 dX12_plan_72 hl118 (by decide) rfl (fun ls hl119 => ?_)
        refine lv_iconst (pc := 74) (v := 0) E.1 E.2.1 dX12_plan_74 (by decide +kernel) ?_
        refine lv_istore (pc := 75) (lv' := [(5, .int 0), (4, .int 0), (3, .int v_117), (0, .ref M), (1, .int z_n), (2, .int z_what)]) E.1 E.2.1 dX12_plan_75 hl119 (by decide) rfl (fun ls hl120 => ?_)
        refine lv_iconst (pc := 77) (v := 0) E.1 E.2.1 dX12_plan_77 (by decide +kernel) ?_
        refine lv_istore (pc := 78) (lv' := [(6, .int 0), (5, .int 0), (4, .int 0), (3, .int v_117), (0, .ref M), (1, .int z_n), (2, .int z_what)]) E.1 E.2.1 dX12_plan_78 hl120 (by decide) rfl (fun ls hl121 => ?_)
        have loop_122 : ∀ (k : Nat) (x_123 : Int32) (x_124 : Int32) (x_125 : Int32) (x_126 : Int32) (H : Heap) (locs : List Loc) (ls : Array Slot), (0 ≤ x_123.toInt) ∧ (x_123.toInt ≤ z_n.toInt) ∧ (0 ≤ x_124.toInt) ∧ (x_124.toInt + 1 ≤ (mi 6).toInt) ∧ (0 ≤ x_125.toInt) ∧ (x_125.toInt ≤ 1023) → z_n.toInt - x_123.toInt < (k : Int) → WD D A s.heap (MW cI cJ M mr (upd mi 0 0) (va_up (va_up mf 55 gfarOf_110) 59 gplans_115) mg) H locs → lv_has ls 8 [(6, .int x_123), (5, .int x_126), (4, .int x_125), (3, .int x_124), (0, .ref M), (1, .int z_n), (2, .int z_what)] → W p l e ({ frames := 6, cells := 0, slots := 0, locals := 165 } : Room) s m ([.ref M, .int z_n, .int z_what] : List Value).toArray below meth c H locs 0 0 (MQ below (va_Qi (fun (r : Int32) (u : Int32 × (Nat → Int32) × (Nat → Int32)) => True) (fun u => QW D cI cJ A ((fun (u : Int32 × (Nat → Int32) × (Nat → Int32)) => (MW cI cJ M mr (upd mi 0 u.1) (va_up (va_up mf 55 u.2.1) 59 u.2.2) mg)) u)) A) ([.ref M, .int z_n, .int z_what] : List Value).toArray s 0 0 A) (F0 m 80 ls []) := by
          intro k
          induction k with
          | zero =>
            intro x_123 x_124 x_125 x_126 _ _ _ hinv hm
            obtain ⟨hi_126_0, hi_126_1, hi_126_2, hi_126_3, hi_126_4, hi_126_5⟩ := hinv
            exact absurd hm (by omega)
          | succ k ih_127 =>
            intro x_123 x_124 x_125 x_126 H locs ls hinv hm hw128 hl129
            obtain ⟨hi_126_0, hi_126_1, hi_126_2, hi_126_3, hi_126_4, hi_126_5⟩ := hinv
            refine lv_iload (pc := 80) E.1 E.2.1 dX12_plan_80 (lv_at hl129 0 rfl) ?_
            refine lv_iload_n (pc := 82) E.1 E.2.1 dX12_plan_82 rfl (lv_at hl129 5 rfl) ?_
            refine lv_icmp_ge (pc := 83) (tgt := 147) E.1 E.2.1 dX12_plan_83 (by decide) (fun c_130 => ?_) (fun c_130 => ?_)
            · skip
              have hc_130 := leE (a := z_n.toInt) (b := x_123.toInt) rfl rfl c_130
              refine lv_iload_n (pc := 147) E.1 E.2.1 dX12_plan_147 rfl (lv_at hl129 6 rfl) ?_
              refine lv_if_ne (pc := 148) (tgt := 160) E.1 E.2.1 dX12_plan_148 (by decide) (fun c_131 => ?_) (fun c_131 => ?_)
              · skip
                have hc_131 := neE (a := z_what.toInt) (b := 0) rfl (by decide +kernel) c_131
                refine lv_iload (pc := 160) E.1 E.2.1 dX12_plan_160 (lv_at hl129 1 rfl) ?_
                exact em_i (w1 := (fun (u : Int32 × (Nat → Int32) × (Nat → Int32)) => (MW cI cJ M mr (upd mi 0 u.1) (va_up (va_up mf 55 u.2.1) 59 u.2.2) mg))) E hr hlk (0, gfarOf_110, gplans_115) hw128 trivial (Nat.le_of_ble_eq_true rfl) (Nat.le_of_ble_eq_true rfl) dX12_plan_162
              · skip
                have hc_131 := eqE (a := z_what.toInt) (b := 0) rfl (by decide +kernel) c_131
                refine lv_aload_n (pc := 151) E.1 E.2.1 dX12_plan_151 rfl (lv_at hl129 4 rfl) ?_
                refine lv_iload (pc := 152) E.1 E.2.1 dX12_plan_152 (lv_at hl129 2 rfl) ?_
                refine cm_i (pc := 154) hw128 (rn_M (As := [.int x_125]) (rest := []) E hw128 (s_worthOf l D cI cJ _ M mr (upd mi 0 0) (va_up (va_up mf 55 gfarOf_110) 59 gplans_115) mg x_125 h4) (gdV q_2010 q_2012 q_129 q_162 q_2013) hdV_X12_worthOf ⟨rfl, rfl⟩ ⟨(Nat.le_of_ble_eq_true rfl), (Nat.le_of_ble_eq_true rfl)⟩ ⟨(Nat.le_of_ble_eq_true rfl), (Nat.le_of_ble_eq_true rfl)⟩ 12 rfl rfl rfl rfl hl129.1 rfl (Nat.le_of_ble_eq_true rfl) dX12_plan_154) (fun r_133 u_132 H1 locs hp hw134 => ?_)
                generalize H1 = H at hw134 ⊢
                have hw135 : WD D A s.heap (MW cI cJ M mr (upd mi 0 0) (va_up (va_up mf 55 gfarOf_110) 59 gplans_115) mg) H locs := hw134
                refine lv_goto (pc := 157) (tgt := 162) E.1 E.2.1 dX12_plan_157 (by decide) ?_
                exact em_i (w1 := (fun (u : Int32 × (Nat → Int32) × (Nat → Int32)) => (MW cI cJ M mr (upd mi 0 u.1) (va_up (va_up mf 55 u.2.1) 59 u.2.2) mg))) E hr hlk (0, gfarOf_110, gplans_115) hw135 trivial (Nat.le_of_ble_eq_true rfl) (Nat.le_of_ble_eq_true rfl) dX12_plan_162
            · skip
              have hc_130 := nleE (a := z_n.toInt) (b := x_123.toInt) rfl rfl c_130
              refine lv_aload_n (pc := 86) E.1 E.2.1 dX12_plan_86 rfl (lv_at hl129 4 rfl) ?_
              refine lv_iload (pc := 87) E.1 E.2.1 dX12_plan_87 (lv_at hl129 0 rfl) ?_
              refine lv_iload_n (pc := 89) E.1 E.2.1 dX12_plan_89 rfl (lv_at hl129 3 rfl) ?_
              refine lv_iload (pc := 90) E.1 E.2.1 dX12_plan_90 (lv_at hl129 2 rfl) ?_
              refine cm_i (pc := 92) hw128 (rn_M (As := [.int x_123, .int x_124, .int x_125]) (rest := []) E hw128 (s_bestStep l D cI cJ _ M mr (upd mi 0 0) (va_up (va_up mf 55 gfarOf_110) 59 gplans_115) mg x_123 x_124 x_125 hi_126_0 (by show x_123.toInt ≤ 9; omega) hi_126_2 hi_126_3 h0.2 hi_126_4 hi_126_5 h4) (gdV q_1998 q_2000 q_126 q_162 q_2001) hdV_X12_bestStep ⟨rfl, rfl⟩ ⟨(Nat.le_of_ble_eq_true rfl), (Nat.le_of_ble_eq_true rfl)⟩ ⟨(Nat.le_of_ble_eq_true rfl), (Nat.le_of_ble_eq_true rfl)⟩ 12 rfl rfl rfl rfl hl129.1 rfl (Nat.le_of_ble_eq_true rfl) dX12_plan_92) (fun r_137 u_136 H1 locs hp hw138 => ?_)
              generalize H1 = H at hw138 ⊢
              have hw139 : WD D A s.heap (MW cI cJ M mr (upd mi 0 0) (va_up (va_up mf 55 gfarOf_110) 59 gplans_115) mg) H locs := hw138
              obtain ⟨hp_140, hp_141⟩ := hp
              have hp_140 : 0 ≤ r_137.toInt := hp_140
              have hp_141 : r_137.toInt + 1 ≤ (mi 6).toInt := hp_141
              refine lv_istore (pc := 95) (lv' := [(7, .int r_137), (6, .int x_123), (5, .int x_126), (4, .int x_125), (3, .int x_124), (0, .ref M), (1, .int z_n), (2, .int z_what)]) E.1 E.2.1 dX12_plan_95 hl129 (by decide) rfl (fun ls hl142 => ?_)
              refine lv_aload_n (pc := 97) E.1 E.2.1 dX12_plan_97 rfl (lv_at hl142 5 rfl) ?_
              refine lv_iload (pc := 98) E.1 E.2.1 dX12_plan_98 (lv_at hl142 1 rfl) ?_
              refine lv_iload_n (pc := 100) E.1 E.2.1 dX12_plan_100 rfl (lv_at hl142 4 rfl) ?_
              refine lv_iload (pc := 101) E.1 E.2.1 dX12_plan_101 (lv_at hl142 0 rfl) ?_
              refine lv_iload (pc := 103) E.1 E.2.1 dX12_plan_103 (lv_at hl142 3 rfl) ?_
              refine cm_i (pc := 105) hw139 (rn_M (As := [.int x_123, .int x_124, .int r_137, .int x_125]) (rest := []) E hw139 (s_doneBy l D cI cJ _ M mr (upd mi 0 0) (va_up (va_up mf 55 gfarOf_110) 59 gplans_115) mg x_123 x_124 r_137 x_125 hp_140 (by show r_137.toInt ≤ 9; omega) hi_126_4 hi_126_5 h4) (gdV q_2006 q_2008 q_128 q_162 q_2009) hdV_X12_doneBy ⟨rfl, rfl⟩ ⟨(Nat.le_of_ble_eq_true rfl), (Nat.le_of_ble_eq_true rfl)⟩ ⟨(Nat.le_of_ble_eq_true rfl), (Nat.le_of_ble_eq_true rfl)⟩ 12 rfl rfl rfl rfl hl142.1 rfl (Nat.le_of_ble_eq_true rfl) dX12_plan_105) (fun r_144 u_143 H1 locs hp hw145 => ?_)
              generalize H1 = H at hw145 ⊢
              have hw146 : WD D A s.heap (MW cI cJ M mr (upd mi 0 0) (va_up (va_up mf 55 gfarOf_110) 59 gplans_115) mg) H locs := hw145
              obtain ⟨hp_147, hp_148⟩ := hp
              have hp_147 : 0 ≤ r_144.toInt := hp_147
              have hp_148 : r_144.toInt ≤ 1023 := hp_148
              refine lv_istore (pc := 108) (lv' := [(4, .int r_144), (7, .int r_137), (6, .int x_123), (5, .int x_126), (3, .int x_124), (0, .ref M), (1, .int z_n), (2, .int z_what)]) E.1 E.2.1 dX12_plan_108 hl142 (by decide) rfl (fun ls hl149 => ?_)
              refine lv_iload (pc := 110) E.1 E.2.1 dX12_plan_110 (lv_at hl149 3 rfl) ?_
              refine lv_aload_n (pc := 112) E.1 E.2.1 dX12_plan_112 rfl (lv_at hl149 5 rfl) ?_
              refine x_get (pc := 113) (T := TX12) (N := 70) (ci := 12) (v := .ref (mr 55)) E hw146 inX12 0 55 q_1454 rfl rfl (by decide) rfl rfl dX12_plan_113 ?_
              refine lv_bipush (pc := 116) (v := 10) E.1 E.2.1 dX12_plan_116 (by decide +kernel) ?_
              refine lv_iload_n (pc := 118) E.1 E.2.1 dX12_plan_118 rfl (lv_at hl149 4 rfl) ?_
              refine lv_imul (pc := 119) E.1 E.2.1 dX12_plan_119 ?_
              refine lv_topi (fun v_150 ev_150 => ?_)
              have hv_150 : v_150.toInt = 10 * x_124.toInt := by rw [ev_150]; exact mulE (by decide +kernel) rfl (by omega)
              refine lv_iload (pc := 120) E.1 E.2.1 dX12_plan_120 (lv_at hl149 1 rfl) ?_
              refine lv_iadd (pc := 122) E.1 E.2.1 dX12_plan_122 ?_
              refine lv_topi (fun v_151 ev_151 => ?_)
              have hv_151 : v_151.toInt = v_150.toInt + r_137.toInt := by rw [ev_151]; exact addE rfl rfl (by omega)
              refine x_iald (pc := 123) (f := gfarOf_110) E hw146 30 rfl (inbE (a := v_151.toInt) rfl (by omega)) dX12_plan_123 ?_
              refine lv_topi (fun v_152 ev_152 => ?_)
              refine lv_iadd (pc := 124) E.1 E.2.1 dX12_plan_124 ?_
              refine lv_topi (fun v_153 ev_153 => ?_)
              refine lv_istore (pc := 125) (lv' := [(5, .int v_153), (4, .int r_144), (7, .int r_137), (6, .int x_123), (3, .int x_124), (0, .ref M), (1, .int z_n), (2, .int z_what)]) E.1 E.2.1 dX12_plan_125 hl149 (by decide) rfl (fun ls hl154 => ?_)
              refine lv_iload (pc := 127) E.1 E.2.1 dX12_plan_127 (lv_at hl154 2 rfl) ?_
              refine lv_istore_n (pc := 129) (lv' := [(3, .int r_137), (5, .int v_153), (4, .int r_144), (7, .int r_137), (6, .int x_123), (0, .ref M), (1, .int z_n), (2, .int z_what)]) E.1 E.2.1 dX12_plan_129 rfl hl154 (by decide) rfl (fun ls hl155 => ?_)
              refine lv_iload_n (pc := 130) E.1 E.2.1 dX12_plan_130 rfl (lv_at hl155 7 rfl) ?_
              refine lv_bipush (pc := 131) (v := 10) E.1 E.2.1 dX12_plan_131 (by decide +kernel) ?_
              refine lv_iload (pc := 133) E.1 E.2.1 dX12_plan_133 (lv_at hl155 4 rfl) ?_
              refine lv_iadd (pc := 135) E.1 E.2.1 dX12_plan_135 ?_
              refine lv_topi (fun v_156 ev_156 => ?_)
              have hv_156 : v_156.toInt = 10 + x_123.toInt := by rw [ev_156]; exact addE (by decide +kernel) rfl (by omega)
              refine lv_icmp_ne (pc := 136) (tgt := 141) E.1 E.2.1 dX12_plan_136 (by decide) (fun _ => ?_) (fun c_157 => absurd c_157 (mneE (a := z_what.toInt) (b := v_156.toInt) rfl rfl (by omega)))
              obtain ⟨v_158, ev_158⟩ : ∃ z : Int32, x_123 + Int32.ofInt (1) = z := ⟨_, rfl⟩
              have hv_158 : v_158.toInt = x_123.toInt + (1) := by rw [← ev_158]; exact incE rfl (by decide) (by omega)
              refine lv_iinc (pc := 141) (v := v_158) (lv' := [(6, .int v_158), (3, .int r_137), (5, .int v_153), (4, .int r_144), (7, .int r_137), (0, .ref M), (1, .int z_n), (2, .int z_what)]) E.1 E.2.1 dX12_plan_141 hl155 (k := 4) rfl ev_158 (by decide) rfl (fun ls hl159 => ?_)
              refine lv_goto (pc := 144) (tgt := 80) E.1 E.2.1 dX12_plan_144 (by decide) ?_
              exact ih_127 v_158 r_137 r_144 v_153 _ _ _ ⟨(by show 0 ≤ v_158.toInt; omega), (by show v_158.toInt ≤ z_n.toInt; omega), hp_140, hp_141, hp_147, hp_148⟩ (by omega) hw146 (lv_sub hl159 [0, 2, 3, 1, 5, 6, 7] rfl)
        exact loop_122 (Int.toNat (z_n.toInt - 0) + 1) 0 v_117 0 0 _ _ _ ⟨(by show 0 ≤ (0 : Int32).toInt; have k_0 : (0 : Int32).toInt = 0 := (by decide +kernel); omega), (by show (0 : Int32).toInt ≤ z_n.toInt; have k_0 : (0 : Int32).toInt = 0 := (by decide +kernel); omega), (by show 0 ≤ v_117.toInt; omega), (by show v_117.toInt + 1 ≤ (mi 6).toInt; omega), (by show 0 ≤ (0 : Int32).toInt; have k_0 : (0 : Int32).toInt = 0 := (by decide +kernel); omega), (by show (0 : Int32).toInt ≤ 1023; have k_0 : (0 : Int32).toInt = 0 := (by decide +kernel); omega)⟩ (by have k_0 : (0 : Int32).toInt = 0 := (by decide +kernel); have k_2 : (0 : Int32).toInt = 0 := (by decide +kernel); have k_3 : (0 : Int32).toInt = 0 := (by decide +kernel); omega) hw116 (lv_sub hl121 [0, 1, 2, 3, 4, 5, 6] rfl)

set_option maxHeartbeats 4000000 in
set_option maxRecDepth 100000 in
theorem s_mends (l : Launch) (D : va_G) (cI cJ : ClassId) (sz M : Nat) (mr : Nat → Nat) (mi : Nat → Int32) (mf : Nat → Nat → Int32) (mg : Nat → Nat → Int64)  (h0 : 0 ≤ (mi 6).toInt ∧ (mi 6).toInt ≤ 10) (lf_people : pplOK (mi 6).toInt (mf 8)) : Met l yX12_mends (Cond.code yX12_mends cX12_mends 5 (some .boolean) :: GW) ({ frames := 1, cells := 0, slots := 0, locals := 40 } : Room) (va_Pc [.ref M] (PW D cI cJ sz (MW cI cJ M mr mi mf mg) xT)) (va_Qi (fun (r : Int32) (u : (Nat → Int32)) => (0 ≤ r.toInt) ∧ (r.toInt ≤ 1)) (fun u => QW D cI cJ (va_A (MW cI cJ M mr mi mf mg) sz) ((fun (u : (Nat → Int32)) => (MW cI cJ M mr mi (va_up mf 60 u) mg)) u)) (va_A (MW cI cJ M mr mi mf mg) sz)) 0 0 (va_A (MW cI cJ M mr mi mf mg) sz) := by
  refine mk_met (y := yX12_mends) (bytes := cX12_mends) (maxL := 5) (avs := [.ref M]) (WS := (MW cI cJ M mr mi mf mg)) (Qf := fun A => va_Qi (fun (r : Int32) (u : (Nat → Int32)) => (0 ≤ r.toInt) ∧ (r.toInt ≤ 1)) (fun u => QW D cI cJ A ((fun (u : (Nat → Int32)) => (MW cI cJ M mr mi (va_up mf 60 u) mg)) u)) A) (by decide) (Nat.le_of_ble_eq_true rfl) ?_
  intro p e s m below meth c A ls E hr hlk hnm hX hw1 hl2
  have hl3 : lv_has ls 5 [(0, .ref M)] := hl2
  refine lv_iconst (pc := 0) (v := 0) E.1 E.2.1 dX12_mends_0 (by decide +kernel) ?_
  refine lv_istore_n (pc := 1) (lv' := [(1, .int 0), (0, .ref M)]) E.1 E.2.1 dX12_mends_1 rfl hl3 (by decide) rfl (fun ls hl4 => ?_)
  have loop_5 : ∀ (k : Nat) (x_6 : Int32) (g_7 : Nat → Int32) (H : Heap) (locs : List Loc) (ls : Array Slot), (0 ≤ x_6.toInt) ∧ (x_6.toInt ≤ (mi 6).toInt) → (mi 6).toInt - x_6.toInt < (k : Int) → WD D A s.heap (MW cI cJ M mr mi (va_up mf 60 g_7) mg) H locs → lv_has ls 5 [(1, .int x_6), (0, .ref M)] → W p l e ({ frames := 1, cells := 0, slots := 0, locals := 40 } : Room) s m ([.ref M] : List Value).toArray below meth c H locs 0 0 (MQ below (va_Qi (fun (r : Int32) (u : (Nat → Int32)) => (0 ≤ r.toInt) ∧ (r.toInt ≤ 1)) (fun u => QW D cI cJ A ((fun (u : (Nat → Int32)) => (MW cI cJ M mr mi (va_up mf 60 u) mg)) u)) A) ([.ref M] : List Value).toArray s 0 0 A) (F0 m 2 ls []) := by
    intro k
    induction k with
    | zero =>
      intro x_6 g_7 _ _ _ hinv hm
      obtain ⟨hi_7_0, hi_7_1⟩ := hinv
      exact absurd hm (by omega)
    | succ k ih_8 =>
      intro x_6 g_7 H locs ls hinv hm hw9 hl10
      obtain ⟨hi_7_0, hi_7_1⟩ := hinv
      refine lv_iload_n (pc := 2) E.1 E.2.1 dX12_mends_2 rfl (lv_at hl10 0 rfl) ?_
      refine lv_aload_n (pc := 3) E.1 E.2.1 dX12_mends_3 rfl (lv_at hl10 1 rfl) ?_
      refine x_get (pc := 4) (T := TX12) (N := 70) (ci := 12) (v := .int (mi 6)) E hw9 inX12 0 6 q_1405 rfl rfl (by decide) rfl rfl dX12_mends_4 ?_
      refine lv_icmp_ge (pc := 7) (tgt := 31) E.1 E.2.1 dX12_mends_7 (by decide) (fun c_11 => ?_) (fun c_11 => ?_)
      · skip
        have hc_11 := leE (a := (mi 6).toInt) (b := x_6.toInt) rfl rfl c_11
        refine lv_iconst (pc := 31) (v := 1) E.1 E.2.1 dX12_mends_31 (by decide +kernel) ?_
        refine lv_istore_n (pc := 32) (lv' := [(1, .int 1), (0, .ref M)]) E.1 E.2.1 dX12_mends_32 rfl hl10 (by decide) rfl (fun ls hl12 => ?_)
        have loop_13 : ∀ (k : Nat) (x_14 : Int32) (g_15 : Nat → Int32) (H : Heap) (locs : List Loc) (ls : Array Slot), (0 ≤ x_14.toInt) ∧ (x_14.toInt ≤ 1) → sumM g_15 + x_14.toInt < (k : Int) → WD D A s.heap (MW cI cJ M mr mi (va_up mf 60 g_15) mg) H locs → lv_has ls 5 [(1, .int x_14), (0, .ref M)] → W p l e ({ frames := 1, cells := 0, slots := 0, locals := 40 } : Room) s m ([.ref M] : List Value).toArray below meth c H locs 0 0 (MQ below (va_Qi (fun (r : Int32) (u : (Nat → Int32)) => (0 ≤ r.toInt) ∧ (r.toInt ≤ 1)) (fun u => QW D cI cJ A ((fun (u : (Nat → Int32)) => (MW cI cJ M mr mi (va_up mf 60 u) mg)) u)) A) ([.ref M] : List Value).toArray s 0 0 A) (F0 m 33 ls []) := by
          intro k
          induction k with
          | zero =>
            intro x_14 g_15 _ _ _ hinv hm
            obtain ⟨hi_15_0, hi_15_1⟩ := hinv
            exact absurd hm (by have q := sumM_nn g_15; omega)
          | succ k ih_16 =>
            intro x_14 g_15 H locs ls hinv hm hw17 hl18
            obtain ⟨hi_15_0, hi_15_1⟩ := hinv
            refine lv_iload_n (pc := 33) E.1 E.2.1 dX12_mends_33 rfl (lv_at hl18 0 rfl) ?_
            refine lv_if_eq (pc := 34) (tgt := 158) E.1 E.2.1 dX12_mends_34 (by decide) (fun c_19 => ?_) (fun c_19 => ?_)
            · skip
              have hc_19 := eqE (a := x_14.toInt) (b := 0) rfl (by decide +kernel) c_19
              refine lv_iconst (pc := 158) (v := 1) E.1 E.2.1 dX12_mends_158 (by decide +kernel) ?_
              exact em_z (w1 := (fun (u : (Nat → Int32)) => (MW cI cJ M mr mi (va_up mf 60 u) mg))) E hr hlk g_15 hw17 ⟨(by show 0 ≤ (1 : Int32).toInt; have k_0 : (1 : Int32).toInt = 1 := (by decide +kernel); omega), (by show (1 : Int32).toInt ≤ 1; have k_0 : (1 : Int32).toInt = 1 := (by decide +kernel); omega)⟩ (by decide +kernel) (Nat.le_of_ble_eq_true rfl) (Nat.le_of_ble_eq_true rfl) dX12_mends_159
            · skip
              have hc_19 := neE (a := x_14.toInt) (b := 0) rfl (by decide +kernel) c_19
              refine lv_iconst (pc := 37) (v := 0) E.1 E.2.1 dX12_mends_37 (by decide +kernel) ?_
              refine lv_istore_n (pc := 38) (lv' := [(1, .int 0), (0, .ref M)]) E.1 E.2.1 dX12_mends_38 rfl hl18 (by decide) rfl (fun ls hl20 => ?_)
              refine lv_iconst (pc := 39) (v := 0) E.1 E.2.1 dX12_mends_39 (by decide +kernel) ?_
              refine lv_istore_n (pc := 40) (lv' := [(2, .int 0), (1, .int 0), (0, .ref M)]) E.1 E.2.1 dX12_mends_40 rfl hl20 (by decide) rfl (fun ls hl21 => ?_)
              have loop_22 : ∀ (k : Nat) (x_23 : Int32) (x_24 : Int32) (g_25 : Nat → Int32) (H : Heap) (locs : List Loc) (ls : Array Slot), (0 ≤ x_23.toInt) ∧ (x_23.toInt ≤ (mi 6).toInt) ∧ (0 ≤ x_24.toInt) ∧ (x_24.toInt ≤ 1) ∧ (sumM g_25 + x_24.toInt ≤ sumM g_15) → (mi 6).toInt - x_23.toInt < (k : Int) → WD D A s.heap (MW cI cJ M mr mi (va_up mf 60 g_25) mg) H locs → lv_has ls 5 [(2, .int x_23), (1, .int x_24), (0, .ref M)] → W p l e ({ frames := 1, cells := 0, slots := 0, locals := 40 } : Room) s m ([.ref M] : List Value).toArray below meth c H locs 0 0 (MQ below (va_Qi (fun (r : Int32) (u : (Nat → Int32)) => (0 ≤ r.toInt) ∧ (r.toInt ≤ 1)) (fun u => QW D cI cJ A ((fun (u : (Nat → Int32)) => (MW cI cJ M mr mi (va_up mf 60 u) mg)) u)) A) ([.ref M] : List Value).toArray s 0 0 A) (F0 m 41 ls []) := by
                intro k
                induction k with
                | zero =>
                  intro x_23 x_24 g_25 _ _ _ hinv hm
                  obtain ⟨hi_25_0, hi_25_1, hi_25_2, hi_25_3, hi_25_4⟩ := hinv
                  exact absurd hm (by omega)
                | succ k ih_26 =>
                  intro x_23 x_24 g_25 H locs ls hinv hm hw27 hl28
                  obtain ⟨hi_25_0, hi_25_1, hi_25_2, hi_25_3, hi_25_4⟩ := hinv
                  refine lv_iload_n (pc := 41) E.1 E.2.1 dX12_mends_41 rfl (lv_at hl28 0 rfl) ?_
                  refine lv_aload_n (pc := 42) E.1 E.2.1 dX12_mends_42 rfl (lv_at hl28 2 rfl) ?_
                  refine x_get (pc := 43) (T := TX12) (N := 70) (ci := 12) (v := .int (mi 6)) E hw27 inX12 0 6 q_1405 rfl rfl (by decide) rfl rfl dX12_mends_43 ?_
                  refine lv_icmp_ge (pc := 46) (tgt := 155) E.1 E.2.1 dX12_mends_46 (by decide) (fun c_29 => ?_) (fun c_29 => ?_)
                  · skip
                    have hc_29 := leE (a := (mi 6).toInt) (b := x_23.toInt) rfl rfl c_29
                    refine lv_goto (pc := 155) (tgt := 33) E.1 E.2.1 dX12_mends_155 (by decide) ?_
                    exact ih_16 x_24 g_25 _ _ _ ⟨hi_25_2, hi_25_3⟩ (by have q := hi_25_4; omega) hw27 (lv_sub hl28 [1, 2] rfl)
                  · skip
                    have hc_29 := nleE (a := (mi 6).toInt) (b := x_23.toInt) rfl rfl c_29
                    refine lv_iconst (pc := 49) (v := 0) E.1 E.2.1 dX12_mends_49 (by decide +kernel) ?_
                    refine lv_istore_n (pc := 50) (lv' := [(3, .int 0), (2, .int x_23), (1, .int x_24), (0, .ref M)]) E.1 E.2.1 dX12_mends_50 rfl hl28 (by decide) rfl (fun ls hl30 => ?_)
                    have loop_31 : ∀ (k : Nat) (x_32 : Int32) (x_33 : Int32) (g_34 : Nat → Int32) (H : Heap) (locs : List Loc) (ls : Array Slot), (0 ≤ x_32.toInt) ∧ (x_32.toInt ≤ (mi 6).toInt) ∧ (0 ≤ x_33.toInt) ∧ (x_33.toInt ≤ 1) ∧ (sumM g_34 + x_33.toInt ≤ sumM g_15) → (mi 6).toInt - x_32.toInt < (k : Int) → WD D A s.heap (MW cI cJ M mr mi (va_up mf 60 g_34) mg) H locs → lv_has ls 5 [(3, .int x_32), (2, .int x_23), (1, .int x_33), (0, .ref M)] → W p l e ({ frames := 1, cells := 0, slots := 0, locals := 40 } : Room) s m ([.ref M] : List Value).toArray below meth c H locs 0 0 (MQ below (va_Qi (fun (r : Int32) (u : (Nat → Int32)) => (0 ≤ r.toInt) ∧ (r.toInt ≤ 1)) (fun u => QW D cI cJ A ((fun (u : (Nat → Int32)) => (MW cI cJ M mr mi (va_up mf 60 u) mg)) u)) A) ([.ref M] : List Value).toArray s 0 0 A) (F0 m 51 ls []) := by
                      intro k
                      induction k with
                      | zero =>
                        intro x_32 x_33 g_34 _ _ _ hinv hm
                        obtain ⟨hi_34_0, hi_34_1, hi_34_2, hi_34_3, hi_34_4⟩ := hinv
                        exact absurd hm (by omega)
                      | succ k ih_35 =>
                        intro x_32 x_33 g_34 H locs ls hinv hm hw36 hl37
                        obtain ⟨hi_34_0, hi_34_1, hi_34_2, hi_34_3, hi_34_4⟩ := hinv
                        refine lv_iload_n (pc := 51) E.1 E.2.1 dX12_mends_51 rfl (lv_at hl37 0 rfl) ?_
                        refine lv_aload_n (pc := 52) E.1 E.2.1 dX12_mends_52 rfl (lv_at hl37 3 rfl) ?_
                        refine x_get (pc := 53) (T := TX12) (N := 70) (ci := 12) (v := .int (mi 6)) E hw36 inX12 0 6 q_1405 rfl rfl (by decide) rfl rfl dX12_mends_53 ?_
                        refine lv_icmp_ge (pc := 56) (tgt := 125) E.1 E.2.1 dX12_mends_56 (by decide) (fun c_38 => ?_) (fun c_38 => ?_)
                        · skip
                          have hc_38 := leE (a := (mi 6).toInt) (b := x_32.toInt) rfl rfl c_38
                          refine lv_aload_n (pc := 125) E.1 E.2.1 dX12_mends_125 rfl (lv_at hl37 3 rfl) ?_
                          refine x_get (pc := 126) (T := TX12) (N := 70) (ci := 12) (v := .ref (mr 60)) E hw36 inX12 0 60 q_1459 rfl rfl (by decide) rfl rfl dX12_mends_126 ?_
                          refine lv_iload_n (pc := 129) E.1 E.2.1 dX12_mends_129 rfl (lv_at hl37 1 rfl) ?_
                          refine x_iald (pc := 130) (f := g_34) E hw36 32 rfl (inbE (a := x_23.toInt) rfl (by omega)) dX12_mends_130 ?_
                          refine lv_topi (fun v_39 ev_39 => ?_)
                          refine lv_aload_n (pc := 131) E.1 E.2.1 dX12_mends_131 rfl (lv_at hl37 3 rfl) ?_
                          refine x_get (pc := 132) (T := TX12) (N := 70) (ci := 12) (v := .ref (mr 1)) E hw36 inX12 0 1 q_1400 rfl rfl (by decide) rfl rfl dX12_mends_132 ?_
                          refine lv_bipush (pc := 135) (v := 26) E.1 E.2.1 dX12_mends_135 (by decide +kernel) ?_
                          refine lv_iload_n (pc := 137) E.1 E.2.1 dX12_mends_137 rfl (lv_at hl37 1 rfl) ?_
                          refine lv_iadd (pc := 138) E.1 E.2.1 dX12_mends_138 ?_
                          refine lv_topi (fun v_40 ev_40 => ?_)
                          have hv_40 : v_40.toInt = 26 + x_23.toInt := by rw [ev_40]; exact addE (by decide +kernel) rfl (by omega)
                          refine x_iald (pc := 139) (f := (mf 1)) E hw36 1 rfl (inbE (a := v_40.toInt) rfl (by omega)) dX12_mends_139 ?_
                          refine lv_topi (fun v_41 ev_41 => ?_)
                          refine lv_isub (pc := 140) E.1 E.2.1 dX12_mends_140 ?_
                          refine lv_topi (fun v_42 ev_42 => ?_)
                          refine lv_sipush (pc := 141) (v := 9999) E.1 E.2.1 dX12_mends_141 (by decide +kernel) ?_
                          refine lv_icmp_le (pc := 144) (tgt := 149) E.1 E.2.1 dX12_mends_144 (by decide) (fun c_43 => ?_) (fun c_43 => ?_)
                          · skip
                            have hc_43 := leE (a := v_42.toInt) (b := 9999) rfl (by decide +kernel) c_43
                            obtain ⟨v_44, ev_44⟩ : ∃ z : Int32, x_23 + Int32.ofInt (1) = z := ⟨_, rfl⟩
                            have hv_44 : v_44.toInt = x_23.toInt + (1) := by rw [← ev_44]; exact incE rfl (by decide) (by omega)
                            refine lv_iinc (pc := 149) (v := v_44) (lv' := [(2, .int v_44), (3, .int x_32), (1, .int x_33), (0, .ref M)]) E.1 E.2.1 dX12_mends_149 hl37 (k := 1) rfl ev_44 (by decide) rfl (fun ls hl45 => ?_)
                            refine lv_goto (pc := 152) (tgt := 41) E.1 E.2.1 dX12_mends_152 (by decide) ?_
                            exact ih_26 v_44 x_33 g_34 _ _ _ ⟨(by show 0 ≤ v_44.toInt; omega), (by show v_44.toInt ≤ (mi 6).toInt; omega), hi_34_2, hi_34_3, (by have q2 := hi_34_4; omega)⟩ (by omega) hw36 (lv_sub hl45 [0, 2, 3] rfl)
                          · skip
                            have hc_43 := nleE (a := v_42.toInt) (b := 9999) rfl (by decide +kernel) c_43
                            refine lv_iconst (pc := 147) (v := 0) E.1 E.2.1 dX12_mends_147 (by decide +kernel) ?_
                            exact em_z (w1 := (fun (u : (Nat → Int32)) => (MW cI cJ M mr mi (va_up mf 60 u) mg))) E hr hlk g_34 hw36 ⟨(by show 0 ≤ (0 : Int32).toInt; have k_0 : (0 : Int32).toInt = 0 := (by decide +kernel); omega), (by show (0 : Int32).toInt ≤ 1; have k_0 : (0 : Int32).toInt = 0 := (by decide +kernel); omega)⟩ (by decide +kernel) (Nat.le_of_ble_eq_true rfl) (Nat.le_of_ble_eq_true rfl) dX12_mends_148
                        · skip
                          have hc_38 := nleE (a := (mi 6).toInt) (b := x_32.toInt) rfl rfl c_38
                          refine lv_aload_n (pc := 59) E.1 E.2.1 dX12_mends_59 rfl (lv_at hl37 3 rfl) ?_
                          refine x_get (pc := 60) (T := TX12) (N := 70) (ci := 12) (v := .ref (mr 60)) E hw36 inX12 0 60 q_1459 rfl rfl (by decide) rfl rfl dX12_mends_60 ?_
                          refine lv_iload_n (pc := 63) E.1 E.2.1 dX12_mends_63 rfl (lv_at hl37 0 rfl) ?_
                          refine x_iald (pc := 64) (f := g_34) E hw36 32 rfl (inbE (a := x_32.toInt) rfl (by omega)) dX12_mends_64 ?_
                          refine lv_topi (fun v_46 ev_46 => ?_)
                          refine lv_aload_n (pc := 65) E.1 E.2.1 dX12_mends_65 rfl (lv_at hl37 3 rfl) ?_
                          refine x_get (pc := 66) (T := TX12) (N := 70) (ci := 12) (v := .ref (mr 8)) E hw36 inX12 0 8 q_1407 rfl rfl (by decide) rfl rfl dX12_mends_66 ?_
                          refine lv_iload_n (pc := 69) E.1 E.2.1 dX12_mends_69 rfl (lv_at hl37 1 rfl) ?_
                          refine x_iald (pc := 70) (f := (mf 8)) E hw36 5 rfl (inbE (a := x_23.toInt) rfl (by omega)) dX12_mends_70 ?_
                          refine lv_topi (fun v_47 ev_47 => ?_)
                          refine lv_imul (pc := 71) E.1 E.2.1 dX12_mends_71 ?_
                          refine lv_topi (fun v_48 ev_48 => ?_)
                          refine lv_aload_n (pc := 72) E.1 E.2.1 dX12_mends_72 rfl (lv_at hl37 3 rfl) ?_
                          refine x_get (pc := 73) (T := TX12) (N := 70) (ci := 12) (v := .ref (mr 8)) E hw36 inX12 0 8 q_1407 rfl rfl (by decide) rfl rfl dX12_mends_73 ?_
                          refine lv_iload_n (pc := 76) E.1 E.2.1 dX12_mends_76 rfl (lv_at hl37 0 rfl) ?_
                          refine x_iald (pc := 77) (f := (mf 8)) E hw36 5 rfl (inbE (a := x_32.toInt) rfl (by omega)) dX12_mends_77 ?_
                          refine lv_topi (fun v_49 ev_49 => ?_)
                          refine lv_iadd (pc := 78) E.1 E.2.1 dX12_mends_78 ?_
                          refine lv_topi (fun v_50 ev_50 => ?_)
                          refine lv_iconst (pc := 79) (v := 1) E.1 E.2.1 dX12_mends_79 (by decide +kernel) ?_
                          refine lv_isub (pc := 80) E.1 E.2.1 dX12_mends_80 ?_
                          refine lv_topi (fun v_51 ev_51 => ?_)
                          refine lv_aload_n (pc := 81) E.1 E.2.1 dX12_mends_81 rfl (lv_at hl37 3 rfl) ?_
                          refine x_get (pc := 82) (T := TX12) (N := 70) (ci := 12) (v := .ref (mr 8)) E hw36 inX12 0 8 q_1407 rfl rfl (by decide) rfl rfl dX12_mends_82 ?_
                          refine lv_iload_n (pc := 85) E.1 E.2.1 dX12_mends_85 rfl (lv_at hl37 0 rfl) ?_
                          refine x_iald (pc := 86) (f := (mf 8)) E hw36 5 rfl (inbE (a := x_32.toInt) rfl (by omega)) dX12_mends_86 ?_
                          refine lv_topi (fun v_52 ev_52 => ?_)
                          have hsv_52 : v_52.toInt = v_49.toInt := by rw [ev_52, ev_49]
                          have hppv_52 := pplOK_at lf_people ev_52 (by omega)
                          refine lv_idiv (pc := 87) E.1 E.2.1 dX12_mends_87 (mneE (a := v_52.toInt) (b := 0) rfl (by decide +kernel) (by omega)) ?_
                          refine lv_topi (fun v_53 ev_53 => ?_)
                          refine lv_aload_n (pc := 88) E.1 E.2.1 dX12_mends_88 rfl (lv_at hl37 3 rfl) ?_
                          refine x_get (pc := 89) (T := TX12) (N := 70) (ci := 12) (v := .int (mi 13)) E hw36 inX12 0 13 q_1412 rfl rfl (by decide) rfl rfl dX12_mends_89 ?_
                          refine lv_isub (pc := 92) E.1 E.2.1 dX12_mends_92 ?_
                          refine lv_topi (fun v_54 ev_54 => ?_)
                          refine lv_istore (pc := 93) (lv' := [(4, .int v_54), (3, .int x_32), (2, .int x_23), (1, .int x_33), (0, .ref M)]) E.1 E.2.1 dX12_mends_93 hl37 (by decide) rfl (fun ls hl55 => ?_)
                          refine lv_iload (pc := 95) E.1 E.2.1 dX12_mends_95 (lv_at hl55 0 rfl) ?_
                          refine lv_aload_n (pc := 97) E.1 E.2.1 dX12_mends_97 rfl (lv_at hl55 4 rfl) ?_
                          refine x_get (pc := 98) (T := TX12) (N := 70) (ci := 12) (v := .ref (mr 60)) E hw36 inX12 0 60 q_1459 rfl rfl (by decide) rfl rfl dX12_mends_98 ?_
                          refine lv_iload_n (pc := 101) E.1 E.2.1 dX12_mends_101 rfl (lv_at hl55 2 rfl) ?_
                          refine x_iald (pc := 102) (f := g_34) E hw36 32 rfl (inbE (a := x_23.toInt) rfl (by omega)) dX12_mends_102 ?_
                          refine lv_topi (fun v_56 ev_56 => ?_)
                          refine lv_icmp_gt (pc := 103) (tgt := 109) E.1 E.2.1 dX12_mends_103 (by decide) (fun c_57 => ?_) (fun c_57 => ?_)
                          · skip
                            have hc_57 := ltE (a := v_56.toInt) (b := v_54.toInt) rfl rfl c_57
                            refine lv_aload_n (pc := 109) E.1 E.2.1 dX12_mends_109 rfl (lv_at hl55 4 rfl) ?_
                            refine x_get (pc := 110) (T := TX12) (N := 70) (ci := 12) (v := .ref (mr 60)) E hw36 inX12 0 60 q_1459 rfl rfl (by decide) rfl rfl dX12_mends_110 ?_
                            refine lv_iload_n (pc := 113) E.1 E.2.1 dX12_mends_113 rfl (lv_at hl55 2 rfl) ?_
                            refine lv_iload (pc := 114) E.1 E.2.1 dX12_mends_114 (lv_at hl55 0 rfl) ?_
                            refine x_iastG (pc := 116) (f := g_34) (wf := fun g => (MW cI cJ M mr mi (va_up mf 60 g) mg)) E hw36 32 rfl (inbE (a := x_23.toInt) rfl (by omega)) (fun _ => rfl) dX12_mends_116 (fun g_58 H locs eg_58 hw59 => ?_)
                            refine lv_iconst (pc := 117) (v := 1) E.1 E.2.1 dX12_mends_117 (by decide +kernel) ?_
                            refine lv_istore_n (pc := 118) (lv' := [(1, .int 1), (4, .int v_54), (3, .int x_32), (2, .int x_23), (0, .ref M)]) E.1 E.2.1 dX12_mends_118 rfl hl55 (by decide) rfl (fun ls hl60 => ?_)
                            obtain ⟨v_61, ev_61⟩ : ∃ z : Int32, x_32 + Int32.ofInt (1) = z := ⟨_, rfl⟩
                            have hv_61 : v_61.toInt = x_32.toInt + (1) := by rw [← ev_61]; exact incE rfl (by decide) (by omega)
                            refine lv_iinc (pc := 119) (v := v_61) (lv' := [(3, .int v_61), (1, .int 1), (4, .int v_54), (2, .int x_23), (0, .ref M)]) E.1 E.2.1 dX12_mends_119 hl60 (k := 2) rfl ev_61 (by decide) rfl (fun ls hl62 => ?_)
                            refine lv_goto (pc := 122) (tgt := 51) E.1 E.2.1 dX12_mends_122 (by decide) ?_
                            exact ih_35 v_61 1 g_58 _ _ _ ⟨(by show 0 ≤ v_61.toInt; omega), (by show v_61.toInt ≤ (mi 6).toInt; omega), (by show 0 ≤ (1 : Int32).toInt; have k_0 : (1 : Int32).toInt = 1 := (by decide +kernel); omega), (by show (1 : Int32).toInt ≤ 1; have k_0 : (1 : Int32).toInt = 1 := (by decide +kernel); omega), (by have q := sumM_upd eg_58 ev_56 (by omega) (by omega) (by omega); have q2 := hi_34_4; have k9 : (1 : Int32).toInt = 1 := (by decide +kernel); omega)⟩ (by have k_0 : (1 : Int32).toInt = 1 := (by decide +kernel); omega) hw59 (lv_sub hl62 [0, 3, 1, 4] rfl)
                          · skip
                            have hc_57 := nltE (a := v_56.toInt) (b := v_54.toInt) rfl rfl c_57
                            refine lv_goto (pc := 106) (tgt := 119) E.1 E.2.1 dX12_mends_106 (by decide) ?_
                            obtain ⟨v_63, ev_63⟩ : ∃ z : Int32, x_32 + Int32.ofInt (1) = z := ⟨_, rfl⟩
                            have hv_63 : v_63.toInt = x_32.toInt + (1) := by rw [← ev_63]; exact incE rfl (by decide) (by omega)
                            refine lv_iinc (pc := 119) (v := v_63) (lv' := [(3, .int v_63), (4, .int v_54), (2, .int x_23), (1, .int x_33), (0, .ref M)]) E.1 E.2.1 dX12_mends_119 hl55 (k := 1) rfl ev_63 (by decide) rfl (fun ls hl64 => ?_)
                            refine lv_goto (pc := 122) (tgt := 51) E.1 E.2.1 dX12_mends_122 (by decide) ?_
                            exact ih_35 v_63 x_33 g_34 _ _ _ ⟨(by show 0 ≤ v_63.toInt; omega), (by show v_63.toInt ≤ (mi 6).toInt; omega), hi_34_2, hi_34_3, (by have q2 := hi_34_4; omega)⟩ (by omega) hw36 (lv_sub hl64 [0, 2, 3, 4] rfl)
                    exact loop_31 (Int.toNat ((mi 6).toInt - 0) + 1) 0 x_24 g_25 _ _ _ ⟨(by show 0 ≤ (0 : Int32).toInt; have k_0 : (0 : Int32).toInt = 0 := (by decide +kernel); omega), (by show (0 : Int32).toInt ≤ (mi 6).toInt; have k_0 : (0 : Int32).toInt = 0 := (by decide +kernel); omega), hi_25_2, hi_25_3, (by have q2 := hi_25_4; omega)⟩ (by have k_0 : (0 : Int32).toInt = 0 := (by decide +kernel); omega) hw27 (lv_sub hl30 [0, 1, 2, 3] rfl)
              exact loop_22 (Int.toNat ((mi 6).toInt - 0) + 1) 0 0 g_15 _ _ _ ⟨(by show 0 ≤ (0 : Int32).toInt; have k_0 : (0 : Int32).toInt = 0 := (by decide +kernel); omega), (by show (0 : Int32).toInt ≤ (mi 6).toInt; have k_0 : (0 : Int32).toInt = 0 := (by decide +kernel); omega), (by show 0 ≤ (0 : Int32).toInt; have k_0 : (0 : Int32).toInt = 0 := (by decide +kernel); omega), (by show (0 : Int32).toInt ≤ 1; have k_0 : (0 : Int32).toInt = 0 := (by decide +kernel); omega), (by have k9 : (0 : Int32).toInt = 0 := (by decide +kernel); omega)⟩ (by have k_0 : (0 : Int32).toInt = 0 := (by decide +kernel); have k_1 : (0 : Int32).toInt = 0 := (by decide +kernel); omega) hw17 (lv_sub hl21 [0, 1, 2] rfl)
        exact loop_13 (Int.toNat (sumM g_7 + (1 : Int32).toInt) + 1) 1 g_7 _ _ _ ⟨(by show 0 ≤ (1 : Int32).toInt; have k_0 : (1 : Int32).toInt = 1 := (by decide +kernel); omega), (by show (1 : Int32).toInt ≤ 1; have k_0 : (1 : Int32).toInt = 1 := (by decide +kernel); omega)⟩ (by have k_0 : (1 : Int32).toInt = 1 := (by decide +kernel); omega) hw9 (lv_sub hl12 [0, 1] rfl)
      · skip
        have hc_11 := nleE (a := (mi 6).toInt) (b := x_6.toInt) rfl rfl c_11
        refine lv_aload_n (pc := 10) E.1 E.2.1 dX12_mends_10 rfl (lv_at hl10 1 rfl) ?_
        refine x_get (pc := 11) (T := TX12) (N := 70) (ci := 12) (v := .ref (mr 60)) E hw9 inX12 0 60 q_1459 rfl rfl (by decide) rfl rfl dX12_mends_11 ?_
        refine lv_iload_n (pc := 14) E.1 E.2.1 dX12_mends_14 rfl (lv_at hl10 0 rfl) ?_
        refine lv_aload_n (pc := 15) E.1 E.2.1 dX12_mends_15 rfl (lv_at hl10 1 rfl) ?_
        refine x_get (pc := 16) (T := TX12) (N := 70) (ci := 12) (v := .ref (mr 1)) E hw9 inX12 0 1 q_1400 rfl rfl (by decide) rfl rfl dX12_mends_16 ?_
        refine lv_bipush (pc := 19) (v := 26) E.1 E.2.1 dX12_mends_19 (by decide +kernel) ?_
        refine lv_iload_n (pc := 21) E.1 E.2.1 dX12_mends_21 rfl (lv_at hl10 0 rfl) ?_
        refine lv_iadd (pc := 22) E.1 E.2.1 dX12_mends_22 ?_
        refine lv_topi (fun v_65 ev_65 => ?_)
        have hv_65 : v_65.toInt = 26 + x_6.toInt := by rw [ev_65]; exact addE (by decide +kernel) rfl (by omega)
        refine x_iald (pc := 23) (f := (mf 1)) E hw9 1 rfl (inbE (a := v_65.toInt) rfl (by omega)) dX12_mends_23 ?_
        refine lv_topi (fun v_66 ev_66 => ?_)
        refine x_iastG (pc := 24) (f := g_7) (wf := fun g => (MW cI cJ M mr mi (va_up mf 60 g) mg)) E hw9 32 rfl (inbE (a := x_6.toInt) rfl (by omega)) (fun _ => rfl) dX12_mends_24 (fun g_67 H locs eg_67 hw68 => ?_)
        obtain ⟨v_69, ev_69⟩ : ∃ z : Int32, x_6 + Int32.ofInt (1) = z := ⟨_, rfl⟩
        have hv_69 : v_69.toInt = x_6.toInt + (1) := by rw [← ev_69]; exact incE rfl (by decide) (by omega)
        refine lv_iinc (pc := 25) (v := v_69) (lv' := [(1, .int v_69), (0, .ref M)]) E.1 E.2.1 dX12_mends_25 hl10 (k := 0) rfl ev_69 (by decide) rfl (fun ls hl70 => ?_)
        refine lv_goto (pc := 28) (tgt := 2) E.1 E.2.1 dX12_mends_28 (by decide) ?_
        exact ih_8 v_69 g_67 _ _ _ ⟨(by show 0 ≤ v_69.toInt; omega), (by show v_69.toInt ≤ (mi 6).toInt; omega)⟩ (by omega) hw68 (lv_sub hl70 [0, 1] rfl)
  exact loop_5 (Int.toNat ((mi 6).toInt - 0) + 1) 0 (mf 60) _ _ _ ⟨(by show 0 ≤ (0 : Int32).toInt; have k_0 : (0 : Int32).toInt = 0 := (by decide +kernel); omega), (by show (0 : Int32).toInt ≤ (mi 6).toInt; have k_0 : (0 : Int32).toInt = 0 := (by decide +kernel); omega)⟩ (by have k_0 : (0 : Int32).toInt = 0 := (by decide +kernel); omega) hw1 (lv_sub hl4 [0, 1] rfl)

set_option maxHeartbeats 4000000 in
set_option maxRecDepth 100000 in
theorem s_mend (l : Launch) (D : va_G) (cI cJ : ClassId) (sz M : Nat) (mr : Nat → Nat) (mi : Nat → Int32) (mf : Nat → Nat → Int32) (mg : Nat → Nat → Int64) (z_house : Int32) (h0 : 0 ≤ (mi 6).toInt ∧ (mi 6).toInt ≤ 10) (lf_people : pplOK (mi 6).toInt (mf 8)) : Met l yX12_mend (Cond.code yX12_mend cX12_mend 4 (some .int) :: GW) ({ frames := 2, cells := 0, slots := 0, locals := 64 } : Room) (va_Pc [.ref M, .int z_house] (PW D cI cJ sz (MW cI cJ M mr mi mf mg) xT)) (va_Qi (fun (r : Int32) (u : Int32 × (Nat → Int32)) => True) (fun u => QW D cI cJ (va_A (MW cI cJ M mr mi mf mg) sz) ((fun (u : Int32 × (Nat → Int32)) => (MW cI cJ M mr (upd mi 0 u.1) (va_up mf 60 u.2) mg)) u)) (va_A (MW cI cJ M mr mi mf mg) sz)) 0 0 (va_A (MW cI cJ M mr mi mf mg) sz) := by
  refine mk_met (y := yX12_mend) (bytes := cX12_mend) (maxL := 4) (avs := [.ref M, .int z_house]) (WS := (MW cI cJ M mr mi mf mg)) (Qf := fun A => va_Qi (fun (r : Int32) (u : Int32 × (Nat → Int32)) => True) (fun u => QW D cI cJ A ((fun (u : Int32 × (Nat → Int32)) => (MW cI cJ M mr (upd mi 0 u.1) (va_up mf 60 u.2) mg)) u)) A) (by decide) (Nat.le_of_ble_eq_true rfl) ?_
  intro p e s m below meth c A ls E hr hlk hnm hX hw1 hl2
  have hl3 : lv_has ls 4 [(0, .ref M), (1, .int z_house)] := hl2
  refine lv_aload_n (pc := 0) E.1 E.2.1 dX12_mend_0 rfl (lv_at hl3 0 rfl) ?_
  refine lv_iconst (pc := 1) (v := 0) E.1 E.2.1 dX12_mend_1 (by decide +kernel) ?_
  refine x_put (pc := 2) (T := TX12) (N := 70) (ci := 12) (ws' := (MW cI cJ M mr (upd mi 0 0) mf mg)) E hw1 inX12 tyX12_ok nmX12 0 0 q_1399 rfl rfl (by decide) rfl rfl rfl rfl (Nat.le_of_ble_eq_true rfl) rfl dX12_mend_2 (fun H locs hw4 => ?_)
  refine lv_iload_n (pc := 5) E.1 E.2.1 dX12_mend_5 rfl (lv_at hl3 1 rfl) ?_
  refine lv_iconst (pc := 6) (v := (-1)) E.1 E.2.1 dX12_mend_6 (by decide +kernel) ?_
  refine lv_icmp_eq (pc := 7) (tgt := 18) E.1 E.2.1 dX12_mend_7 (by decide) (fun c_5 => ?_) (fun c_5 => ?_)
  · skip
    have hc_5 := eqE (a := z_house.toInt) (b := (-1)) rfl (by decide +kernel) c_5
    refine lv_aload_n (pc := 18) E.1 E.2.1 dX12_mend_18 rfl (lv_at hl3 0 rfl) ?_
    refine cm_i (pc := 19) hw4 (rn_M (As := []) (rest := []) E hw4 (s_mends l D cI cJ _ M mr (upd mi 0 0) mf mg h0 (show pplOK (mi 6).toInt (mf 8) from lf_people)) (gdV q_2018 q_2020 q_130 q_162 q_2021) hdV_X12_mends ⟨rfl, rfl⟩ ⟨(Nat.le_of_ble_eq_true rfl), (Nat.le_of_ble_eq_true rfl)⟩ ⟨(Nat.le_of_ble_eq_true rfl), (Nat.le_of_ble_eq_true rfl)⟩ 12 rfl rfl rfl rfl hl3.1 rfl (Nat.le_of_ble_eq_true rfl) dX12_mend_19) (fun r_7 u_6 H1 locs hp hw8 => ?_)
    obtain ⟨gmended_9, rfl⟩ : ∃ z, z = u_6 := ⟨_, rfl⟩
    generalize H1 = H at hw8 ⊢
    have hw10 : WD D A s.heap (MW cI cJ M mr (upd mi 0 0) (va_up mf 60 gmended_9) mg) H locs := hw8
    obtain ⟨hp_11, hp_12⟩ := hp
    have hp_11 : 0 ≤ r_7.toInt := hp_11
    have hp_12 : r_7.toInt ≤ 1 := hp_12
    refine lv_if_ne (pc := 22) (tgt := 27) E.1 E.2.1 dX12_mend_22 (by decide) (fun c_13 => ?_) (fun c_13 => ?_)
    · skip
      have hc_13 := neE (a := r_7.toInt) (b := 0) rfl (by decide +kernel) c_13
      refine lv_iconst (pc := 27) (v := 0) E.1 E.2.1 dX12_mend_27 (by decide +kernel) ?_
      refine lv_istore_n (pc := 28) (lv' := [(2, .int 0), (0, .ref M), (1, .int z_house)]) E.1 E.2.1 dX12_mend_28 rfl hl3 (by decide) rfl (fun ls hl14 => ?_)
      refine lv_iconst (pc := 29) (v := 0) E.1 E.2.1 dX12_mend_29 (by decide +kernel) ?_
      refine lv_istore_n (pc := 30) (lv' := [(3, .int 0), (2, .int 0), (0, .ref M), (1, .int z_house)]) E.1 E.2.1 dX12_mend_30 rfl hl14 (by decide) rfl (fun ls hl15 => ?_)
      have loop_16 : ∀ (k : Nat) (x_17 : Int32) (x_18 : Int32) (H : Heap) (locs : List Loc) (ls : Array Slot), (0 ≤ x_17.toInt) ∧ (x_17.toInt ≤ (mi 6).toInt) → (mi 6).toInt - x_17.toInt < (k : Int) → WD D A s.heap (MW cI cJ M mr (upd mi 0 0) (va_up mf 60 gmended_9) mg) H locs → lv_has ls 4 [(3, .int x_17), (2, .int x_18), (0, .ref M), (1, .int z_house)] → W p l e ({ frames := 2, cells := 0, slots := 0, locals := 64 } : Room) s m ([.ref M, .int z_house] : List Value).toArray below meth c H locs 0 0 (MQ below (va_Qi (fun (r : Int32) (u : Int32 × (Nat → Int32)) => True) (fun u => QW D cI cJ A ((fun (u : Int32 × (Nat → Int32)) => (MW cI cJ M mr (upd mi 0 u.1) (va_up mf 60 u.2) mg)) u)) A) ([.ref M, .int z_house] : List Value).toArray s 0 0 A) (F0 m 31 ls []) := by
        intro k
        induction k with
        | zero =>
          intro x_17 x_18 _ _ _ hinv hm
          obtain ⟨hi_18_0, hi_18_1⟩ := hinv
          exact absurd hm (by omega)
        | succ k ih_19 =>
          intro x_17 x_18 H locs ls hinv hm hw20 hl21
          obtain ⟨hi_18_0, hi_18_1⟩ := hinv
          refine lv_iload_n (pc := 31) E.1 E.2.1 dX12_mend_31 rfl (lv_at hl21 0 rfl) ?_
          refine lv_aload_n (pc := 32) E.1 E.2.1 dX12_mend_32 rfl (lv_at hl21 2 rfl) ?_
          refine x_get (pc := 33) (T := TX12) (N := 70) (ci := 12) (v := .int (mi 6)) E hw20 inX12 0 6 q_1405 rfl rfl (by decide) rfl rfl dX12_mend_33 ?_
          refine lv_icmp_ge (pc := 36) (tgt := 74) E.1 E.2.1 dX12_mend_36 (by decide) (fun c_22 => ?_) (fun c_22 => ?_)
          · skip
            have hc_22 := leE (a := (mi 6).toInt) (b := x_17.toInt) rfl rfl c_22
            refine lv_iload_n (pc := 74) E.1 E.2.1 dX12_mend_74 rfl (lv_at hl21 1 rfl) ?_
            exact em_i (w1 := (fun (u : Int32 × (Nat → Int32)) => (MW cI cJ M mr (upd mi 0 u.1) (va_up mf 60 u.2) mg))) E hr hlk (0, gmended_9) hw20 trivial (Nat.le_of_ble_eq_true rfl) (Nat.le_of_ble_eq_true rfl) dX12_mend_75
          · skip
            have hc_22 := nleE (a := (mi 6).toInt) (b := x_17.toInt) rfl rfl c_22
            refine lv_iload_n (pc := 39) E.1 E.2.1 dX12_mend_39 rfl (lv_at hl21 3 rfl) ?_
            refine lv_iconst (pc := 40) (v := (-1)) E.1 E.2.1 dX12_mend_40 (by decide +kernel) ?_
            refine lv_icmp_eq (pc := 41) (tgt := 49) E.1 E.2.1 dX12_mend_41 (by decide) (fun _ => ?_) (fun c_23 => absurd (meqE (a := z_house.toInt) (b := (-1)) rfl (by decide +kernel) (by omega)) c_23)
            refine lv_iload_n (pc := 49) E.1 E.2.1 dX12_mend_49 rfl (lv_at hl21 1 rfl) ?_
            refine lv_aload_n (pc := 50) E.1 E.2.1 dX12_mend_50 rfl (lv_at hl21 2 rfl) ?_
            refine x_get (pc := 51) (T := TX12) (N := 70) (ci := 12) (v := .ref (mr 60)) E hw20 inX12 0 60 q_1459 rfl rfl (by decide) rfl rfl dX12_mend_51 ?_
            refine lv_iload_n (pc := 54) E.1 E.2.1 dX12_mend_54 rfl (lv_at hl21 0 rfl) ?_
            refine x_iald (pc := 55) (f := gmended_9) E hw20 32 rfl (inbE (a := x_17.toInt) rfl (by omega)) dX12_mend_55 ?_
            refine lv_topi (fun v_24 ev_24 => ?_)
            refine lv_iadd (pc := 56) E.1 E.2.1 dX12_mend_56 ?_
            refine lv_topi (fun v_25 ev_25 => ?_)
            refine lv_aload_n (pc := 57) E.1 E.2.1 dX12_mend_57 rfl (lv_at hl21 2 rfl) ?_
            refine x_get (pc := 58) (T := TX12) (N := 70) (ci := 12) (v := .ref (mr 1)) E hw20 inX12 0 1 q_1400 rfl rfl (by decide) rfl rfl dX12_mend_58 ?_
            refine lv_bipush (pc := 61) (v := 26) E.1 E.2.1 dX12_mend_61 (by decide +kernel) ?_
            refine lv_iload_n (pc := 63) E.1 E.2.1 dX12_mend_63 rfl (lv_at hl21 0 rfl) ?_
            refine lv_iadd (pc := 64) E.1 E.2.1 dX12_mend_64 ?_
            refine lv_topi (fun v_26 ev_26 => ?_)
            have hv_26 : v_26.toInt = 26 + x_17.toInt := by rw [ev_26]; exact addE (by decide +kernel) rfl (by omega)
            refine x_iald (pc := 65) (f := (mf 1)) E hw20 1 rfl (inbE (a := v_26.toInt) rfl (by omega)) dX12_mend_65 ?_
            refine lv_topi (fun v_27 ev_27 => ?_)
            refine lv_isub (pc := 66) E.1 E.2.1 dX12_mend_66 ?_
            refine lv_topi (fun v_28 ev_28 => ?_)
            refine lv_istore_n (pc := 67) (lv' := [(2, .int v_28), (3, .int x_17), (0, .ref M), (1, .int z_house)]) E.1 E.2.1 dX12_mend_67 rfl hl21 (by decide) rfl (fun ls hl29 => ?_)
            obtain ⟨v_30, ev_30⟩ : ∃ z : Int32, x_17 + Int32.ofInt (1) = z := ⟨_, rfl⟩
            have hv_30 : v_30.toInt = x_17.toInt + (1) := by rw [← ev_30]; exact incE rfl (by decide) (by omega)
            refine lv_iinc (pc := 68) (v := v_30) (lv' := [(3, .int v_30), (2, .int v_28), (0, .ref M), (1, .int z_house)]) E.1 E.2.1 dX12_mend_68 hl29 (k := 1) rfl ev_30 (by decide) rfl (fun ls hl31 => ?_)
            refine lv_goto (pc := 71) (tgt := 31) E.1 E.2.1 dX12_mend_71 (by decide) ?_
            exact ih_19 v_30 v_28 _ _ _ ⟨(by show 0 ≤ v_30.toInt; omega), (by show v_30.toInt ≤ (mi 6).toInt; omega)⟩ (by omega) hw20 (lv_sub hl31 [0, 1, 2, 3] rfl)
      exact loop_16 (Int.toNat ((mi 6).toInt - 0) + 1) 0 0 _ _ _ ⟨(by show 0 ≤ (0 : Int32).toInt; have k_0 : (0 : Int32).toInt = 0 := (by decide +kernel); omega), (by show (0 : Int32).toInt ≤ (mi 6).toInt; have k_0 : (0 : Int32).toInt = 0 := (by decide +kernel); omega)⟩ (by have k_0 : (0 : Int32).toInt = 0 := (by decide +kernel); have k_1 : (0 : Int32).toInt = 0 := (by decide +kernel); omega) hw10 (lv_sub hl15 [0, 1, 2, 3] rfl)
    · skip
      have hc_13 := eqE (a := r_7.toInt) (b := 0) rfl (by decide +kernel) c_13
      refine lv_iconst (pc := 25) (v := (-1)) E.1 E.2.1 dX12_mend_25 (by decide +kernel) ?_
      exact em_i (w1 := (fun (u : Int32 × (Nat → Int32)) => (MW cI cJ M mr (upd mi 0 u.1) (va_up mf 60 u.2) mg))) E hr hlk (0, gmended_9) hw10 trivial (Nat.le_of_ble_eq_true rfl) (Nat.le_of_ble_eq_true rfl) dX12_mend_26
  · skip
    have hc_5 := neE (a := z_house.toInt) (b := (-1)) rfl (by decide +kernel) c_5
    refine lv_aload_n (pc := 10) E.1 E.2.1 dX12_mend_10 rfl (lv_at hl3 0 rfl) ?_
    refine lv_iload_n (pc := 11) E.1 E.2.1 dX12_mend_11 rfl (lv_at hl3 1 rfl) ?_
    refine cm_i (pc := 12) hw4 (rn_M (As := [.int z_house]) (rest := []) E hw4 (s_isHouse l D cI cJ _ M mr (upd mi 0 0) mf mg z_house) (gdV q_1634 q_1636 q_48 q_162 q_1637) hdV_X12_isHouse ⟨rfl, rfl⟩ ⟨(Nat.le_of_ble_eq_true rfl), (Nat.le_of_ble_eq_true rfl)⟩ ⟨(Nat.le_of_ble_eq_true rfl), (Nat.le_of_ble_eq_true rfl)⟩ 12 rfl rfl rfl rfl hl3.1 rfl (Nat.le_of_ble_eq_true rfl) dX12_mend_12) (fun r_33 u_32 H1 locs hp hw34 => ?_)
    generalize H1 = H at hw34 ⊢
    have hw35 : WD D A s.heap (MW cI cJ M mr (upd mi 0 0) mf mg) H locs := hw34
    have hp_36 := hp
    rcases hp_36 with ⟨rfl, ha_37⟩ | ⟨rfl, ha_38⟩ | ⟨rfl, ha_39, ha_40⟩
    · skip
      have ha_37 : z_house.toInt < 0 := ha_37
      refine lv_if_eq (pc := 15) (tgt := 25) E.1 E.2.1 dX12_mend_15 (by decide) (fun _ => ?_) (fun c_41 => absurd (meqE (a := 0) (b := 0) (by decide +kernel) (by decide +kernel) (by omega)) c_41)
      refine lv_iconst (pc := 25) (v := (-1)) E.1 E.2.1 dX12_mend_25 (by decide +kernel) ?_
      exact em_i (w1 := (fun (u : Int32 × (Nat → Int32)) => (MW cI cJ M mr (upd mi 0 u.1) (va_up mf 60 u.2) mg))) E hr hlk (0, (mf 60)) hw35 trivial (Nat.le_of_ble_eq_true rfl) (Nat.le_of_ble_eq_true rfl) dX12_mend_26
    · skip
      have ha_38 : (mi 6).toInt ≤ z_house.toInt := ha_38
      refine lv_if_eq (pc := 15) (tgt := 25) E.1 E.2.1 dX12_mend_15 (by decide) (fun _ => ?_) (fun c_42 => absurd (meqE (a := 0) (b := 0) (by decide +kernel) (by decide +kernel) (by omega)) c_42)
      refine lv_iconst (pc := 25) (v := (-1)) E.1 E.2.1 dX12_mend_25 (by decide +kernel) ?_
      exact em_i (w1 := (fun (u : Int32 × (Nat → Int32)) => (MW cI cJ M mr (upd mi 0 u.1) (va_up mf 60 u.2) mg))) E hr hlk (0, (mf 60)) hw35 trivial (Nat.le_of_ble_eq_true rfl) (Nat.le_of_ble_eq_true rfl) dX12_mend_26
    · skip
      have ha_39 : 0 ≤ z_house.toInt := ha_39
      have ha_40 : z_house.toInt < (mi 6).toInt := ha_40
      refine lv_if_eq (pc := 15) (tgt := 25) E.1 E.2.1 dX12_mend_15 (by decide) (fun c_43 => absurd c_43 (mneE (a := 1) (b := 0) (by decide +kernel) (by decide +kernel) (by omega))) (fun _ => ?_)
      refine lv_aload_n (pc := 18) E.1 E.2.1 dX12_mend_18 rfl (lv_at hl3 0 rfl) ?_
      refine cm_i (pc := 19) hw35 (rn_M (As := []) (rest := []) E hw35 (s_mends l D cI cJ _ M mr (upd mi 0 0) mf mg h0 (show pplOK (mi 6).toInt (mf 8) from lf_people)) (gdV q_2018 q_2020 q_130 q_162 q_2021) hdV_X12_mends ⟨rfl, rfl⟩ ⟨(Nat.le_of_ble_eq_true rfl), (Nat.le_of_ble_eq_true rfl)⟩ ⟨(Nat.le_of_ble_eq_true rfl), (Nat.le_of_ble_eq_true rfl)⟩ 12 rfl rfl rfl rfl hl3.1 rfl (Nat.le_of_ble_eq_true rfl) dX12_mend_19) (fun r_45 u_44 H1 locs hp hw46 => ?_)
      obtain ⟨gmended_47, rfl⟩ : ∃ z, z = u_44 := ⟨_, rfl⟩
      generalize H1 = H at hw46 ⊢
      have hw48 : WD D A s.heap (MW cI cJ M mr (upd mi 0 0) (va_up mf 60 gmended_47) mg) H locs := hw46
      obtain ⟨hp_49, hp_50⟩ := hp
      have hp_49 : 0 ≤ r_45.toInt := hp_49
      have hp_50 : r_45.toInt ≤ 1 := hp_50
      refine lv_if_ne (pc := 22) (tgt := 27) E.1 E.2.1 dX12_mend_22 (by decide) (fun c_51 => ?_) (fun c_51 => ?_)
      · skip
        have hc_51 := neE (a := r_45.toInt) (b := 0) rfl (by decide +kernel) c_51
        refine lv_iconst (pc := 27) (v := 0) E.1 E.2.1 dX12_mend_27 (by decide +kernel) ?_
        refine lv_istore_n (pc := 28) (lv' := [(2, .int 0), (0, .ref M), (1, .int z_house)]) E.1 E.2.1 dX12_mend_28 rfl hl3 (by decide) rfl (fun ls hl52 => ?_)
        refine lv_iconst (pc := 29) (v := 0) E.1 E.2.1 dX12_mend_29 (by decide +kernel) ?_
        refine lv_istore_n (pc := 30) (lv' := [(3, .int 0), (2, .int 0), (0, .ref M), (1, .int z_house)]) E.1 E.2.1 dX12_mend_30 rfl hl52 (by decide) rfl (fun ls hl53 => ?_)
        have loop_54 : ∀ (k : Nat) (x_55 : Int32) (x_56 : Int32) (H : Heap) (locs : List Loc) (ls : Array Slot), (0 ≤ x_55.toInt) ∧ (x_55.toInt ≤ (mi 6).toInt) → (mi 6).toInt - x_55.toInt < (k : Int) → WD D A s.heap (MW cI cJ M mr (upd mi 0 0) (va_up mf 60 gmended_47) mg) H locs → lv_has ls 4 [(3, .int x_55), (2, .int x_56), (0, .ref M), (1, .int z_house)] → W p l e ({ frames := 2, cells := 0, slots := 0, locals := 64 } : Room) s m ([.ref M, .int z_house] : List Value).toArray below meth c H locs 0 0 (MQ below (va_Qi (fun (r : Int32) (u : Int32 × (Nat → Int32)) => True) (fun u => QW D cI cJ A ((fun (u : Int32 × (Nat → Int32)) => (MW cI cJ M mr (upd mi 0 u.1) (va_up mf 60 u.2) mg)) u)) A) ([.ref M, .int z_house] : List Value).toArray s 0 0 A) (F0 m 31 ls []) := by
          intro k
          induction k with
          | zero =>
            intro x_55 x_56 _ _ _ hinv hm
            obtain ⟨hi_56_0, hi_56_1⟩ := hinv
            exact absurd hm (by omega)
          | succ k ih_57 =>
            intro x_55 x_56 H locs ls hinv hm hw58 hl59
            obtain ⟨hi_56_0, hi_56_1⟩ := hinv
            refine lv_iload_n (pc := 31) E.1 E.2.1 dX12_mend_31 rfl (lv_at hl59 0 rfl) ?_
            refine lv_aload_n (pc := 32) E.1 E.2.1 dX12_mend_32 rfl (lv_at hl59 2 rfl) ?_
            refine x_get (pc := 33) (T := TX12) (N := 70) (ci := 12) (v := .int (mi 6)) E hw58 inX12 0 6 q_1405 rfl rfl (by decide) rfl rfl dX12_mend_33 ?_
            refine lv_icmp_ge (pc := 36) (tgt := 74) E.1 E.2.1 dX12_mend_36 (by decide) (fun c_60 => ?_) (fun c_60 => ?_)
            · skip
              have hc_60 := leE (a := (mi 6).toInt) (b := x_55.toInt) rfl rfl c_60
              refine lv_iload_n (pc := 74) E.1 E.2.1 dX12_mend_74 rfl (lv_at hl59 1 rfl) ?_
              exact em_i (w1 := (fun (u : Int32 × (Nat → Int32)) => (MW cI cJ M mr (upd mi 0 u.1) (va_up mf 60 u.2) mg))) E hr hlk (0, gmended_47) hw58 trivial (Nat.le_of_ble_eq_true rfl) (Nat.le_of_ble_eq_true rfl) dX12_mend_75
            · skip
              have hc_60 := nleE (a := (mi 6).toInt) (b := x_55.toInt) rfl rfl c_60
              refine lv_iload_n (pc := 39) E.1 E.2.1 dX12_mend_39 rfl (lv_at hl59 3 rfl) ?_
              refine lv_iconst (pc := 40) (v := (-1)) E.1 E.2.1 dX12_mend_40 (by decide +kernel) ?_
              refine lv_icmp_eq (pc := 41) (tgt := 49) E.1 E.2.1 dX12_mend_41 (by decide) (fun c_61 => absurd c_61 (mneE (a := z_house.toInt) (b := (-1)) rfl (by decide +kernel) (by omega))) (fun _ => ?_)
              refine lv_iload_n (pc := 44) E.1 E.2.1 dX12_mend_44 rfl (lv_at hl59 3 rfl) ?_
              refine lv_iload_n (pc := 45) E.1 E.2.1 dX12_mend_45 rfl (lv_at hl59 0 rfl) ?_
              refine lv_icmp_ne (pc := 46) (tgt := 68) E.1 E.2.1 dX12_mend_46 (by decide) (fun c_62 => ?_) (fun c_62 => ?_)
              · skip
                have hc_62 := neE (a := z_house.toInt) (b := x_55.toInt) rfl rfl c_62
                obtain ⟨v_63, ev_63⟩ : ∃ z : Int32, x_55 + Int32.ofInt (1) = z := ⟨_, rfl⟩
                have hv_63 : v_63.toInt = x_55.toInt + (1) := by rw [← ev_63]; exact incE rfl (by decide) (by omega)
                refine lv_iinc (pc := 68) (v := v_63) (lv' := [(3, .int v_63), (2, .int x_56), (0, .ref M), (1, .int z_house)]) E.1 E.2.1 dX12_mend_68 hl59 (k := 0) rfl ev_63 (by decide) rfl (fun ls hl64 => ?_)
                refine lv_goto (pc := 71) (tgt := 31) E.1 E.2.1 dX12_mend_71 (by decide) ?_
                exact ih_57 v_63 x_56 _ _ _ ⟨(by show 0 ≤ v_63.toInt; omega), (by show v_63.toInt ≤ (mi 6).toInt; omega)⟩ (by omega) hw58 (lv_sub hl64 [0, 1, 2, 3] rfl)
              · skip
                have hc_62 := eqE (a := z_house.toInt) (b := x_55.toInt) rfl rfl c_62
                refine lv_iload_n (pc := 49) E.1 E.2.1 dX12_mend_49 rfl (lv_at hl59 1 rfl) ?_
                refine lv_aload_n (pc := 50) E.1 E.2.1 dX12_mend_50 rfl (lv_at hl59 2 rfl) ?_
                refine x_get (pc := 51) (T := TX12) (N := 70) (ci := 12) (v := .ref (mr 60)) E hw58 inX12 0 60 q_1459 rfl rfl (by decide) rfl rfl dX12_mend_51 ?_
                refine lv_iload_n (pc := 54) E.1 E.2.1 dX12_mend_54 rfl (lv_at hl59 0 rfl) ?_
                refine x_iald (pc := 55) (f := gmended_47) E hw58 32 rfl (inbE (a := x_55.toInt) rfl (by omega)) dX12_mend_55 ?_
                refine lv_topi (fun v_65 ev_65 => ?_)
                refine lv_iadd (pc := 56) E.1 E.2.1 dX12_mend_56 ?_
                refine lv_topi (fun v_66 ev_66 => ?_)
                refine lv_aload_n (pc := 57) E.1 E.2.1 dX12_mend_57 rfl (lv_at hl59 2 rfl) ?_
                refine x_get (pc := 58) (T := TX12) (N := 70) (ci := 12) (v := .ref (mr 1)) E hw58 inX12 0 1 q_1400 rfl rfl (by decide) rfl rfl dX12_mend_58 ?_
                refine lv_bipush (pc := 61) (v := 26) E.1 E.2.1 dX12_mend_61 (by decide +kernel) ?_
                refine lv_iload_n (pc := 63) E.1 E.2.1 dX12_mend_63 rfl (lv_at hl59 0 rfl) ?_
                refine lv_iadd (pc := 64) E.1 E.2.1 dX12_mend_64 ?_
                refine lv_topi (fun v_67 ev_67 => ?_)
                have hv_67 : v_67.toInt = 26 + x_55.toInt := by rw [ev_67]; exact addE (by decide +kernel) rfl (by omega)
                refine x_iald (pc := 65) (f := (mf 1)) E hw58 1 rfl (inbE (a := v_67.toInt) rfl (by omega)) dX12_mend_65 ?_
                refine lv_topi (fun v_68 ev_68 => ?_)
                refine lv_isub (pc := 66) E.1 E.2.1 dX12_mend_66 ?_
                refine lv_topi (fun v_69 ev_69 => ?_)
                refine lv_istore_n (pc := 67) (lv' := [(2, .int v_69), (3, .int x_55), (0, .ref M), (1, .int z_house)]) E.1 E.2.1 dX12_mend_67 rfl hl59 (by decide) rfl (fun ls hl70 => ?_)
                obtain ⟨v_71, ev_71⟩ : ∃ z : Int32, x_55 + Int32.ofInt (1) = z := ⟨_, rfl⟩
                have hv_71 : v_71.toInt = x_55.toInt + (1) := by rw [← ev_71]; exact incE rfl (by decide) (by omega)
                refine lv_iinc (pc := 68) (v := v_71) (lv' := [(3, .int v_71), (2, .int v_69), (0, .ref M), (1, .int z_house)]) E.1 E.2.1 dX12_mend_68 hl70 (k := 1) rfl ev_71 (by decide) rfl (fun ls hl72 => ?_)
                refine lv_goto (pc := 71) (tgt := 31) E.1 E.2.1 dX12_mend_71 (by decide) ?_
                exact ih_57 v_71 v_69 _ _ _ ⟨(by show 0 ≤ v_71.toInt; omega), (by show v_71.toInt ≤ (mi 6).toInt; omega)⟩ (by omega) hw58 (lv_sub hl72 [0, 1, 2, 3] rfl)
        exact loop_54 (Int.toNat ((mi 6).toInt - 0) + 1) 0 0 _ _ _ ⟨(by show 0 ≤ (0 : Int32).toInt; have k_0 : (0 : Int32).toInt = 0 := (by decide +kernel); omega), (by show (0 : Int32).toInt ≤ (mi 6).toInt; have k_0 : (0 : Int32).toInt = 0 := (by decide +kernel); omega)⟩ (by have k_0 : (0 : Int32).toInt = 0 := (by decide +kernel); have k_1 : (0 : Int32).toInt = 0 := (by decide +kernel); omega) hw48 (lv_sub hl53 [0, 1, 2, 3] rfl)
      · skip
        have hc_51 := eqE (a := r_45.toInt) (b := 0) rfl (by decide +kernel) c_51
        refine lv_iconst (pc := 25) (v := (-1)) E.1 E.2.1 dX12_mend_25 (by decide +kernel) ?_
        exact em_i (w1 := (fun (u : Int32 × (Nat → Int32)) => (MW cI cJ M mr (upd mi 0 u.1) (va_up mf 60 u.2) mg))) E hr hlk (0, gmended_47) hw48 trivial (Nat.le_of_ble_eq_true rfl) (Nat.le_of_ble_eq_true rfl) dX12_mend_26

