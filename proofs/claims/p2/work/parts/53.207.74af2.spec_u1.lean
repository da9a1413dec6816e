set_option maxHeartbeats 4000000 in
set_option maxRecDepth 100000 in
theorem s_runU (l : Launch) (D : va_G) (cI cJ : ClassId) (sz M : Nat) (mr : Nat → Nat) (mi : Nat → Int32) (mf : Nat → Nat → Int32) (mg : Nat → Nat → Int64) (z_n : Int32) (z_what : Int32) (h0 : 0 ≤ (mi 6).toInt ∧ (mi 6).toInt ≤ 10) (h1 : 0 ≤ ((mf 1) 2).toInt ∧ ((mf 1) 2).toInt ≤ 150) (h2 : 0 ≤ ((mf 1) 3).toInt ∧ ((mf 1) 3).toInt ≤ 9) (h3 : 0 ≤ ((mf 1) 5).toInt ∧ ((mf 1) 5).toInt ≤ 200) (h4 : 0 ≤ (mi 44).toInt ∧ (mi 44).toInt ≤ 10) (h5 : 0 ≤ (mi 42).toInt ∧ (mi 42).toInt ≤ 40) (h6 : 0 ≤ ((mf 27) 0).toInt) (h7 : ((mf 27) 0).toInt ≤ 16) (h8 : 0 ≤ ((mf 27) 1).toInt) (h9 : ((mf 27) 1).toInt ≤ 16) (h10 : 0 ≤ (mi 49).toInt ∧ (mi 49).toInt ≤ 200) (h11 : (-29) ≤ (mi 15).toInt ∧ (mi 15).toInt ≤ 69) (h12 : 0 ≤ ((mf 1) 0).toInt) (h13 : ((mf 1) 0).toInt ≤ 9999) (h14 : (mi 5).toInt = 0) (a_paths : pathsOK (mf 43)) (lf_law0 : LW 0 0 (mf 31) (mf 32) (mf 28) (mf 29) (mf 30) ((mf 27) 0).toInt 400) (lf_law1 : LW 16 400 (mf 31) (mf 32) (mf 28) (mf 29) (mf 30) ((mf 27) 1).toInt 400) (lf_round : rndOK (mi 49).toInt (mi 6).toInt (mf 50)) (lf_lamp : (((mi 6).toInt = 0 ∧ ((mf 1) 3).toInt = 0) ∨ ((mf 1) 3).toInt < (mi 6).toInt)) : Met l yX12_run (Cond.code yX12_run cX12_run 4 (some .int) :: GW) ({ frames := 9, cells := 0, slots := 0, locals := 224 } : Room) (va_Pc [.ref M, .int z_n, .int z_what] (PW D cI cJ sz (MW cI cJ M mr mi mf mg) xT)) (va_Qi (fun (r : Int32) (u : Int32 × (Nat → Int32) × (Nat → Int32) × Int32 × Int32 × Int32 × Int32 × (Nat → Int32) × (Nat → Int32) × (Nat → Int32) × (Nat → Int32)) => ((u.2.1 2).toInt = ((mf 1) 2).toInt) ∧ ((u.2.1 3).toInt = ((mf 1) 3).toInt) ∧ ((u.2.1 5).toInt = ((mf 1) 5).toInt) ∧ ((u.2.1 0).toInt = ((mf 1) 0).toInt) ∧ ((u.2.1 1).toInt = ((mf 1) 1).toInt) ∧ (u.2.2.2.1.toInt = 0)) (fun u => QW D cI cJ (va_A (MW cI cJ M mr mi mf mg) sz) ((fun (u : Int32 × (Nat → Int32) × (Nat → Int32) × Int32 × Int32 × Int32 × Int32 × (Nat → Int32) × (Nat → Int32) × (Nat → Int32) × (Nat → Int32)) => (MW cI cJ M mr (upd (upd (upd (upd (upd mi 0 u.1) 5 u.2.2.2.1) 56 u.2.2.2.2.1) 57 u.2.2.2.2.2.1) 58 u.2.2.2.2.2.2.1) (va_up (va_up (va_up (va_up (va_up (va_up mf 1 u.2.1) 4 u.2.2.1) 55 u.2.2.2.2.2.2.2.1) 53 u.2.2.2.2.2.2.2.2.1) 54 u.2.2.2.2.2.2.2.2.2.1) 16 u.2.2.2.2.2.2.2.2.2.2) mg)) u)) (va_A (MW cI cJ M mr mi mf mg) sz)) 0 0 (va_A (MW cI cJ M mr mi mf mg) sz) := by
  refine mk_met (y := yX12_run) (bytes := cX12_run) (maxL := 4) (avs := [.ref M, .int z_n, .int z_what]) (WS := (MW cI cJ M mr mi mf mg)) (Qf := fun A => va_Qi (fun (r : Int32) (u : Int32 × (Nat → Int32) × (Nat → Int32) × Int32 × Int32 × Int32 × Int32 × (Nat → Int32) × (Nat → Int32) × (Nat → Int32) × (Nat → Int32)) => ((u.2.1 2).toInt = ((mf 1) 2).toInt) ∧ ((u.2.1 3).toInt = ((mf 1) 3).toInt) ∧ ((u.2.1 5).toInt = ((mf 1) 5).toInt) ∧ ((u.2.1 0).toInt = ((mf 1) 0).toInt) ∧ ((u.2.1 1).toInt = ((mf 1) 1).toInt) ∧ (u.2.2.2.1.toInt = 0)) (fun u => QW D cI cJ A ((fun (u : Int32 × (Nat → Int32) × (Nat → Int32) × Int32 × Int32 × Int32 × Int32 × (Nat → Int32) × (Nat → Int32) × (Nat → Int32) × (Nat → Int32)) => (MW cI cJ M mr (upd (upd (upd (upd (upd mi 0 u.1) 5 u.2.2.2.1) 56 u.2.2.2.2.1) 57 u.2.2.2.2.2.1) 58 u.2.2.2.2.2.2.1) (va_up (va_up (va_up (va_up (va_up (va_up mf 1 u.2.1) 4 u.2.2.1) 55 u.2.2.2.2.2.2.2.1) 53 u.2.2.2.2.2.2.2.2.1) 54 u.2.2.2.2.2.2.2.2.2.1) 16 u.2.2.2.2.2.2.2.2.2.2) mg)) u)) A) (by decide) (Nat.le_of_ble_eq_true rfl) ?_
  intro p e s m below meth c A ls E hr hlk hnm hX hw1 hl2
  have hl3 : lv_has ls 4 [(0, .ref M), (1, .int z_n), (2, .int z_what)] := hl2
  refine lv_aload_n (pc := 0) E.1 E.2.1 dX12_run_0 rfl (lv_at hl3 0 rfl) ?_
  refine lv_iconst (pc := 1) (v := 0) E.1 E.2.1 dX12_run_1 (by decide +kernel) ?_
  refine x_put (pc := 2) (T := TX12) (N := 70) (ci := 12) (ws' := (MW cI cJ M mr (upd mi 0 0) mf mg)) E hw1 inX12 tyX12_ok nmX12 0 0 q_1399 rfl rfl (by decide) rfl rfl rfl rfl (Nat.le_of_ble_eq_true rfl) rfl dX12_run_2 (fun H locs hw4 => ?_)
  refine lv_aload_n (pc := 5) E.1 E.2.1 dX12_run_5 rfl (lv_at hl3 0 rfl) ?_
  refine lv_iload_n (pc := 6) E.1 E.2.1 dX12_run_6 rfl (lv_at hl3 1 rfl) ?_
  refine lv_iconst (pc := 7) (v := 1) E.1 E.2.1 dX12_run_7 (by decide +kernel) ?_
  refine lv_bipush (pc := 8) (v := 99) E.1 E.2.1 dX12_run_8 (by decide +kernel) ?_
  refine cm_i (pc := 10) hw4 (rn_M (As := [.int z_n, .int 1, .int 99]) (rest := []) E hw4 (s_isIn l D cI cJ _ M mr (upd mi 0 0) mf mg z_n 1 99) (gdV q_1622 q_1624 q_46 q_162 q_1625) hdV_X12_isIn ⟨rfl, rfl⟩ ⟨(Nat.le_of_ble_eq_true rfl), (Nat.le_of_ble_eq_true rfl)⟩ ⟨(Nat.le_of_ble_eq_true rfl), (Nat.le_of_ble_eq_true rfl)⟩ 12 rfl rfl rfl rfl hl3.1 rfl (Nat.le_of_ble_eq_true rfl) dX12_run_10) (fun r_6 u_5 H1 locs hp hw7 => ?_)
  generalize H1 = H at hw7 ⊢
  have hw8 : WD D A s.heap (MW cI cJ M mr (upd mi 0 0) mf mg) H locs := hw7
  have hp_9 := hp
  rcases hp_9 with ⟨rfl, ha_10⟩ | ⟨rfl, ha_11⟩ | ⟨rfl, ha_12, ha_13⟩
  · skip
    have ha_10 : z_n.toInt < (1 : Int32).toInt := ha_10
    rw [show (1 : Int32).toInt = 1 from by decide +kernel] at ha_10
    refine lv_if_eq (pc := 13) (tgt := 33) E.1 E.2.1 dX12_run_13 (by decide) (fun _ => ?_) (fun c_14 => absurd (meqE (a := 0) (b := 0) (by decide +kernel) (by decide +kernel) (by omega)) c_14)
    refine lv_iconst (pc := 33) (v := (-1)) E.1 E.2.1 dX12_run_33 (by decide +kernel) ?_
    exact em_i (w1 := (fun (u : Int32 × (Nat → Int32) × (Nat → Int32) × Int32 × Int32 × Int32 × Int32 × (Nat → Int32) × (Nat → Int32) × (Nat → Int32) × (Nat → Int32)) => (MW cI cJ M mr (upd (upd (upd (upd (upd mi 0 u.1) 5 u.2.2.2.1) 56 u.2.2.2.2.1) 57 u.2.2.2.2.2.1) 58 u.2.2.2.2.2.2.1) (va_up (va_up (va_up (va_up (va_up (va_up mf 1 u.2.1) 4 u.2.2.1) 55 u.2.2.2.2.2.2.2.1) 53 u.2.2.2.2.2.2.2.2.1) 54 u.2.2.2.2.2.2.2.2.2.1) 16 u.2.2.2.2.2.2.2.2.2.2) mg))) E hr hlk (0, (mf 1), (mf 4), (mi 5), (mi 56), (mi 57), (mi 58), (mf 55), (mf 53), (mf 54), (mf 16)) hw8 ⟨rfl, rfl, rfl, rfl, rfl, h14⟩ (Nat.le_of_ble_eq_true rfl) (Nat.le_of_ble_eq_true rfl) dX12_run_34
  · skip
    have ha_11 : (99 : Int32).toInt < z_n.toInt := ha_11
    rw [show (99 : Int32).toInt = 99 from by decide +kernel] at ha_11
    refine lv_if_eq (pc := 13) (tgt := 33) E.1 E.2.1 dX12_run_13 (by decide) (fun _ => ?_) (fun c_15 => absurd (meqE (a := 0) (b := 0) (by decide +kernel) (by decide +kernel) (by omega)) c_15)
    refine lv_iconst (pc := 33) (v := (-1)) E.1 E.2.1 dX12_run_33 (by decide +kernel) ?_
    exact em_i (w1 := (fun (u : Int32 × (Nat → Int32) × (Nat → Int32) × Int32 × Int32 × Int32 × Int32 × (Nat → Int32) × (Nat → Int32) × (Nat → Int32) × (Nat → Int32)) => (MW cI cJ M mr (upd (upd (upd (upd (upd mi 0 u.1) 5 u.2.2.2.1) 56 u.2.2.2.2.1) 57 u.2.2.2.2.2.1) 58 u.2.2.2.2.2.2.1) (va_up (va_up (va_up (va_up (va_up (va_up mf 1 u.2.1) 4 u.2.2.1) 55 u.2.2.2.2.2.2.2.1) 53 u.2.2.2.2.2.2.2.2.1) 54 u.2.2.2.2.2.2.2.2.2.1) 16 u.2.2.2.2.2.2.2.2.2.2) mg))) E hr hlk (0, (mf 1), (mf 4), (mi 5), (mi 56), (mi 57), (mi 58), (mf 55), (mf 53), (mf 54), (mf 16)) hw8 ⟨rfl, rfl, rfl, rfl, rfl, h14⟩ (Nat.le_of_ble_eq_true rfl) (Nat.le_of_ble_eq_true rfl) dX12_run_34
  · skip
    have ha_12 : (1 : Int32).toInt ≤ z_n.toInt := ha_12
    rw [show (1 : Int32).toInt = 1 from by decide +kernel] at ha_12
    have ha_13 : z_n.toInt ≤ (99 : Int32).toInt := ha_13
    rw [show (99 : Int32).toInt = 99 from by decide +kernel] at ha_13
    refine lv_if_eq (pc := 13) (tgt := 33) E.1 E.2.1 dX12_run_13 (by decide) (fun c_16 => absurd c_16 (mneE (a := 1) (b := 0) (by decide +kernel) (by decide +kernel) (by omega))) (fun _ => ?_)
    refine lv_aload_n (pc := 16) E.1 E.2.1 dX12_run_16 rfl (lv_at hl3 0 rfl) ?_
    refine x_get (pc := 17) (T := TX12) (N := 70) (ci := 12) (v := .int (mi 6)) E hw8 inX12 0 6 q_1405 rfl rfl (by decide) rfl rfl dX12_run_17 ?_
    refine lv_if_eq (pc := 20) (tgt := 33) E.1 E.2.1 dX12_run_20 (by decide) (fun c_17 => ?_) (fun c_17 => ?_)
    · skip
      have hc_17 := eqE (a := (mi 6).toInt) (b := 0) rfl (by decide +kernel) c_17
      refine lv_iconst (pc := 33) (v := (-1)) E.1 E.2.1 dX12_run_33 (by decide +kernel) ?_
      exact em_i (w1 := (fun (u : Int32 × (Nat → Int32) × (Nat → Int32) × Int32 × Int32 × Int32 × Int32 × (Nat → Int32) × (Nat → Int32) × (Nat → Int32) × (Nat → Int32)) => (MW cI cJ M mr (upd (upd (upd (upd (upd mi 0 u.1) 5 u.2.2.2.1) 56 u.2.2.2.2.1) 57 u.2.2.2.2.2.1) 58 u.2.2.2.2.2.2.1) (va_up (va_up (va_up (va_up (va_up (va_up mf 1 u.2.1) 4 u.2.2.1) 55 u.2.2.2.2.2.2.2.1) 53 u.2.2.2.2.2.2.2.2.1) 54 u.2.2.2.2.2.2.2.2.2.1) 16 u.2.2.2.2.2.2.2.2.2.2) mg))) E hr hlk (0, (mf 1), (mf 4), (mi 5), (mi 56), (mi 57), (mi 58), (mf 55), (mf 53), (mf 54), (mf 16)) hw8 ⟨rfl, rfl, rfl, rfl, rfl, h14⟩ (Nat.le_of_ble_eq_true rfl) (Nat.le_of_ble_eq_true rfl) dX12_run_34
    · skip
      have hc_17 := neE (a := (mi 6).toInt) (b := 0) rfl (by decide +kernel) c_17
      refine lv_aload_n (pc := 23) E.1 E.2.1 dX12_run_23 rfl (lv_at hl3 0 rfl) ?_
      refine lv_iload_n (pc := 24) E.1 E.2.1 dX12_run_24 rfl (lv_at hl3 2 rfl) ?_
      refine lv_iconst (pc := 25) (v := 0) E.1 E.2.1 dX12_run_25 (by decide +kernel) ?_
      refine lv_iconst (pc := 26) (v := 3) E.1 E.2.1 dX12_run_26 (by decide +kernel) ?_
      refine cm_i (pc := 27) hw8 (rn_M (As := [.int z_what, .int 0, .int 3]) (rest := []) E hw8 (s_isIn l D cI cJ _ M mr (upd mi 0 0) mf mg z_what 0 3) (gdV q_1622 q_1624 q_46 q_162 q_1625) hdV_X12_isIn ⟨rfl, rfl⟩ ⟨(Nat.le_of_ble_eq_true rfl), (Nat.le_of_ble_eq_true rfl)⟩ ⟨(Nat.le_of_ble_eq_true rfl), (Nat.le_of_ble_eq_true rfl)⟩ 12 rfl rfl rfl rfl hl3.1 rfl (Nat.le_of_ble_eq_true rfl) dX12_run_27) (fun r_19 u_18 H1 locs hp hw20 => ?_)
      generalize H1 = H at hw20 ⊢
      have hw21 : WD D A s.heap (MW cI cJ M mr (upd mi 0 0) mf mg) H locs := hw20
      have hp_22 := hp
      rcases hp_22 with ⟨rfl, ha_23⟩ | ⟨rfl, ha_24⟩ | ⟨rfl, ha_25, ha_26⟩
      · skip
        have ha_23 : z_what.toInt < (0 : Int32).toInt := ha_23
        rw [show (0 : Int32).toInt = 0 from by decide +kernel] at ha_23
        refine lv_if_ne (pc := 30) (tgt := 35) E.1 E.2.1 dX12_run_30 (by decide) (fun c_27 => absurd (meqE (a := 0) (b := 0) (by decide +kernel) (by decide +kernel) (by omega)) c_27) (fun _ => ?_)
        refine lv_iconst (pc := 33) (v := (-1)) E.1 E.2.1 dX12_run_33 (by decide +kernel) ?_
        exact em_i (w1 := (fun (u : Int32 × (Nat → Int32) × (Nat → Int32) × Int32 × Int32 × Int32 × Int32 × (Nat → Int32) × (Nat → Int32) × (Nat → Int32) × (Nat → Int32)) => (MW cI cJ M mr (upd (upd (upd (upd (upd mi 0 u.1) 5 u.2.2.2.1) 56 u.2.2.2.2.1) 57 u.2.2.2.2.2.1) 58 u.2.2.2.2.2.2.1) (va_up (va_up (va_up (va_up (va_up (va_up mf 1 u.2.1) 4 u.2.2.1) 55 u.2.2.2.2.2.2.2.1) 53 u.2.2.2.2.2.2.2.2.1) 54 u.2.2.2.2.2.2.2.2.2.1) 16 u.2.2.2.2.2.2.2.2.2.2) mg))) E hr hlk (0, (mf 1), (mf 4), (mi 5), (mi 56), (mi 57), (mi 58), (mf 55), (mf 53), (mf 54), (mf 16)) hw21 ⟨rfl, rfl, rfl, rfl, rfl, h14⟩ (Nat.le_of_ble_eq_true rfl) (Nat.le_of_ble_eq_true rfl) dX12_run_34
      · skip
        have ha_24 : (3 : Int32).toInt < z_what.toInt := ha_24
        rw [show (3 : Int32).toInt = 3 from by decide +kernel] at ha_24
        refine lv_if_ne (pc := 30) (tgt := 35) E.1 E.2.1 dX12_run_30 (by decide) (fun c_28 => absurd (meqE (a := 0) (b := 0) (by decide +kernel) (by decide +kernel) (by omega)) c_28) (fun _ => ?_)
        refine lv_iconst (pc := 33) (v := (-1)) E.1 E.2.1 dX12_run_33 (by decide +kernel) ?_
        exact em_i (w1 := (fun (u : Int32 × (Nat → Int32) × (Nat → Int32) × Int32 × Int32 × Int32 × Int32 × (Nat → Int32) × (Nat → Int32) × (Nat → Int32) × (Nat → Int32)) => (MW cI cJ M mr (upd (upd (upd (upd (upd mi 0 u.1) 5 u.2.2.2.1) 56 u.2.2.2.2.1) 57 u.2.2.2.2.2.1) 58 u.2.2.2.2.2.2.1) (va_up (va_up (va_up (va_up (va_up (va_up mf 1 u.2.1) 4 u.2.2.1) 55 u.2.2.2.2.2.2.2.1) 53 u.2.2.2.2.2.2.2.2.1) 54 u.2.2.2.2.2.2.2.2.2.1) 16 u.2.2.2.2.2.2.2.2.2.2) mg))) E hr hlk (0, (mf 1), (mf 4), (mi 5), (mi 56), (mi 57), (mi 58), (mf 55), (mf 53), (mf 54), (mf 16)) hw21 ⟨rfl, rfl, rfl, rfl, rfl, h14⟩ (Nat.le_of_ble_eq_true rfl) (Nat.le_of_ble_eq_true rfl) dX12_run_34
      · skip
        have ha_25 : (0 : Int32).toInt ≤ z_what.toInt := ha_25
        rw [show (0 : Int32).toInt = 0 from by decide +kernel] at ha_25
        have ha_26 : z_what.toInt ≤ (3 : Int32).toInt := ha_26
        rw [show (3 : Int32).toInt = 3 from by decide +kernel] at ha_26
        refine lv_if_ne (pc := 30) (tgt := 35) E.1 E.2.1 dX12_run_30 (by decide) (fun _ => ?_) (fun c_29 => absurd c_29 (mneE (a := 1) (b := 0) (by decide +kernel) (by decide +kernel) (by omega)))
        have hlamp_30 : ((mf 1) 3).toInt + 1 ≤ (mi 6).toInt := by have q := lf_lamp; omega
        refine lv_aload_n (pc := 35) E.1 E.2.1 dX12_run_35 rfl (lv_at hl3 0 rfl) ?_
        refine lv_iload_n (pc := 36) E.1 E.2.1 dX12_run_36 rfl (lv_at hl3 1 rfl) ?_
        refine cm_i (pc := 37) hw21 (rn_M (As := [.int z_n]) (rest := []) E hw21 (s_goesForU l D cI cJ _ M mr (upd mi 0 0) mf mg z_n h2.1 (by show ((mf 1) 3).toInt + 1 ≤ (mi 6).toInt; omega) h0.2 h1 h3 h4 h5 h6 h7 h8 h9 h10 h11 (by show 1 ≤ z_n.toInt ∧ z_n.toInt ≤ 99; omega) h12 h13 a_paths (show LW 0 0 (mf 31) (mf 32) (mf 28) (mf 29) (mf 30) ((mf 27) 0).toInt 400 from lf_law0) (show LW 16 400 (mf 31) (mf 32) (mf 28) (mf 29) (mf 30) ((mf 27) 1).toInt 400 from lf_law1) (show rndOK (mi 49).toInt (mi 6).toInt (mf 50) from lf_round)) (gdV q_1974 q_1976 q_121 q_162 q_1977) hdV_X12_goesFor ⟨rfl, rfl⟩ ⟨(Nat.le_of_ble_eq_true rfl), (Nat.le_of_ble_eq_true rfl)⟩ ⟨(Nat.le_of_ble_eq_true rfl), (Nat.le_of_ble_eq_true rfl)⟩ 12 rfl rfl rfl rfl hl3.1 rfl (Nat.le_of_ble_eq_true rfl) dX12_run_37) (fun r_32 u_31 H1 locs hp hw33 => ?_)
        obtain ⟨gnow_34, gwaiting_35, nisThought_36, nrunDark_37, nrunSpoilt_38, nrunFirst_39, gfarOf_40, gasked_41, gstack_42, gbook_43⟩ := u_31
        generalize H1 = H at hw33 ⊢
        have hw44 : WD D A s.heap (MW cI cJ M mr (upd (upd (upd (upd (upd mi 0 0) 5 nisThought_36) 56 nrunDark_37) 57 nrunSpoilt_38) 58 nrunFirst_39) (va_up (va_up (va_up (va_up (va_up (va_up mf 1 gnow_34) 4 gwaiting_35) 16 gbook_43) 53 gasked_41) 54 gstack_42) 55 gfarOf_40) mg) H locs := hw33
        obtain ⟨hp_45, hp_46, hp_47, hp_48, hp_49, hp_50⟩ := hp
        have hp_45 : (gnow_34 2).toInt = ((mf 1) 2).toInt := hp_45
        have hp_46 : (gnow_34 3).toInt = ((mf 1) 3).toInt := hp_46
        have hp_47 : (gnow_34 5).toInt = ((mf 1) 5).toInt := hp_47
        have hp_48 : nisThought_36.toInt = 0 := hp_48
        have hp_49 : (gnow_34 0).toInt = ((mf 1) 0).toInt := hp_49
        have hp_50 : (gnow_34 1).toInt = ((mf 1) 1).toInt := hp_50
        refine lv_istore_n (pc := 40) (lv' := [(3, .int r_32), (0, .ref M), (1, .int z_n), (2, .int z_what)]) E.1 E.2.1 dX12_run_40 rfl hl3 (by decide) rfl (fun ls hl51 => ?_)
        refine lv_iload_n (pc := 41) E.1 E.2.1 dX12_run_41 rfl (lv_at hl51 3 rfl) ?_
        refine lv_if_ne (pc := 42) (tgt := 49) E.1 E.2.1 dX12_run_42 (by decide) (fun c_52 => ?_) (fun c_52 => ?_)
        · skip
          have hc_52 := neE (a := z_what.toInt) (b := 0) rfl (by decide +kernel) c_52
          refine lv_iload_n (pc := 49) E.1 E.2.1 dX12_run_49 rfl (lv_at hl51 3 rfl) ?_
          refine lv_iconst (pc := 50) (v := 1) E.1 E.2.1 dX12_run_50 (by decide +kernel) ?_
          refine lv_icmp_ne (pc := 51) (tgt := 61) E.1 E.2.1 dX12_run_51 (by decide) (fun c_53 => ?_) (fun c_53 => ?_)
          · skip
            have hc_53 := neE (a := z_what.toInt) (b := 1) rfl (by decide +kernel) c_53
            refine lv_iload_n (pc := 61) E.1 E.2.1 dX12_run_61 rfl (lv_at hl51 3 rfl) ?_
            refine lv_iconst (pc := 62) (v := 2) E.1 E.2.1 dX12_run_62 (by decide +kernel) ?_
            refine lv_icmp_ne (pc := 63) (tgt := 73) E.1 E.2.1 dX12_run_63 (by decide) (fun c_54 => ?_) (fun c_54 => ?_)
            · skip
              have hc_54 := neE (a := z_what.toInt) (b := 2) rfl (by decide +kernel) c_54
              refine lv_aload_n (pc := 73) E.1 E.2.1 dX12_run_73 rfl (lv_at hl51 1 rfl) ?_
              refine x_get (pc := 74) (T := TX12) (N := 70) (ci := 12) (v := .int nrunFirst_39) E hw44 inX12 0 58 q_1457 rfl rfl (by decide) rfl rfl dX12_run_74 ?_
              exact em_i (w1 := (fun (u : Int32 × (Nat → Int32) × (Nat → Int32) × Int32 × Int32 × Int32 × Int32 × (Nat → Int32) × (Nat → Int32) × (Nat → Int32) × (Nat → Int32)) => (MW cI cJ M mr (upd (upd (upd (upd (upd mi 0 u.1) 5 u.2.2.2.1) 56 u.2.2.2.2.1) 57 u.2.2.2.2.2.1) 58 u.2.2.2.2.2.2.1) (va_up (va_up (va_up (va_up (va_up (va_up mf 1 u.2.1) 4 u.2.2.1) 55 u.2.2.2.2.2.2.2.1) 53 u.2.2.2.2.2.2.2.2.1) 54 u.2.2.2.2.2.2.2.2.2.1) 16 u.2.2.2.2.2.2.2.2.2.2) mg))) E hr hlk (0, gnow_34, gwaiting_35, nisThought_36, nrunDark_37, nrunSpoilt_38, nrunFirst_39, gfarOf_40, gasked_41, gstack_42, gbook_43) hw44 ⟨hp_45, hp_46, hp_47, hp_49, hp_50, hp_48⟩ (Nat.le_of_ble_eq_true rfl) (Nat.le_of_ble_eq_true rfl) dX12_run_77
            · skip
              have hc_54 := eqE (a := z_what.toInt) (b := 2) rfl (by decide +kernel) c_54
              refine lv_aload_n (pc := 66) E.1 E.2.1 dX12_run_66 rfl (lv_at hl51 1 rfl) ?_
              refine x_get (pc := 67) (T := TX12) (N := 70) (ci := 12) (v := .int nrunSpoilt_38) E hw44 inX12 0 57 q_1456 rfl rfl (by decide) rfl rfl dX12_run_67 ?_
              refine lv_goto (pc := 70) (tgt := 77) E.1 E.2.1 dX12_run_70 (by decide) ?_
              exact em_i (w1 := (fun (u : Int32 × (Nat → Int32) × (Nat → Int32) × Int32 × Int32 × Int32 × Int32 × (Nat → Int32) × (Nat → Int32) × (Nat → Int32) × (Nat → Int32)) => (MW cI cJ M mr (upd (upd (upd (upd (upd mi 0 u.1) 5 u.2.2.2.1) 56 u.2.2.2.2.1) 57 u.2.2.2.2.2.1) 58 u.2.2.2.2.2.2.1) (va_up (va_up (va_up (va_up (va_up (va_up mf 1 u.2.1) 4 u.2.2.1) 55 u.2.2.2.2.2.2.2.1) 53 u.2.2.2.2.2.2.2.2.1) 54 u.2.2.2.2.2.2.2.2.2.1) 16 u.2.2.2.2.2.2.2.2.2.2) mg))) E hr hlk (0, gnow_34, gwaiting_35, nisThought_36, nrunDark_37, nrunSpoilt_38, nrunFirst_39, gfarOf_40, gasked_41, gstack_42, gbook_43) hw44 ⟨hp_45, hp_46, hp_47, hp_49, hp_50, hp_48⟩ (Nat.le_of_ble_eq_true rfl) (Nat.le_of_ble_eq_true rfl) dX12_run_77
          · skip
            have hc_53 := eqE (a := z_what.toInt) (b := 1) rfl (by decide +kernel) c_53
            refine lv_aload_n (pc := 54) E.1 E.2.1 dX12_run_54 rfl (lv_at hl51 1 rfl) ?_
            refine x_get (pc := 55) (T := TX12) (N := 70) (ci := 12) (v := .int nrunDark_37) E hw44 inX12 0 56 q_1455 rfl rfl (by decide) rfl rfl dX12_run_55 ?_
            refine lv_goto (pc := 58) (tgt := 77) E.1 E.2.1 dX12_run_58 (by decide) ?_
            exact em_i (w1 := (fun (u : Int32 × (Nat → Int32) × (Nat → Int32) × Int32 × Int32 × Int32 × Int32 × (Nat → Int32) × (Nat → Int32) × (Nat → Int32) × (Nat → Int32)) => (MW cI cJ M mr (upd (upd (upd (upd (upd mi 0 u.1) 5 u.2.2.2.1) 56 u.2.2.2.2.1) 57 u.2.2.2.2.2.1) 58 u.2.2.2.2.2.2.1) (va_up (va_up (va_up (va_up (va_up (va_up mf 1 u.2.1) 4 u.2.2.1) 55 u.2.2.2.2.2.2.2.1) 53 u.2.2.2.2.2.2.2.2.1) 54 u.2.2.2.2.2.2.2.2.2.1) 16 u.2.2.2.2.2.2.2.2.2.2) mg))) E hr hlk (0, gnow_34, gwaiting_35, nisThought_36, nrunDark_37, nrunSpoilt_38, nrunFirst_39, gfarOf_40, gasked_41, gstack_42, gbook_43) hw44 ⟨hp_45, hp_46, hp_47, hp_49, hp_50, hp_48⟩ (Nat.le_of_ble_eq_true rfl) (Nat.le_of_ble_eq_true rfl) dX12_run_77
        · skip
          have hc_52 := eqE (a := z_what.toInt) (b := 0) rfl (by decide +kernel) c_52
          refine lv_iload_n (pc := 45) E.1 E.2.1 dX12_run_45 rfl (lv_at hl51 0 rfl) ?_
          refine lv_goto (pc := 46) (tgt := 77) E.1 E.2.1 dX12_run_46 (by decide) ?_
          exact em_i (w1 := (fun (u : Int32 × (Nat → Int32) × (Nat → Int32) × Int32 × Int32 × Int32 × Int32 × (Nat → Int32) × (Nat → Int32) × (Nat → Int32) × (Nat → Int32)) => (MW cI cJ M mr (upd (upd (upd (upd (upd mi 0 u.1) 5 u.2.2.2.1) 56 u.2.2.2.2.1) 57 u.2.2.2.2.2.1) 58 u.2.2.2.2.2.2.1) (va_up (va_up (va_up (va_up (va_up (va_up mf 1 u.2.1) 4 u.2.2.1) 55 u.2.2.2.2.2.2.2.1) 53 u.2.2.2.2.2.2.2.2.1) 54 u.2.2.2.2.2.2.2.2.2.1) 16 u.2.2.2.2.2.2.2.2.2.2) mg))) E hr hlk (0, gnow_34, gwaiting_35, nisThought_36, nrunDark_37, nrunSpoilt_38, nrunFirst_39, gfarOf_40, gasked_41, gstack_42, gbook_43) hw44 ⟨hp_45, hp_46, hp_47, hp_49, hp_50, hp_48⟩ (Nat.le_of_ble_eq_true rfl) (Nat.le_of_ble_eq_true rfl) dX12_run_77
set_option maxHeartbeats 4000000 in
set_option maxRecDepth 100000 in
theorem s_undoU (l : Launch) (D : va_G) (cI cJ : ClassId) (sz M : Nat) (mr : Nat → Nat) (mi : Nat → Int32) (mf : Nat → Nat → Int32) (mg : Nat → Nat → Int64)  (h0 : 0 ≤ (mi 6).toInt ∧ (mi 6).toInt ≤ 10) (h1 : 0 ≤ (mi 3).toInt ∧ (mi 3).toInt ≤ 6) (h2 : 0 ≤ ((mf 1) 2).toInt ∧ ((mf 1) 2).toInt ≤ 150) (h3 : 0 ≤ ((mf 1) 3).toInt ∧ ((mf 1) 3).toInt ≤ 9) (h4 : 0 ≤ ((mf 1) 5).toInt ∧ ((mf 1) 5).toInt ≤ 200) (lf_rows : rowsOK (mi 3).toInt (mi 6).toInt (mf 2)) (lf_lamp : (((mi 6).toInt = 0 ∧ ((mf 1) 3).toInt = 0) ∨ ((mf 1) 3).toInt < (mi 6).toInt)) (lf_kept : RKN (mi 3).toInt (((mf 1) 0).toInt) (mf 2)) (lf_keptD : RKD (mi 3).toInt ((mf 1) 1) (mi 12).toInt (mf 2)) : Met l yX12_undo (Cond.code yX12_undo cX12_undo 2 (some .boolean) :: GW) ({ frames := 1, cells := 0, slots := 0, locals := 40 } : Room) (va_Pc [.ref M] (PW D cI cJ sz (MW cI cJ M mr mi mf mg) xT)) (va_Qi (fun (r : Int32) (u : Int32 × Int32 × (Nat → Int32)) => (0 ≤ u.2.1.toInt ∧ u.2.1.toInt ≤ 6) ∧ (0 ≤ (u.2.2 2).toInt ∧ (u.2.2 2).toInt ≤ 150) ∧ (0 ≤ (u.2.2 3).toInt ∧ (u.2.2 3).toInt ≤ 9) ∧ (0 ≤ (u.2.2 5).toInt ∧ (u.2.2 5).toInt ≤ 200) ∧ (rowsOK u.2.1.toInt (mi 6).toInt (mf 2)) ∧ ((((mi 6).toInt = 0 ∧ (u.2.2 3).toInt = 0) ∨ (u.2.2 3).toInt < (mi 6).toInt)) ∧ (RKN u.2.1.toInt ((u.2.2 0).toInt) (mf 2)) ∧ (RKD u.2.1.toInt (u.2.2 1) (mi 12).toInt (mf 2)) ∧ ((((r : Int32) = 1 ∧ u.2.2 1 = bk1 (mi 12).toInt ((mf 1) 1)) ∨ ((r : Int32) = 0 ∧ u.2.2 1 = (mf 1) 1))) ∧ ((r = 0 ∧ (mi 3).toInt = 0 ∧ (u.2.2 0).toInt = ((mf 1) 0).toInt ∧ u.2.1.toInt = (mi 3).toInt) ∨ (r = 1 ∧ 1 ≤ (mi 3).toInt ∧ u.2.1.toInt = (mi 3).toInt - 1 ∧ (u.2.2 0).toInt = ((mf 1) 0).toInt - 1))) (fun u => QW D cI cJ (va_A (MW cI cJ M mr mi mf mg) sz) ((fun (u : Int32 × Int32 × (Nat → Int32)) => (MW cI cJ M mr (upd (upd mi 0 u.1) 3 u.2.1) (va_up mf 1 u.2.2) mg)) u)) (va_A (MW cI cJ M mr mi mf mg) sz)) 0 0 (va_A (MW cI cJ M mr mi mf mg) sz) := by
  refine mk_met (y := yX12_undo) (bytes := cX12_undo) (maxL := 2) (avs := [.ref M]) (WS := (MW cI cJ M mr mi mf mg)) (Qf := fun A => va_Qi (fun (r : Int32) (u : Int32 × Int32 × (Nat → Int32)) => (0 ≤ u.2.1.toInt ∧ u.2.1.toInt ≤ 6) ∧ (0 ≤ (u.2.2 2).toInt ∧ (u.2.2 2).toInt ≤ 150) ∧ (0 ≤ (u.2.2 3).toInt ∧ (u.2.2 3).toInt ≤ 9) ∧ (0 ≤ (u.2.2 5).toInt ∧ (u.2.2 5).toInt ≤ 200) ∧ (rowsOK u.2.1.toInt (mi 6).toInt (mf 2)) ∧ ((((mi 6).toInt = 0 ∧ (u.2.2 3).toInt = 0) ∨ (u.2.2 3).toInt < (mi 6).toInt)) ∧ (RKN u.2.1.toInt ((u.2.2 0).toInt) (mf 2)) ∧ (RKD u.2.1.toInt (u.2.2 1) (mi 12).toInt (mf 2)) ∧ ((((r : Int32) = 1 ∧ u.2.2 1 = bk1 (mi 12).toInt ((mf 1) 1)) ∨ ((r : Int32) = 0 ∧ u.2.2 1 = (mf 1) 1))) ∧ ((r = 0 ∧ (mi 3).toInt = 0 ∧ (u.2.2 0).toInt = ((mf 1) 0).toInt ∧ u.2.1.toInt = (mi 3).toInt) ∨ (r = 1 ∧ 1 ≤ (mi 3).toInt ∧ u.2.1.toInt = (mi 3).toInt - 1 ∧ (u.2.2 0).toInt = ((mf 1) 0).toInt - 1))) (fun u => QW D cI cJ A ((fun (u : Int32 × Int32 × (Nat → Int32)) => (MW cI cJ M mr (upd (upd mi 0 u.1) 3 u.2.1) (va_up mf 1 u.2.2) mg)) u)) A) (by decide) (Nat.le_of_ble_eq_true rfl) ?_
  intro p e s m below meth c A ls E hr hlk hnm hX hw1 hl2
  have hl3 : lv_has ls 2 [(0, .ref M)] := hl2
  refine lv_aload_n (pc := 0) E.1 E.2.1 dX12_undo_0 rfl (lv_at hl3 0 rfl) ?_
  refine lv_iconst (pc := 1) (v := 0) E.1 E.2.1 dX12_undo_1 (by decide +kernel) ?_
  refine x_put (pc := 2) (T := TX12) (N := 70) (ci := 12) (ws' := (MW cI cJ M mr (upd mi 0 0) mf mg)) E hw1 inX12 tyX12_ok nmX12 0 0 q_1399 rfl rfl (by decide) rfl rfl rfl rfl (Nat.le_of_ble_eq_true rfl) rfl dX12_undo_2 (fun H locs hw4 => ?_)
  refine lv_aload_n (pc := 5) E.1 E.2.1 dX12_undo_5 rfl (lv_at hl3 0 rfl) ?_
  refine x_get (pc := 6) (T := TX12) (N := 70) (ci := 12) (v := .int (mi 3)) E hw4 inX12 0 3 q_1402 rfl rfl (by decide) rfl rfl dX12_undo_6 ?_
  refine lv_if_ne (pc := 9) (tgt := 14) E.1 E.2.1 dX12_undo_9 (by decide) (fun c_5 => ?_) (fun c_5 => ?_)
  · skip
    have hc_5 := neE (a := (mi 3).toInt) (b := 0) rfl (by decide +kernel) c_5
    refine lv_aload_n (pc := 14) E.1 E.2.1 dX12_undo_14 rfl (lv_at hl3 0 rfl) ?_
    refine lv_aload_n (pc := 15) E.1 E.2.1 dX12_undo_15 rfl (lv_at hl3 0 rfl) ?_
    refine x_get (pc := 16) (T := TX12) (N := 70) (ci := 12) (v := .int (mi 3)) E hw4 inX12 0 3 q_1402 rfl rfl (by decide) rfl rfl dX12_undo_16 ?_
    refine lv_iconst (pc := 19) (v := 1) E.1 E.2.1 dX12_undo_19 (by decide +kernel) ?_
    refine lv_isub (pc := 20) E.1 E.2.1 dX12_undo_20 ?_
    refine lv_topi (fun v_6 ev_6 => ?_)
    have hv_6 : v_6.toInt = (mi 3).toInt - 1 := by rw [ev_6]; exact subE rfl (by decide +kernel) (by omega)
    refine x_put (pc := 21) (T := TX12) (N := 70) (ci := 12) (ws' := (MW cI cJ M mr (upd (upd mi 0 0) 3 v_6) mf mg)) E hw4 inX12 tyX12_ok nmX12 0 3 q_1402 rfl rfl (by decide) rfl rfl rfl rfl (Nat.le_of_ble_eq_true rfl) rfl dX12_undo_21 (fun H locs hw7 => ?_)
    refine lv_iconst (pc := 24) (v := 0) E.1 E.2.1 dX12_undo_24 (by decide +kernel) ?_
    refine lv_istore_n (pc := 25) (lv' := [(1, .int 0), (0, .ref M)]) E.1 E.2.1 dX12_undo_25 rfl hl3 (by decide) rfl (fun ls hl8 => ?_)
    have loop_9 : ∀ (k : Nat) (x_10 : Int32) (g_11 : Nat → Int32) (H : Heap) (locs : List Loc) (ls : Array Slot), (0 ≤ x_10.toInt ∧ x_10.toInt ≤ 66) ∧ (CP g_11 (mf 2) 0 (66 * v_6.toNatClampNeg) x_10.toInt) → 66 - x_10.toInt < (k : Int) → WD D A s.heap (MW cI cJ M mr (upd (upd mi 0 0) 3 v_6) (va_up mf 1 g_11) mg) H locs → lv_has ls 2 [(1, .int x_10), (0, .ref M)] → W p l e ({ frames := 1, cells := 0, slots := 0, locals := 40 } : Room) s m ([.ref M] : List Value).toArray below meth c H locs 0 0 (MQ below (va_Qi (fun (r : Int32) (u : Int32 × Int32 × (Nat → Int32)) => (0 ≤ u.2.1.toInt ∧ u.2.1.toInt ≤ 6) ∧ (0 ≤ (u.2.2 2).toInt ∧ (u.2.2 2).toInt ≤ 150) ∧ (0 ≤ (u.2.2 3).toInt ∧ (u.2.2 3).toInt ≤ 9) ∧ (0 ≤ (u.2.2 5).toInt ∧ (u.2.2 5).toInt ≤ 200) ∧ (rowsOK u.2.1.toInt (mi 6).toInt (mf 2)) ∧ ((((mi 6).toInt = 0 ∧ (u.2.2 3).toInt = 0) ∨ (u.2.2 3).toInt < (mi 6).toInt)) ∧ (RKN u.2.1.toInt ((u.2.2 0).toInt) (mf 2)) ∧ (RKD u.2.1.toInt (u.2.2 1) (mi 12).toInt (mf 2)) ∧ ((((r : Int32) = 1 ∧ u.2.2 1 = bk1 (mi 12).toInt ((mf 1) 1)) ∨ ((r : Int32) = 0 ∧ u.2.2 1 = (mf 1) 1))) ∧ ((r = 0 ∧ (mi 3).toInt = 0 ∧ (u.2.2 0).toInt = ((mf 1) 0).toInt ∧ u.2.1.toInt = (mi 3).toInt) ∨ (r = 1 ∧ 1 ≤ (mi 3).toInt ∧ u.2.1.toInt = (mi 3).toInt - 1 ∧ (u.2.2 0).toInt = ((mf 1) 0).toInt - 1))) (fun u => QW D cI cJ A ((fun (u : Int32 × Int32 × (Nat → Int32)) => (MW cI cJ M mr (upd (upd mi 0 u.1) 3 u.2.1) (va_up mf 1 u.2.2) mg)) u)) A) ([.ref M] : List Value).toArray s 0 0 A) (F0 m 26 ls []) := by
      intro k
      induction k with
      | zero =>
        intro x_10 g_11 _ _ _ hinv hm
        obtain ⟨hi_11_0, hi_11_1⟩ := hinv
        exact absurd hm (by omega)
      | succ k ih_12 =>
        intro x_10 g_11 H locs ls hinv hm hw13 hl14
        obtain ⟨hi_11_0, hi_11_1⟩ := hinv
        refine lv_iload_n (pc := 26) E.1 E.2.1 dX12_undo_26 rfl (lv_at hl14 0 rfl) ?_
        refine lv_bipush (pc := 27) (v := 66) E.1 E.2.1 dX12_undo_27 (by decide +kernel) ?_
        refine lv_icmp_ge (pc := 29) (tgt := 58) E.1 E.2.1 dX12_undo_29 (by decide) (fun c_15 => ?_) (fun c_15 => ?_)
        · skip
          have hc_15 := leE (a := 66) (b := x_10.toInt) (by decide +kernel) rfl c_15
          have hu0 := idxI (x := v_6) (by omega)
          have hun : (g_11 0).toInt = ((mf 2) (66 * v_6.toNatClampNeg + 0)).toInt := congrArg Int32.toInt ((Nat.zero_add 0) ▸ hi_11_1 0 (by omega))
          have huk := lf_kept v_6.toNatClampNeg (by omega)
          have hum : (g_11 0).toInt = ((mf 1) 0).toInt - 1 := by rw [hun, Nat.add_zero, huk]; omega
          have q9 := idxI (x := v_6) (by omega)
          have hro := lf_rows v_6.toNatClampNeg (by omega)
          have ht_16 : (g_11 2).toInt = ((mf 2) (66 * v_6.toNatClampNeg + 2)).toInt := congrArg Int32.toInt ((Nat.zero_add 2) ▸ hi_11_1 2 (by omega))
          have ht_17 : (g_11 3).toInt = ((mf 2) (66 * v_6.toNatClampNeg + 3)).toInt := congrArg Int32.toInt ((Nat.zero_add 3) ▸ hi_11_1 3 (by omega))
          have ht_18 : (g_11 5).toInt = ((mf 2) (66 * v_6.toNatClampNeg + 5)).toInt := congrArg Int32.toInt ((Nat.zero_add 5) ▸ hi_11_1 5 (by omega))
          obtain ⟨⟨hro1, hro2⟩, ⟨hro3, hro4⟩, hro5, hro6⟩ := hro
          have hud : g_11 1 = bk1 (mi 12).toInt ((mf 1) 1) := (hi_11_1 1 (by omega)).trans ((lf_keptD v_6.toNatClampNeg (by omega)).trans (bkD_1 (by omega)))
          refine lv_iconst (pc := 58) (v := 1) E.1 E.2.1 dX12_undo_58 (by decide +kernel) ?_
          exact em_z (w1 := (fun (u : Int32 × Int32 × (Nat → Int32)) => (MW cI cJ M mr (upd (upd mi 0 u.1) 3 u.2.1) (va_up mf 1 u.2.2) mg))) E hr hlk (0, v_6, g_11) hw13 ⟨(by show 0 ≤ v_6.toInt ∧ v_6.toInt ≤ 6; have k_0 : (0 : Int32).toInt = 0 := (by decide +kernel); have k_1 : (1 : Int32).toInt = 1 := (by decide +kernel); omega), (by show 0 ≤ (g_11 2).toInt ∧ (g_11 2).toInt ≤ 150; have k_0 : (0 : Int32).toInt = 0 := (by decide +kernel); have k_1 : (1 : Int32).toInt = 1 := (by decide +kernel); omega), (by show 0 ≤ (g_11 3).toInt ∧ (g_11 3).toInt ≤ 9; have k_0 : (0 : Int32).toInt = 0 := (by decide +kernel); have k_1 : (1 : Int32).toInt = 1 := (by decide +kernel); omega), (by show 0 ≤ (g_11 5).toInt ∧ (g_11 5).toInt ≤ 200; have k_0 : (0 : Int32).toInt = 0 := (by decide +kernel); have k_1 : (1 : Int32).toInt = 1 := (by decide +kernel); omega), (show rowsOK v_6.toInt (mi 6).toInt (mf 2) from (rowsOK_less lf_rows (by omega))), (show (((mi 6).toInt = 0 ∧ (g_11 3).toInt = 0) ∨ (g_11 3).toInt < (mi 6).toInt) from (Or.inr (by omega))), (show RKN v_6.toInt ((g_11 0).toInt) (mf 2) from (RKN_less lf_kept (by omega) (by omega))), (show RKD v_6.toInt (g_11 1) (mi 12).toInt (mf 2) from (RKD_less lf_keptD (by omega) hud rfl)), (show (((1 : Int32) = 1 ∧ g_11 1 = bk1 (mi 12).toInt ((mf 1) 1)) ∨ ((1 : Int32) = 0 ∧ g_11 1 = (mf 1) 1)) from (Or.inl ⟨rfl, hud⟩)), (Or.inr (⟨rfl, (by show 1 ≤ (mi 3).toInt; omega), (by show v_6.toInt = (mi 3).toInt - 1; omega), (by show (g_11 0).toInt = ((mf 1) 0).toInt - 1; omega)⟩))⟩ (by decide +kernel) (Nat.le_of_ble_eq_true rfl) (Nat.le_of_ble_eq_true rfl) dX12_undo_59
        · skip
          have hc_15 := nleE (a := 66) (b := x_10.toInt) (by decide +kernel) rfl c_15
          refine lv_aload_n (pc := 32) E.1 E.2.1 dX12_undo_32 rfl (lv_at hl14 1 rfl) ?_
          refine x_get (pc := 33) (T := TX12) (N := 70) (ci := 12) (v := .ref (mr 1)) E hw13 inX12 0 1 q_1400 rfl rfl (by decide) rfl rfl dX12_undo_33 ?_
          refine lv_iload_n (pc := 36) E.1 E.2.1 dX12_undo_36 rfl (lv_at hl14 0 rfl) ?_
          refine lv_aload_n (pc := 37) E.1 E.2.1 dX12_undo_37 rfl (lv_at hl14 1 rfl) ?_
          refine x_get (pc := 38) (T := TX12) (N := 70) (ci := 12) (v := .ref (mr 2)) E hw13 inX12 0 2 q_1401 rfl rfl (by decide) rfl rfl dX12_undo_38 ?_
          refine lv_bipush (pc := 41) (v := 66) E.1 E.2.1 dX12_undo_41 (by decide +kernel) ?_
          refine lv_aload_n (pc := 43) E.1 E.2.1 dX12_undo_43 rfl (lv_at hl14 1 rfl) ?_
          refine x_get (pc := 44) (T := TX12) (N := 70) (ci := 12) (v := .int v_6) E hw13 inX12 0 3 q_1402 rfl rfl (by decide) rfl rfl dX12_undo_44 ?_
          refine lv_imul (pc := 47) E.1 E.2.1 dX12_undo_47 ?_
          refine lv_topi (fun v_19 ev_19 => ?_)
          have hv_19 : v_19.toInt = 66 * v_6.toInt := by rw [ev_19]; exact mulE (by decide +kernel) rfl (by omega)
          refine lv_iload_n (pc := 48) E.1 E.2.1 dX12_undo_48 rfl (lv_at hl14 0 rfl) ?_
          refine lv_iadd (pc := 49) E.1 E.2.1 dX12_undo_49 ?_
          refine lv_topi (fun v_20 ev_20 => ?_)
          have hv_20 : v_20.toInt = v_19.toInt + x_10.toInt := by rw [ev_20]; exact addE rfl rfl (by omega)
          refine x_iald (pc := 50) (f := (mf 2)) E hw13 2 rfl (inbE (a := v_20.toInt) rfl (by omega)) dX12_undo_50 ?_
          refine lv_topi (fun v_21 ev_21 => ?_)
          refine x_iastG (pc := 51) (f := g_11) (wf := fun g => (MW cI cJ M mr (upd (upd mi 0 0) 3 v_6) (va_up mf 1 g) mg)) E hw13 1 rfl (inbE (a := x_10.toInt) rfl (by omega)) (fun _ => rfl) dX12_undo_51 (fun g_22 H locs eg_22 hw23 => ?_)
          obtain ⟨v_29, ev_29⟩ : ∃ z : Int32, x_10 + Int32.ofInt (1) = z := ⟨_, rfl⟩
          have hv_29 : v_29.toInt = x_10.toInt + (1) := by rw [← ev_29]; exact incE rfl (by decide) (by omega)
          refine lv_iinc (pc := 52) (v := v_29) (lv' := [(1, .int v_29), (0, .ref M)]) E.1 E.2.1 dX12_undo_52 hl14 (k := 0) rfl ev_29 (by decide) rfl (fun ls hl30 => ?_)
          refine lv_goto (pc := 55) (tgt := 26) E.1 E.2.1 dX12_undo_55 (by decide) ?_
          exact ih_12 v_29 g_22 _ _ _ ⟨(by show 0 ≤ v_29.toInt ∧ v_29.toInt ≤ 66; omega), (CP_step (i := x_10) (j := v_29) hi_11_1 eg_22 ev_21 (by omega) (by have q9 := idxI (x := v_6) (by omega); omega) (by omega) (by omega))⟩ (by omega) hw23 (lv_sub hl30 [0, 1] rfl)
    exact loop_9 (Int.toNat (66 - 0) + 1) 0 (mf 1) _ _ _ ⟨(by show 0 ≤ (0 : Int32).toInt ∧ (0 : Int32).toInt ≤ 66; have k_0 : (0 : Int32).toInt = 0 := (by decide +kernel); omega), (CP_nil (by decide +kernel))⟩ (by have k_0 : (0 : Int32).toInt = 0 := (by decide +kernel); omega) hw7 (lv_sub hl8 [0, 1] rfl)
  · skip
    have hc_5 := eqE (a := (mi 3).toInt) (b := 0) rfl (by decide +kernel) c_5
    refine lv_iconst (pc := 12) (v := 0) E.1 E.2.1 dX12_undo_12 (by decide +kernel) ?_
    exact em_z (w1 := (fun (u : Int32 × Int32 × (Nat → Int32)) => (MW cI cJ M mr (upd (upd mi 0 u.1) 3 u.2.1) (va_up mf 1 u.2.2) mg))) E hr hlk (0, (mi 3), (mf 1)) hw4 ⟨h1, h2, h3, h4, (show rowsOK (mi 3).toInt (mi 6).toInt (mf 2) from lf_rows), (show (((mi 6).toInt = 0 ∧ ((mf 1) 3).toInt = 0) ∨ ((mf 1) 3).toInt < (mi 6).toInt) from lf_lamp), (show RKN (mi 3).toInt (((mf 1) 0).toInt) (mf 2) from lf_kept), (show RKD (mi 3).toInt ((mf 1) 1) (mi 12).toInt (mf 2) from lf_keptD), (show (((0 : Int32) = 1 ∧ (mf 1) 1 = bk1 (mi 12).toInt ((mf 1) 1)) ∨ ((0 : Int32) = 0 ∧ (mf 1) 1 = (mf 1) 1)) from (Or.inr ⟨rfl, rfl⟩)), (Or.inl ⟨rfl, (by show (mi 3).toInt = 0; omega), rfl, rfl⟩)⟩ (by decide +kernel) (Nat.le_of_ble_eq_true rfl) (Nat.le_of_ble_eq_true rfl) dX12_undo_13
set_option maxHeartbeats 4000000 in
set_option maxRecDepth 100000 in
theorem s_stateU (l : Launch) (D : va_G) (cI cJ : ClassId) (sz M : Nat) (mr : Nat → Nat) (mi : Nat → Int32) (mf : Nat → Nat → Int32) (mg : Nat → Nat → Int64) (z_v : Int32)  : Met l yX12_state (Cond.code yX12_state cX12_state 3 (some .int) :: GW) ({ frames := 1, cells := 0, slots := 0, locals := 40 } : Room) (va_Pc [.ref M, .int z_v] (PW D cI cJ sz (MW cI cJ M mr mi mf mg) xT)) (va_Qi (fun (r : Int32) (u : Int32 × (Nat → Int32) × Int32) => (u.2.2.toInt = 0) ∧ ((u.2.1 2).toInt = ((mf 1) 2).toInt) ∧ ((u.2.1 3).toInt = ((mf 1) 3).toInt) ∧ ((u.2.1 5).toInt = ((mf 1) 5).toInt) ∧ ((u.2.1 0).toInt = ((mf 1) 0).toInt) ∧ (RKN u.2.2.toInt ((u.2.1 0).toInt) (mf 2)) ∧ (RKD u.2.2.toInt (u.2.1 1) (mi 12).toInt (mf 2)) ∧ ((u.2.1 1 = z_v ∧ (r : Int32) = (mf 1) 1))) (fun u => QW D cI cJ (va_A (MW cI cJ M mr mi mf mg) sz) ((fun (u : Int32 × (Nat → Int32) × Int32) => (MW cI cJ M mr (upd (upd mi 0 u.1) 3 u.2.2) (va_up mf 1 u.2.1) mg)) u)) (va_A (MW cI cJ M mr mi mf mg) sz)) 0 0 (va_A (MW cI cJ M mr mi mf mg) sz) := by
  refine mk_met (y := yX12_state) (bytes := cX12_state) (maxL := 3) (avs := [.ref M, .int z_v]) (WS := (MW cI cJ M mr mi mf mg)) (Qf := fun A => va_Qi (fun (r : Int32) (u : Int32 × (Nat → Int32) × Int32) => (u.2.2.toInt = 0) ∧ ((u.2.1 2).toInt = ((mf 1) 2).toInt) ∧ ((u.2.1 3).toInt = ((mf 1) 3).toInt) ∧ ((u.2.1 5).toInt = ((mf 1) 5).toInt) ∧ ((u.2.1 0).toInt = ((mf 1) 0).toInt) ∧ (RKN u.2.2.toInt ((u.2.1 0).toInt) (mf 2)) ∧ (RKD u.2.2.toInt (u.2.1 1) (mi 12).toInt (mf 2)) ∧ ((u.2.1 1 = z_v ∧ (r : Int32) = (mf 1) 1))) (fun u => QW D cI cJ A ((fun (u : Int32 × (Nat → Int32) × Int32) => (MW cI cJ M mr (upd (upd mi 0 u.1) 3 u.2.2) (va_up mf 1 u.2.1) mg)) u)) A) (by decide) (Nat.le_of_ble_eq_true rfl) ?_
  intro p e s m below meth c A ls E hr hlk hnm hX hw1 hl2
  have hl3 : lv_has ls 3 [(0, .ref M), (1, .int z_v)] := hl2
  refine lv_aload_n (pc := 0) E.1 E.2.1 dX12_state_0 rfl (lv_at hl3 0 rfl) ?_
  refine lv_iconst (pc := 1) (v := 0) E.1 E.2.1 dX12_state_1 (by decide +kernel) ?_
  refine x_put (pc := 2) (T := TX12) (N := 70) (ci := 12) (ws' := (MW cI cJ M mr (upd mi 0 0) mf mg)) E hw1 inX12 tyX12_ok nmX12 0 0 q_1399 rfl rfl (by decide) rfl rfl rfl rfl (Nat.le_of_ble_eq_true rfl) rfl dX12_state_2 (fun H locs hw4 => ?_)
  refine lv_aload_n (pc := 5) E.1 E.2.1 dX12_state_5 rfl (lv_at hl3 0 rfl) ?_
  refine x_get (pc := 6) (T := TX12) (N := 70) (ci := 12) (v := .ref (mr 1)) E hw4 inX12 0 1 q_1400 rfl rfl (by decide) rfl rfl dX12_state_6 ?_
  refine lv_iconst (pc := 9) (v := 1) E.1 E.2.1 dX12_state_9 (by decide +kernel) ?_
  refine x_iald (pc := 10) (f := (mf 1)) E hw4 1 rfl (inbE (a := 1) (by decide +kernel) (by omega)) dX12_state_10 ?_
  refine lv_topi (fun v_5 ev_5 => ?_)
  have hv_5 : v_5.toInt = ((mf 1) 1).toInt := by rw [ev_5]; rfl
  refine lv_istore_n (pc := 11) (lv' := [(2, .int v_5), (0, .ref M), (1, .int z_v)]) E.1 E.2.1 dX12_state_11 rfl hl3 (by decide) rfl (fun ls hl6 => ?_)
  refine lv_aload_n (pc := 12) E.1 E.2.1 dX12_state_12 rfl (lv_at hl6 1 rfl) ?_
  refine x_get (pc := 13) (T := TX12) (N := 70) (ci := 12) (v := .ref (mr 1)) E hw4 inX12 0 1 q_1400 rfl rfl (by decide) rfl rfl dX12_state_13 ?_
  refine lv_iconst (pc := 16) (v := 1) E.1 E.2.1 dX12_state_16 (by decide +kernel) ?_
  refine lv_iload_n (pc := 17) E.1 E.2.1 dX12_state_17 rfl (lv_at hl6 2 rfl) ?_
  refine x_iastG (pc := 18) (f := (mf 1)) (wf := fun g => (MW cI cJ M mr (upd mi 0 0) (va_up mf 1 g) mg)) E hw4 1 rfl (inbE (a := 1) (by decide +kernel) (by omega)) (fun _ => rfl) dX12_state_18 (fun g_7 H locs eg_7 hw8 => ?_)
  have ht_9 : (g_7 0).toInt = ((mf 1) 0).toInt := by rw [eg_7]; rfl
  have ht_10 : (g_7 1).toInt = (z_v : Int32).toInt := by rw [eg_7]; rfl
  have ht_11 : (g_7 2).toInt = ((mf 1) 2).toInt := by rw [eg_7]; rfl
  have ht_12 : (g_7 3).toInt = ((mf 1) 3).toInt := by rw [eg_7]; rfl
  have ht_13 : (g_7 5).toInt = ((mf 1) 5).toInt := by rw [eg_7]; rfl
  refine lv_aload_n (pc := 19) E.1 E.2.1 dX12_state_19 rfl (lv_at hl6 1 rfl) ?_
  refine lv_iconst (pc := 20) (v := 0) E.1 E.2.1 dX12_state_20 (by decide +kernel) ?_
  refine x_put (pc := 21) (T := TX12) (N := 70) (ci := 12) (ws' := (MW cI cJ M mr (upd (upd mi 0 0) 3 0) (va_up mf 1 g_7) mg)) E hw8 inX12 tyX12_ok nmX12 0 3 q_1402 rfl rfl (by decide) rfl rfl rfl rfl (Nat.le_of_ble_eq_true rfl) rfl dX12_state_21 (fun H locs hw14 => ?_)
  refine lv_iload_n (pc := 24) E.1 E.2.1 dX12_state_24 rfl (lv_at hl6 0 rfl) ?_
  exact em_i (w1 := (fun (u : Int32 × (Nat → Int32) × Int32) => (MW cI cJ M mr (upd (upd mi 0 u.1) 3 u.2.2) (va_up mf 1 u.2.1) mg))) E hr hlk (0, g_7, 0) hw14 ⟨(by show (0 : Int32).toInt = 0; have k_0 : (0 : Int32).toInt = 0 := (by decide +kernel); have k_1 : (0 : Int32).toInt = 0 := (by decide +kernel); omega), (by show (g_7 2).toInt = ((mf 1) 2).toInt; have k_0 : (0 : Int32).toInt = 0 := (by decide +kernel); have k_1 : (0 : Int32).toInt = 0 := (by decide +kernel); omega), (by show (g_7 3).toInt = ((mf 1) 3).toInt; have k_0 : (0 : Int32).toInt = 0 := (by decide +kernel); have k_1 : (0 : Int32).toInt = 0 := (by decide +kernel); omega), (by show (g_7 5).toInt = ((mf 1) 5).toInt; have k_0 : (0 : Int32).toInt = 0 := (by decide +kernel); have k_1 : (0 : Int32).toInt = 0 := (by decide +kernel); omega), (by show (g_7 0).toInt = ((mf 1) 0).toInt; have k_0 : (0 : Int32).toInt = 0 := (by decide +kernel); have k_1 : (0 : Int32).toInt = 0 := (by decide +kernel); omega), (show RKN (0 : Int32).toInt ((g_7 0).toInt) (mf 2) from (RKN_nil (by first | omega | decide +kernel))), (show RKD (0 : Int32).toInt (g_7 1) (mi 12).toInt (mf 2) from (RKD_nil (by first | omega | decide +kernel))), (show (g_7 1 = z_v ∧ (v_5 : Int32) = (mf 1) 1) from ⟨(by rw [eg_7]; rfl), ev_5⟩)⟩ (Nat.le_of_ble_eq_true rfl) (Nat.le_of_ble_eq_true rfl) dX12_state_25

