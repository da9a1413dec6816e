set_option maxHeartbeats 4000000 in
set_option maxRecDepth 100000 in
theorem t_roomsR (l : Launch) (D : va_G) (cI cJ : ClassId) (sz : Nat) (mr : Nat → Nat) (mi : Nat → Int32) (mf : Nat → Nat → Int32) (mg : Nat → Nat → Int64) (z_what : Int32) (mv : Nat → Value) (h0 : 0 ≤ (mi 1).toInt ∧ (mi 1).toInt ≤ 5) (h1 : 0 ≤ (mi 2).toInt ∧ (mi 2).toInt ≤ 6) (h2 : 0 ≤ (mi 14).toInt ∧ (mi 14).toInt ≤ 10) (x_wf : WFF (mi 14).toInt (mf 13)) : Met l yX11_rooms (Cond.code yX11_rooms cX11_rooms 3 (some .int) :: GW) ({ frames := 11, cells := 1, slots := 1024, locals := 263 } : Room) (va_Pc [.ref (mr 0), .int z_what] (PW D cI cJ sz (WZ_MroomsR cI cJ mv mr mi mf mg) xT)) (va_Qi (fun (r : Int32) (u : (Nat → Int32) × (Nat → Nat → Int32) × (Nat → Nat → Int64)) => (0 ≤ (u.1 1).toInt) ∧ ((u.1 1).toInt ≤ 5) ∧ (0 ≤ (u.1 2).toInt) ∧ ((u.1 2).toInt ≤ 6) ∧ (0 ≤ (u.1 14).toInt) ∧ ((u.1 14).toInt ≤ 10) ∧ ((u.1 14).toInt = (mi 14).toInt) ∧ ((Eq (mf 9)) (u.2.1 9)) ∧ ((Eq (mf 13)) (u.2.1 13)) ∧ ((r : Int32).toInt = RMA (mf 13) (mi 14).toInt z_what.toInt)) (fun u => QW D cI cJ (va_A (WZ_MroomsR cI cJ mv mr mi mf mg) sz) ((fun (u : (Nat → Int32) × (Nat → Nat → Int32) × (Nat → Nat → Int64)) => (WZ_MroomsR cI cJ mv mr u.1 u.2.1 u.2.2)) u)) (va_A (WZ_MroomsR cI cJ mv mr mi mf mg) sz)) 1 1024 (va_A (WZ_MroomsR cI cJ mv mr mi mf mg) sz) := by
  refine mk_met (y := yX11_rooms) (bytes := cX11_rooms) (maxL := 3) (avs := [.ref (mr 0), .int z_what]) (WS := (WZ_MroomsR cI cJ mv mr mi mf mg)) (Qf := fun A => va_Qi (fun (r : Int32) (u : (Nat → Int32) × (Nat → Nat → Int32) × (Nat → Nat → Int64)) => (0 ≤ (u.1 1).toInt) ∧ ((u.1 1).toInt ≤ 5) ∧ (0 ≤ (u.1 2).toInt) ∧ ((u.1 2).toInt ≤ 6) ∧ (0 ≤ (u.1 14).toInt) ∧ ((u.1 14).toInt ≤ 10) ∧ ((u.1 14).toInt = (mi 14).toInt) ∧ ((Eq (mf 9)) (u.2.1 9)) ∧ ((Eq (mf 13)) (u.2.1 13)) ∧ ((r : Int32).toInt = RMA (mf 13) (mi 14).toInt z_what.toInt)) (fun u => QW D cI cJ A ((fun (u : (Nat → Int32) × (Nat → Nat → Int32) × (Nat → Nat → Int64)) => (WZ_MroomsR cI cJ mv mr u.1 u.2.1 u.2.2)) u)) A) (by decide) (Nat.le_of_ble_eq_true rfl) ?_
  intro p e s m below meth c A ls E hr hlk hnm hX hw1 hl2
  have hl3 : lv_has ls 3 [(0, .ref (mr 0)), (1, .int z_what)] := hl2
  have hwm := Int32.toInt_lt z_what
  refine lv_iload_n (pc := 0) E.1 E.2.1 dX11_rooms_0 rfl (lv_at hl3 1 rfl) ?_
  refine lv_if_eq (pc := 1) (tgt := 29) E.1 E.2.1 dX11_rooms_1 (by decide) (fun c_4 => ?_) (fun c_4 => ?_)
  · skip
    have hc_4 := eqE (a := z_what.toInt) (b := 0) rfl (by decide +kernel) c_4
    refine lv_aload_n (pc := 29) E.1 E.2.1 dX11_rooms_29 rfl (lv_at hl3 0 rfl) ?_
    refine x_get (pc := 30) (T := TX11) (N := 13) (ci := 11) (v := .ref (mr 3)) E hw1 inX11 0 0 q_606 rfl rfl (by decide) rfl rfl dX11_rooms_30 ?_
    refine x_get (pc := 33) (T := TX10) (N := 17) (ci := 10) (v := .ref (mr 8)) E hw1 inX10 1 1 q_463 rfl rfl (by decide) rfl rfl dX11_rooms_33 ?_
    refine ck_i (pc := 36) (ws' := (fun (u : (Nat → Int32) × (Nat → Int32)) => (WZ_MroomsR cI cJ mv mr mi (va_up (va_up mf 16 u.2) 17 u.1) mg))) [false, false, true, true, true, true, true, true, true, true, true] hw1 rfl (fun hC_ => (rn_V (As := []) (rest := []) E hw1 (t_pairUp1K l D cI cJ _ (shf 8 mr) (shf 8 mi) (shf 8 mf) (shf 8 mg) h2 (show WFF (mi 14).toInt (mf 13) from x_wf)) (gdV q_1264 q_1265 q_1266 q_154 q_1267) hdV_X1_pairUp ⟨rfl, rfl⟩ ⟨(Nat.le_of_ble_eq_true rfl), (Nat.le_of_ble_eq_true rfl)⟩ ⟨(Nat.le_of_ble_eq_true rfl), (Nat.le_of_ble_eq_true rfl)⟩ xT_b xT_at 2 1 rfl rfl rfl _ hC_ (nd_T _ 0) rfl hl3.1 rfl (Nat.le_of_ble_eq_true rfl) dX11_rooms_36)) rfl (fun _ => rfl) (fun _ => rfl) (fun r_6 u_5 H1 locs hp hw7 => ?_)
    obtain ⟨gpairs_8, gpartner_9⟩ := u_5
    generalize H1 = H at hw7 ⊢
    have hw10 : WD D A s.heap (WZ_MroomsR cI cJ mv mr mi (va_up (va_up mf 16 gpartner_9) 17 gpairs_8) mg) H locs := hw7
    have hp_11 := hp
    have hp_11 : ((r_6 : Int32).toInt = mvl (FR (mi 14).toInt (mf 13)) (2 ^ (mi 14).toInt.toNat - 1) ∧ ∀ x : Nat, (x : Int) < (mi 14).toInt → (gpartner_9 x).toInt = prr (FR (mi 14).toInt (mf 13)) (mi 14).toInt.toNat x (mi 14).toInt.toNat (2 ^ (mi 14).toInt.toNat - 1)) := hp_11
    refine lv_istore_n (pc := 39) (lv' := [(2, .int r_6), (0, .ref (mr 0)), (1, .int z_what)]) E.1 E.2.1 dX11_rooms_39 rfl hl3 (by decide) rfl (fun ls hl12 => ?_)
    refine lv_iload_n (pc := 40) E.1 E.2.1 dX11_rooms_40 rfl (lv_at hl12 2 rfl) ?_
    refine lv_if_ne (pc := 41) (tgt := 48) E.1 E.2.1 dX11_rooms_41 (by decide) (fun c_13 => absurd (meqE (a := z_what.toInt) (b := 0) rfl (by decide +kernel) (by omega)) c_13) (fun _ => ?_)
    refine lv_iload_n (pc := 44) E.1 E.2.1 dX11_rooms_44 rfl (lv_at hl12 0 rfl) ?_
    refine lv_goto (pc := 45) (tgt := 63) E.1 E.2.1 dX11_rooms_45 (by decide) ?_
    exact em_i (w1 := (fun (u : (Nat → Int32) × (Nat → Nat → Int32) × (Nat → Nat → Int64)) => (WZ_MroomsR cI cJ mv mr u.1 u.2.1 u.2.2))) E hr hlk (mi, (va_up (va_up mf 16 gpartner_9) 17 gpairs_8), mg) hw10 ⟨h0.1, h0.2, h1.1, h1.2, h2.1, h2.2, rfl, rfl, rfl, (show (r_6 : Int32).toInt = RMA (mf 13) (mi 14).toInt z_what.toInt from (RM_all hp_11.1 (by omega)))⟩ (Nat.le_of_ble_eq_true rfl) (Nat.le_of_ble_eq_true rfl) dX11_rooms_63
  · skip
    have hc_4 := neE (a := z_what.toInt) (b := 0) rfl (by decide +kernel) c_4
    refine lv_iload_n (pc := 4) E.1 E.2.1 dX11_rooms_4 rfl (lv_at hl3 1 rfl) ?_
    refine lv_bipush (pc := 5) (v := 10) E.1 E.2.1 dX11_rooms_5 (by decide +kernel) ?_
    refine lv_icmp_lt (pc := 7) (tgt := 27) E.1 E.2.1 dX11_rooms_7 (by decide) (fun c_14 => ?_) (fun c_14 => ?_)
    · skip
      have hc_14 := ltE (a := z_what.toInt) (b := 10) rfl (by decide +kernel) c_14
      refine lv_iconst (pc := 27) (v := (-1)) E.1 E.2.1 dX11_rooms_27 (by decide +kernel) ?_
      exact em_i (w1 := (fun (u : (Nat → Int32) × (Nat → Nat → Int32) × (Nat → Nat → Int64)) => (WZ_MroomsR cI cJ mv mr u.1 u.2.1 u.2.2))) E hr hlk (mi, mf, mg) hw1 ⟨h0.1, h0.2, h1.1, h1.2, h2.1, h2.2, rfl, rfl, rfl, (show ((-1) : Int32).toInt = RMA (mf 13) (mi 14).toInt z_what.toInt from (RM_no (by omega) (by omega) (by decide +kernel)))⟩ (Nat.le_of_ble_eq_true rfl) (Nat.le_of_ble_eq_true rfl) dX11_rooms_28
    · skip
      have hc_14 := nltE (a := z_what.toInt) (b := 10) rfl (by decide +kernel) c_14
      refine lv_aload_n (pc := 10) E.1 E.2.1 dX11_rooms_10 rfl (lv_at hl3 0 rfl) ?_
      refine x_get (pc := 11) (T := TX11) (N := 13) (ci := 11) (v := .ref (mr 3)) E hw1 inX11 0 0 q_606 rfl rfl (by decide) rfl rfl dX11_rooms_11 ?_
      refine x_get (pc := 14) (T := TX10) (N := 17) (ci := 10) (v := .ref (mr 8)) E hw1 inX10 1 1 q_463 rfl rfl (by decide) rfl rfl dX11_rooms_14 ?_
      refine lv_iload_n (pc := 17) E.1 E.2.1 dX11_rooms_17 rfl (lv_at hl3 1 rfl) ?_
      refine lv_bipush (pc := 18) (v := 10) E.1 E.2.1 dX11_rooms_18 (by decide +kernel) ?_
      refine lv_isub (pc := 20) E.1 E.2.1 dX11_rooms_20 ?_
      refine lv_topi (fun v_15 ev_15 => ?_)
      have hv_15 : v_15.toInt = z_what.toInt - 10 := by rw [ev_15]; exact subE rfl (by decide +kernel) (by omega)
      refine ck_i (pc := 21) (ws' := (fun (u : Unit) => (WZ_MroomsR cI cJ mv mr mi mf mg))) [false, false, true, true, true, true, true, true, true, true, false] hw1 rfl (fun hC_ => (rn_V (As := [.int v_15]) (rest := []) E hw1 (t_has l D cI cJ _ (shf 8 mr) (shf 8 mi) (shf 8 mf) (shf 8 mg) v_15 (vl [.ref (mr 17)])) (gdV q_674 q_675 q_676 q_154 q_677) hdV_X1_has ⟨rfl, rfl⟩ ⟨(Nat.le_of_ble_eq_true rfl), (Nat.le_of_ble_eq_true rfl)⟩ ⟨(Nat.le_of_ble_eq_true rfl), (Nat.le_of_ble_eq_true rfl)⟩ xT_b xT_at 2 1 rfl rfl rfl _ hC_ (nd_T _ 0) rfl hl3.1 rfl (Nat.le_of_ble_eq_true rfl) dX11_rooms_21)) rfl (fun _ => rfl) (fun _ => rfl) (fun r_17 u_16 H1 locs hp hw18 => ?_)
      generalize H1 = H at hw18 ⊢
      have hw19 : WD D A s.heap (WZ_MroomsR cI cJ mv mr mi mf mg) H locs := hw18
      have hp_20 := hp
      rcases hp_20 with ⟨rfl, ha_21, ha_22, ha_23⟩ | ⟨rfl, ha_24⟩ | ⟨rfl, ha_25⟩ | ⟨rfl, ha_26⟩
      · skip
        have ha_21 : 0 ≤ v_15.toInt := ha_21
        have ha_22 : v_15.toInt + 1 ≤ (mi 14).toInt := ha_22
        have ha_23 : v_15.toInt ≤ 9 := ha_23
        refine lv_if_ne (pc := 24) (tgt := 29) E.1 E.2.1 dX11_rooms_24 (by decide) (fun _ => ?_) (fun c_27 => absurd c_27 (mneE (a := 1) (b := 0) (by decide +kernel) (by decide +kernel) (by omega)))
        refine lv_aload_n (pc := 29) E.1 E.2.1 dX11_rooms_29 rfl (lv_at hl3 0 rfl) ?_
        refine x_get (pc := 30) (T := TX11) (N := 13) (ci := 11) (v := .ref (mr 3)) E hw19 inX11 0 0 q_606 rfl rfl (by decide) rfl rfl dX11_rooms_30 ?_
        refine x_get (pc := 33) (T := TX10) (N := 17) (ci := 10) (v := .ref (mr 8)) E hw19 inX10 1 1 q_463 rfl rfl (by decide) rfl rfl dX11_rooms_33 ?_
        refine ck_i (pc := 36) (ws' := (fun (u : (Nat → Int32) × (Nat → Int32)) => (WZ_MroomsR cI cJ mv mr mi (va_up (va_up mf 16 u.2) 17 u.1) mg))) [false, false, true, true, true, true, true, true, true, true, true] hw19 rfl (fun hC_ => (rn_V (As := []) (rest := []) E hw19 (t_pairUp1K l D cI cJ _ (shf 8 mr) (shf 8 mi) (shf 8 mf) (shf 8 mg) h2 (show WFF (mi 14).toInt (mf 13) from x_wf)) (gdV q_1264 q_1265 q_1266 q_154 q_1267) hdV_X1_pairUp ⟨rfl, rfl⟩ ⟨(Nat.le_of_ble_eq_true rfl), (Nat.le_of_ble_eq_true rfl)⟩ ⟨(Nat.le_of_ble_eq_true rfl), (Nat.le_of_ble_eq_true rfl)⟩ xT_b xT_at 2 1 rfl rfl rfl _ hC_ (nd_T _ 0) rfl hl3.1 rfl (Nat.le_of_ble_eq_true rfl) dX11_rooms_36)) rfl (fun _ => rfl) (fun _ => rfl) (fun r_29 u_28 H1 locs hp hw30 => ?_)
        obtain ⟨gpairs_31, gpartner_32⟩ := u_28
        generalize H1 = H at hw30 ⊢
        have hw33 : WD D A s.heap (WZ_MroomsR cI cJ mv mr mi (va_up (va_up mf 16 gpartner_32) 17 gpairs_31) mg) H locs := hw30
        have hp_34 := hp
        have hp_34 : ((r_29 : Int32).toInt = mvl (FR (mi 14).toInt (mf 13)) (2 ^ (mi 14).toInt.toNat - 1) ∧ ∀ x : Nat, (x : Int) < (mi 14).toInt → (gpartner_32 x).toInt = prr (FR (mi 14).toInt (mf 13)) (mi 14).toInt.toNat x (mi 14).toInt.toNat (2 ^ (mi 14).toInt.toNat - 1)) := hp_34
        refine lv_istore_n (pc := 39) (lv' := [(2, .int r_29), (0, .ref (mr 0)), (1, .int z_what)]) E.1 E.2.1 dX11_rooms_39 rfl hl3 (by decide) rfl (fun ls hl35 => ?_)
        refine lv_iload_n (pc := 40) E.1 E.2.1 dX11_rooms_40 rfl (lv_at hl35 2 rfl) ?_
        refine lv_if_ne (pc := 41) (tgt := 48) E.1 E.2.1 dX11_rooms_41 (by decide) (fun _ => ?_) (fun c_36 => absurd c_36 (mneE (a := z_what.toInt) (b := 0) rfl (by decide +kernel) (by omega)))
        refine lv_aload_n (pc := 48) E.1 E.2.1 dX11_rooms_48 rfl (lv_at hl35 1 rfl) ?_
        refine x_get (pc := 49) (T := TX11) (N := 13) (ci := 11) (v := .ref (mr 3)) E hw33 inX11 0 0 q_606 rfl rfl (by decide) rfl rfl dX11_rooms_49 ?_
        refine x_get (pc := 52) (T := TX10) (N := 17) (ci := 10) (v := .ref (mr 8)) E hw33 inX10 1 1 q_463 rfl rfl (by decide) rfl rfl dX11_rooms_52 ?_
        refine x_get (pc := 55) (T := TX1) (N := 9) (ci := 1) (v := .ref (mr 16)) E hw33 inX1 2 7 q_287 rfl rfl (by decide) rfl rfl dX11_rooms_55 ?_
        refine lv_iload_n (pc := 58) E.1 E.2.1 dX11_rooms_58 rfl (lv_at hl35 2 rfl) ?_
        refine lv_bipush (pc := 59) (v := 10) E.1 E.2.1 dX11_rooms_59 (by decide +kernel) ?_
        refine lv_isub (pc := 61) E.1 E.2.1 dX11_rooms_61 ?_
        refine lv_topi (fun v_37 ev_37 => ?_)
        have hv_37 : v_37.toInt = z_what.toInt - 10 := by rw [ev_37]; exact subE rfl (by decide +kernel) (by omega)
        refine x_iald (pc := 62) (f := gpartner_32) E hw33 9 rfl (inbE (a := v_37.toInt) rfl (by omega)) dX11_rooms_62 ?_
        refine lv_topi (fun v_38 ev_38 => ?_)
        exact em_i (w1 := (fun (u : (Nat → Int32) × (Nat → Nat → Int32) × (Nat → Nat → Int64)) => (WZ_MroomsR cI cJ mv mr u.1 u.2.1 u.2.2))) E hr hlk (mi, (va_up (va_up mf 16 gpartner_32) 17 gpairs_31), mg) hw33 ⟨h0.1, h0.2, h1.1, h1.2, h2.1, h2.2, rfl, rfl, rfl, (show (v_38 : Int32).toInt = RMA (mf 13) (mi 14).toInt z_what.toInt from (RM_of hp_34.2 ev_38 (by omega) ⟨by omega, by omega⟩))⟩ (Nat.le_of_ble_eq_true rfl) (Nat.le_of_ble_eq_true rfl) dX11_rooms_63
      · skip
        have ha_24 : v_15.toInt + 1 ≤ 0 := ha_24
        exfalso; omega
      · skip
        have ha_25 : (mi 14).toInt ≤ v_15.toInt := ha_25
        refine lv_if_ne (pc := 24) (tgt := 29) E.1 E.2.1 dX11_rooms_24 (by decide) (fun c_39 => absurd (meqE (a := 0) (b := 0) (by decide +kernel) (by decide +kernel) (by omega)) c_39) (fun _ => ?_)
        refine lv_iconst (pc := 27) (v := (-1)) E.1 E.2.1 dX11_rooms_27 (by decide +kernel) ?_
        exact em_i (w1 := (fun (u : (Nat → Int32) × (Nat → Nat → Int32) × (Nat → Nat → Int64)) => (WZ_MroomsR cI cJ mv mr u.1 u.2.1 u.2.2))) E hr hlk (mi, mf, mg) hw19 ⟨h0.1, h0.2, h1.1, h1.2, h2.1, h2.2, rfl, rfl, rfl, (show ((-1) : Int32).toInt = RMA (mf 13) (mi 14).toInt z_what.toInt from (RM_no (by omega) (by omega) (by decide +kernel)))⟩ (Nat.le_of_ble_eq_true rfl) (Nat.le_of_ble_eq_true rfl) dX11_rooms_28
      · skip
        have ha_26 : 10 ≤ v_15.toInt := ha_26
        refine lv_if_ne (pc := 24) (tgt := 29) E.1 E.2.1 dX11_rooms_24 (by decide) (fun c_40 => absurd (meqE (a := 0) (b := 0) (by decide +kernel) (by decide +kernel) (by omega)) c_40) (fun _ => ?_)
        refine lv_iconst (pc := 27) (v := (-1)) E.1 E.2.1 dX11_rooms_27 (by decide +kernel) ?_
        exact em_i (w1 := (fun (u : (Nat → Int32) × (Nat → Nat → Int32) × (Nat → Nat → Int64)) => (WZ_MroomsR cI cJ mv mr u.1 u.2.1 u.2.2))) E hr hlk (mi, mf, mg) hw19 ⟨h0.1, h0.2, h1.1, h1.2, h2.1, h2.2, rfl, rfl, rfl, (show ((-1) : Int32).toInt = RMA (mf 13) (mi 14).toInt z_what.toInt from (RM_no (by omega) (by omega) (by decide +kernel)))⟩ (Nat.le_of_ble_eq_true rfl) (Nat.le_of_ble_eq_true rfl) dX11_rooms_28
set_option maxHeartbeats 4000000 in
set_option maxRecDepth 100000 in
theorem t_housesTakeK (l : Launch) (D : va_G) (cI cJ : ClassId) (sz : Nat) (mr : Nat → Nat) (mi : Nat → Int32) (mf : Nat → Nat → Int32) (mg : Nat → Nat → Int64)  (mv : Nat → Value)  : Met l yX1_take (Cond.code yX1_take cX1_take 2 none :: GW) ({ frames := 1, cells := 0, slots := 0, locals := 60 } : Room) (va_Pc [.ref (mr 0), .ref (mr 9)] (PW D cI cJ sz (WZ_HousesT cI cJ mv mr mi mf mg) xT)) (va_Qv (fun (u : (Nat → Int32) × (Nat → Int32) × (Nat → Int32) × (Nat → Int32) × (Nat → Int32) × Int32) => (u.2.2.2.2.2.toInt = (mi 15).toInt) ∧ (EQ10 u.1 (mf 10)) ∧ (EQ10 u.2.2.2.2.1 (mf 14))) (fun u => QW D cI cJ (va_A (WZ_HousesT cI cJ mv mr mi mf mg) sz) ((fun (u : (Nat → Int32) × (Nat → Int32) × (Nat → Int32) × (Nat → Int32) × (Nat → Int32) × Int32) => (WZ_HousesT cI cJ mv mr (upd mi 6 u.2.2.2.2.2) (va_up (va_up (va_up (va_up (va_up mf 1 u.1) 2 u.2.1) 3 u.2.2.1) 4 u.2.2.2.1) 5 u.2.2.2.2.1) mg)) u)) (va_A (WZ_HousesT cI cJ mv mr mi mf mg) sz)) 0 0 (va_A (WZ_HousesT cI cJ mv mr mi mf mg) sz) := by
  refine mk_met (y := yX1_take) (bytes := cX1_take) (maxL := 2) (avs := [.ref (mr 0), .ref (mr 9)]) (WS := (WZ_HousesT cI cJ mv mr mi mf mg)) (Qf := fun A => va_Qv (fun (u : (Nat → Int32) × (Nat → Int32) × (Nat → Int32) × (Nat → Int32) × (Nat → Int32) × Int32) => (u.2.2.2.2.2.toInt = (mi 15).toInt) ∧ (EQ10 u.1 (mf 10)) ∧ (EQ10 u.2.2.2.2.1 (mf 14))) (fun u => QW D cI cJ A ((fun (u : (Nat → Int32) × (Nat → Int32) × (Nat → Int32) × (Nat → Int32) × (Nat → Int32) × Int32) => (WZ_HousesT cI cJ mv mr (upd mi 6 u.2.2.2.2.2) (va_up (va_up (va_up (va_up (va_up mf 1 u.1) 2 u.2.1) 3 u.2.2.1) 4 u.2.2.2.1) 5 u.2.2.2.2.1) mg)) u)) A) (by decide) (Nat.le_of_ble_eq_true rfl) ?_
  intro p e s m below meth c A ls E hr hlk hnm hX hw1 hl2
  have hl3 : lv_has ls 2 [(0, .ref (mr 0)), (1, .ref (mr 9))] := hl2
  refine lv_aload_n (pc := 0) E.1 E.2.1 dX1_take_0 rfl (lv_at hl3 1 rfl) ?_
  refine x_get (pc := 1) (T := TX1) (N := 9) (ci := 1) (v := .ref (mr 10)) E hw1 inX1 8 0 q_266 rfl rfl (by decide) rfl rfl dX1_take_1 ?_
  refine lv_iconst (pc := 4) (v := 0) E.1 E.2.1 dX1_take_4 (by decide +kernel) ?_
  refine lv_aload_n (pc := 5) E.1 E.2.1 dX1_take_5 rfl (lv_at hl3 0 rfl) ?_
  refine x_get (pc := 6) (T := TX1) (N := 9) (ci := 1) (v := .ref (mr 1)) E hw1 inX1 0 0 q_266 rfl rfl (by decide) rfl rfl dX1_take_6 ?_
  refine lv_iconst (pc := 9) (v := 0) E.1 E.2.1 dX1_take_9 (by decide +kernel) ?_
  refine lv_bipush (pc := 10) (v := 10) E.1 E.2.1 dX1_take_10 (by decide +kernel) ?_
  refine x_copyG (pc := 12) (N := 10) (wf := fun g => (WZ_HousesT cI cJ mv mr mi (va_up mf 1 g) mg)) E hw1 hl3.1 q_1254 q_967 q_966 q_169 9 1 rfl rfl (by decide +kernel) (by decide +kernel) (Nat.le_of_ble_eq_true rfl) (Nat.le_of_ble_eq_true rfl) (fun _ => rfl) (Nat.le_of_ble_eq_true rfl) (Nat.le_of_ble_eq_true rfl) dX1_take_12 (fun g_4 H locs eg_4 hw5 => ?_)
  refine lv_aload_n (pc := 15) E.1 E.2.1 dX1_take_15 rfl (lv_at hl3 1 rfl) ?_
  refine x_get (pc := 16) (T := TX1) (N := 9) (ci := 1) (v := .ref (mr 11)) E hw5 inX1 8 1 q_268 rfl rfl (by decide) rfl rfl dX1_take_16 ?_
  refine lv_iconst (pc := 19) (v := 0) E.1 E.2.1 dX1_take_19 (by decide +kernel) ?_
  refine lv_aload_n (pc := 20) E.1 E.2.1 dX1_take_20 rfl (lv_at hl3 0 rfl) ?_
  refine x_get (pc := 21) (T := TX1) (N := 9) (ci := 1) (v := .ref (mr 2)) E hw5 inX1 0 1 q_268 rfl rfl (by decide) rfl rfl dX1_take_21 ?_
  refine lv_iconst (pc := 24) (v := 0) E.1 E.2.1 dX1_take_24 (by decide +kernel) ?_
  refine lv_bipush (pc := 25) (v := 10) E.1 E.2.1 dX1_take_25 (by decide +kernel) ?_
  refine x_copyG (pc := 27) (N := 10) (wf := fun g => (WZ_HousesT cI cJ mv mr mi (va_up (va_up mf 1 g_4) 2 g) mg)) E hw5 hl3.1 q_1254 q_967 q_966 q_169 10 2 rfl rfl (by decide +kernel) (by decide +kernel) (Nat.le_of_ble_eq_true rfl) (Nat.le_of_ble_eq_true rfl) (fun _ => rfl) (Nat.le_of_ble_eq_true rfl) (Nat.le_of_ble_eq_true rfl) dX1_take_27 (fun g_6 H locs eg_6 hw7 => ?_)
  refine lv_aload_n (pc := 30) E.1 E.2.1 dX1_take_30 rfl (lv_at hl3 1 rfl) ?_
  refine x_get (pc := 31) (T := TX1) (N := 9) (ci := 1) (v := .ref (mr 12)) E hw7 inX1 8 2 q_271 rfl rfl (by decide) rfl rfl dX1_take_31 ?_
  refine lv_iconst (pc := 34) (v := 0) E.1 E.2.1 dX1_take_34 (by decide +kernel) ?_
  refine lv_aload_n (pc := 35) E.1 E.2.1 dX1_take_35 rfl (lv_at hl3 0 rfl) ?_
  refine x_get (pc := 36) (T := TX1) (N := 9) (ci := 1) (v := .ref (mr 3)) E hw7 inX1 0 2 q_271 rfl rfl (by decide) rfl rfl dX1_take_36 ?_
  refine lv_iconst (pc := 39) (v := 0) E.1 E.2.1 dX1_take_39 (by decide +kernel) ?_
  refine lv_bipush (pc := 40) (v := 10) E.1 E.2.1 dX1_take_40 (by decide +kernel) ?_
  refine x_copyG (pc := 42) (N := 10) (wf := fun g => (WZ_HousesT cI cJ mv mr mi (va_up (va_up (va_up mf 1 g_4) 2 g_6) 3 g) mg)) E hw7 hl3.1 q_1254 q_967 q_966 q_169 11 3 rfl rfl (by decide +kernel) (by decide +kernel) (Nat.le_of_ble_eq_true rfl) (Nat.le_of_ble_eq_true rfl) (fun _ => rfl) (Nat.le_of_ble_eq_true rfl) (Nat.le_of_ble_eq_true rfl) dX1_take_42 (fun g_8 H locs eg_8 hw9 => ?_)
  refine lv_aload_n (pc := 45) E.1 E.2.1 dX1_take_45 rfl (lv_at hl3 1 rfl) ?_
  refine x_get (pc := 46) (T := TX1) (N := 9) (ci := 1) (v := .ref (mr 13)) E hw9 inX1 8 3 q_274 rfl rfl (by decide) rfl rfl dX1_take_46 ?_
  refine lv_iconst (pc := 49) (v := 0) E.1 E.2.1 dX1_take_49 (by decide +kernel) ?_
  refine lv_aload_n (pc := 50) E.1 E.2.1 dX1_take_50 rfl (lv_at hl3 0 rfl) ?_
  refine x_get (pc := 51) (T := TX1) (N := 9) (ci := 1) (v := .ref (mr 4)) E hw9 inX1 0 3 q_274 rfl rfl (by decide) rfl rfl dX1_take_51 ?_
  refine lv_iconst (pc := 54) (v := 0) E.1 E.2.1 dX1_take_54 (by decide +kernel) ?_
  refine lv_bipush (pc := 55) (v := 10) E.1 E.2.1 dX1_take_55 (by decide +kernel) ?_
  refine x_copyG (pc := 57) (N := 10) (wf := fun g => (WZ_HousesT cI cJ mv mr mi (va_up (va_up (va_up (va_up mf 1 g_4) 2 g_6) 3 g_8) 4 g) mg)) E hw9 hl3.1 q_1254 q_967 q_966 q_169 12 4 rfl rfl (by decide +kernel) (by decide +kernel) (Nat.le_of_ble_eq_true rfl) (Nat.le_of_ble_eq_true rfl) (fun _ => rfl) (Nat.le_of_ble_eq_true rfl) (Nat.le_of_ble_eq_true rfl) dX1_take_57 (fun g_10 H locs eg_10 hw11 => ?_)
  refine lv_aload_n (pc := 60) E.1 E.2.1 dX1_take_60 rfl (lv_at hl3 1 rfl) ?_
  refine x_get (pc := 61) (T := TX1) (N := 9) (ci := 1) (v := .ref (mr 14)) E hw11 inX1 8 4 q_277 rfl rfl (by decide) rfl rfl dX1_take_61 ?_
  refine lv_iconst (pc := 64) (v := 0) E.1 E.2.1 dX1_take_64 (by decide +kernel) ?_
  refine lv_aload_n (pc := 65) E.1 E.2.1 dX1_take_65 rfl (lv_at hl3 0 rfl) ?_
  refine x_get (pc := 66) (T := TX1) (N := 9) (ci := 1) (v := .ref (mr 5)) E hw11 inX1 0 4 q_277 rfl rfl (by decide) rfl rfl dX1_take_66 ?_
  refine lv_iconst (pc := 69) (v := 0) E.1 E.2.1 dX1_take_69 (by decide +kernel) ?_
  refine lv_bipush (pc := 70) (v := 10) E.1 E.2.1 dX1_take_70 (by decide +kernel) ?_
  refine x_copyG (pc := 72) (N := 10) (wf := fun g => (WZ_HousesT cI cJ mv mr mi (va_up (va_up (va_up (va_up (va_up mf 1 g_4) 2 g_6) 3 g_8) 4 g_10) 5 g) mg)) E hw11 hl3.1 q_1254 q_967 q_966 q_169 13 5 rfl rfl (by decide +kernel) (by decide +kernel) (Nat.le_of_ble_eq_true rfl) (Nat.le_of_ble_eq_true rfl) (fun _ => rfl) (Nat.le_of_ble_eq_true rfl) (Nat.le_of_ble_eq_true rfl) dX1_take_72 (fun g_12 H locs eg_12 hw13 => ?_)
  refine lv_aload_n (pc := 75) E.1 E.2.1 dX1_take_75 rfl (lv_at hl3 0 rfl) ?_
  refine lv_aload_n (pc := 76) E.1 E.2.1 dX1_take_76 rfl (lv_at hl3 1 rfl) ?_
  refine x_get (pc := 77) (T := TX1) (N := 9) (ci := 1) (v := .int (mi 15)) E hw13 inX1 8 5 q_281 rfl rfl (by decide) rfl rfl dX1_take_77 ?_
  refine x_put (pc := 80) (T := TX1) (N := 9) (ci := 1) (ws' := (WZ_HousesT cI cJ mv mr (upd mi 6 (mi 15)) (va_up (va_up (va_up (va_up (va_up mf 1 g_4) 2 g_6) 3 g_8) 4 g_10) 5 g_12) mg)) E hw13 inX1 tyX1_ok nmX1 0 5 q_281 rfl rfl (by decide) rfl rfl rfl rfl (Nat.le_of_ble_eq_true rfl) rfl dX1_take_80 (fun H locs hw14 => ?_)
  exact em_v (w1 := (fun (u : (Nat → Int32) × (Nat → Int32) × (Nat → Int32) × (Nat → Int32) × (Nat → Int32) × Int32) => (WZ_HousesT cI cJ mv mr (upd mi 6 u.2.2.2.2.2) (va_up (va_up (va_up (va_up (va_up mf 1 u.1) 2 u.2.1) 3 u.2.2.1) 4 u.2.2.2.1) 5 u.2.2.2.2.1) mg))) E hr hlk (g_4, g_6, g_8, g_10, g_12, (mi 15)) hw14 ⟨rfl, (show EQ10 g_4 (mf 10) from eg_4), (show EQ10 g_12 (mf 14) from eg_12)⟩ (Nat.le_of_ble_eq_true rfl) (Nat.le_of_ble_eq_true rfl) dX1_take_83
