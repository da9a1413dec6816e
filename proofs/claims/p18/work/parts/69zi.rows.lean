set_option maxHeartbeats 4000000 in
set_option maxRecDepth 100000 in
theorem t_clue (l : Launch) (D : va_G) (cI cJ : ClassId) (sz : Nat) (mr : Nat → Nat) (mi : Nat → Int32) (mf : Nat → Nat → Int32) (mg : Nat → Nat → Int64) (z_night : Int32) (z_set : Int32) (mv : Nat → Value) (h0 : 0 ≤ (mi 1).toInt ∧ (mi 1).toInt ≤ 5) (h1 : 0 ≤ (mi 2).toInt ∧ (mi 2).toInt ≤ 6) (h2 : 0 ≤ (mi 14).toInt ∧ (mi 14).toInt ≤ 10) (h3 : 0 ≤ (mi 20).toInt ∧ (mi 20).toInt ≤ 8) : Met l yX11_clue (Cond.code yX11_clue cX11_clue 5 (some .int) :: GW) ({ frames := 11, cells := 0, slots := 0, locals := 263 } : Room) (va_Pc [.ref (mr 0), .int z_night, .int z_set] (PW D cI cJ sz (WZ_Mclue cI cJ mv mr mi mf mg) xT)) (va_Qi (fun (r : Int32) (u : (Nat → Int32) × (Nat → Nat → Int32) × (Nat → Nat → Int64)) => (0 ≤ (u.1 1).toInt) ∧ ((u.1 1).toInt ≤ 5) ∧ (0 ≤ (u.1 2).toInt) ∧ ((u.1 2).toInt ≤ 6) ∧ (0 ≤ (u.1 14).toInt) ∧ ((u.1 14).toInt ≤ 10) ∧ (0 ≤ (u.1 20).toInt) ∧ ((u.1 20).toInt ≤ 8) ∧ ((u.1 14).toInt = (mi 14).toInt) ∧ ((Eq (mf 9)) (u.2.1 9)) ∧ ((Eq (mf 13)) (u.2.1 13)) ∧ (CST (sh1 (mi 14)) z_night.toInt z_set.toInt (mi 20).toInt (u.1 20).toInt (r : Int32).toInt)) (fun u => QW D cI cJ (va_A (WZ_Mclue cI cJ mv mr mi mf mg) sz) ((fun (u : (Nat → Int32) × (Nat → Nat → Int32) × (Nat → Nat → Int64)) => (WZ_Mclue cI cJ mv mr u.1 u.2.1 u.2.2)) u)) (va_A (WZ_Mclue cI cJ mv mr mi mf mg) sz)) 0 0 (va_A (WZ_Mclue cI cJ mv mr mi mf mg) sz) := by
  refine mk_met (y := yX11_clue) (bytes := cX11_clue) (maxL := 5) (avs := [.ref (mr 0), .int z_night, .int z_set]) (WS := (WZ_Mclue cI cJ mv mr mi mf mg)) (Qf := fun A => va_Qi (fun (r : Int32) (u : (Nat → Int32) × (Nat → Nat → Int32) × (Nat → Nat → Int64)) => (0 ≤ (u.1 1).toInt) ∧ ((u.1 1).toInt ≤ 5) ∧ (0 ≤ (u.1 2).toInt) ∧ ((u.1 2).toInt ≤ 6) ∧ (0 ≤ (u.1 14).toInt) ∧ ((u.1 14).toInt ≤ 10) ∧ (0 ≤ (u.1 20).toInt) ∧ ((u.1 20).toInt ≤ 8) ∧ ((u.1 14).toInt = (mi 14).toInt) ∧ ((Eq (mf 9)) (u.2.1 9)) ∧ ((Eq (mf 13)) (u.2.1 13)) ∧ (CST (sh1 (mi 14)) z_night.toInt z_set.toInt (mi 20).toInt (u.1 20).toInt (r : Int32).toInt)) (fun u => QW D cI cJ A ((fun (u : (Nat → Int32) × (Nat → Nat → Int32) × (Nat → Nat → Int64)) => (WZ_Mclue cI cJ mv mr u.1 u.2.1 u.2.2)) u)) A) (by decide) (Nat.le_of_ble_eq_true rfl) ?_
  intro p e s m below meth c A ls E hr hlk hnm hX hw1 hl2
  have hl3 : lv_has ls 5 [(0, .ref (mr 0)), (1, .int z_night), (2, .int z_set)] := hl2
  refine lv_aload_n (pc := 0) E.1 E.2.1 dX11_clue_0 rfl (lv_at hl3 0 rfl) ?_
  refine x_get (pc := 1) (T := TX11) (N := 13) (ci := 11) (v := .ref (mr 3)) E hw1 inX11 0 0 q_606 rfl rfl (by decide) rfl rfl dX11_clue_1 ?_
  refine x_get (pc := 4) (T := TX10) (N := 17) (ci := 10) (v := .ref (mr 17)) E hw1 inX10 1 7 q_478 rfl rfl (by decide) rfl rfl dX11_clue_4 ?_
  refine lv_astore_n (pc := 7) (lv' := [(3, .ref (mr 17)), (0, .ref (mr 0)), (1, .int z_night), (2, .int z_set)]) E.1 E.2.1 dX11_clue_7 rfl hl3 (by decide) rfl (fun ls hl4 => ?_)
  refine lv_iload_n (pc := 8) E.1 E.2.1 dX11_clue_8 rfl (lv_at hl4 2 rfl) ?_
  refine lv_iconst (pc := 9) (v := (-1)) E.1 E.2.1 dX11_clue_9 (by decide +kernel) ?_
  refine lv_icmp_ne (pc := 10) (tgt := 20) E.1 E.2.1 dX11_clue_10 (by decide) (fun c_5 => ?_) (fun c_5 => ?_)
  · skip
    have hc_5 := neE (a := z_night.toInt) (b := (-1)) rfl (by decide +kernel) c_5
    refine lv_iload_n (pc := 20) E.1 E.2.1 dX11_clue_20 rfl (lv_at hl4 3 rfl) ?_
    refine lv_if_eq (pc := 21) (tgt := 45) E.1 E.2.1 dX11_clue_21 (by decide) (fun c_6 => ?_) (fun c_6 => ?_)
    · skip
      have hc_6 := eqE (a := z_set.toInt) (b := 0) rfl (by decide +kernel) c_6
      refine lv_iconst (pc := 45) (v := 0) E.1 E.2.1 dX11_clue_45 (by decide +kernel) ?_
      refine lv_istore (pc := 46) (lv' := [(4, .int 0), (3, .ref (mr 17)), (0, .ref (mr 0)), (1, .int z_night), (2, .int z_set)]) E.1 E.2.1 dX11_clue_46 hl4 (by decide) rfl (fun ls hl7 => ?_)
      refine lv_iload_n (pc := 48) E.1 E.2.1 dX11_clue_48 rfl (lv_at hl7 3 rfl) ?_
      refine lv_if_lt (pc := 49) (tgt := 72) E.1 E.2.1 dX11_clue_49 (by decide) (fun c_8 => ?_) (fun c_8 => ?_)
      · skip
        have hc_8 := ltE (a := z_night.toInt) (b := 0) rfl (by decide +kernel) c_8
        refine lv_iconst (pc := 72) (v := (-1)) E.1 E.2.1 dX11_clue_72 (by decide +kernel) ?_
        exact em_i (w1 := (fun (u : (Nat → Int32) × (Nat → Nat → Int32) × (Nat → Nat → Int64)) => (WZ_Mclue cI cJ mv mr u.1 u.2.1 u.2.2))) E hr hlk (mi, mf, mg) hw1 ⟨h0.1, h0.2, h1.1, h1.2, h2.1, h2.2, h3.1, h3.2, rfl, rfl, rfl, (show CST (sh1 (mi 14)) z_night.toInt z_set.toInt (mi 20).toInt (mi 20).toInt ((-1) : Int32).toInt from (Or.inr (Or.inr ⟨by omega, fun h => by obtain ⟨⟨h1, h2⟩, h3, h4, h5⟩ := h; omega, by decide +kernel, rfl⟩)))⟩ (Nat.le_of_ble_eq_true rfl) (Nat.le_of_ble_eq_true rfl) dX11_clue_73
      · skip
        have hc_8 := nltE (a := z_night.toInt) (b := 0) rfl (by decide +kernel) c_8
        refine lv_iload_n (pc := 52) E.1 E.2.1 dX11_clue_52 rfl (lv_at hl7 3 rfl) ?_
        refine lv_bipush (pc := 53) (v := 10) E.1 E.2.1 dX11_clue_53 (by decide +kernel) ?_
        refine lv_icmp_ge (pc := 55) (tgt := 72) E.1 E.2.1 dX11_clue_55 (by decide) (fun c_9 => ?_) (fun c_9 => ?_)
        · skip
          have hc_9 := leE (a := 10) (b := z_night.toInt) (by decide +kernel) rfl c_9
          refine lv_iconst (pc := 72) (v := (-1)) E.1 E.2.1 dX11_clue_72 (by decide +kernel) ?_
          exact em_i (w1 := (fun (u : (Nat → Int32) × (Nat → Nat → Int32) × (Nat → Nat → Int64)) => (WZ_Mclue cI cJ mv mr u.1 u.2.1 u.2.2))) E hr hlk (mi, mf, mg) hw1 ⟨h0.1, h0.2, h1.1, h1.2, h2.1, h2.2, h3.1, h3.2, rfl, rfl, rfl, (show CST (sh1 (mi 14)) z_night.toInt z_set.toInt (mi 20).toInt (mi 20).toInt ((-1) : Int32).toInt from (Or.inr (Or.inr ⟨by omega, fun h => by obtain ⟨⟨h1, h2⟩, h3, h4, h5⟩ := h; omega, by decide +kernel, rfl⟩)))⟩ (Nat.le_of_ble_eq_true rfl) (Nat.le_of_ble_eq_true rfl) dX11_clue_73
        · skip
          have hc_9 := nleE (a := 10) (b := z_night.toInt) (by decide +kernel) rfl c_9
          refine lv_iload (pc := 58) E.1 E.2.1 dX11_clue_58 (lv_at hl7 0 rfl) ?_
          refine lv_if_eq (pc := 60) (tgt := 72) E.1 E.2.1 dX11_clue_60 (by decide) (fun _ => ?_) (fun c_10 => absurd (meqE (a := 0) (b := 0) (by decide +kernel) (by decide +kernel) (by omega)) c_10)
          refine lv_iconst (pc := 72) (v := (-1)) E.1 E.2.1 dX11_clue_72 (by decide +kernel) ?_
          exact em_i (w1 := (fun (u : (Nat → Int32) × (Nat → Nat → Int32) × (Nat → Nat → Int64)) => (WZ_Mclue cI cJ mv mr u.1 u.2.1 u.2.2))) E hr hlk (mi, mf, mg) hw1 ⟨h0.1, h0.2, h1.1, h1.2, h2.1, h2.2, h3.1, h3.2, rfl, rfl, rfl, (show CST (sh1 (mi 14)) z_night.toInt z_set.toInt (mi 20).toInt (mi 20).toInt ((-1) : Int32).toInt from (Or.inr (Or.inr ⟨by omega, fun h => by obtain ⟨⟨h1, h2⟩, h3, h4, h5⟩ := h; omega, by decide +kernel, rfl⟩)))⟩ (Nat.le_of_ble_eq_true rfl) (Nat.le_of_ble_eq_true rfl) dX11_clue_73
    · skip
      have hc_6 := neE (a := z_set.toInt) (b := 0) rfl (by decide +kernel) c_6
      refine lv_iload_n (pc := 24) E.1 E.2.1 dX11_clue_24 rfl (lv_at hl4 3 rfl) ?_
      refine lv_aload_n (pc := 25) E.1 E.2.1 dX11_clue_25 rfl (lv_at hl4 1 rfl) ?_
      refine x_get (pc := 26) (T := TX11) (N := 13) (ci := 11) (v := .ref (mr 3)) E hw1 inX11 0 0 q_606 rfl rfl (by decide) rfl rfl dX11_clue_26 ?_
      refine x_get (pc := 29) (T := TX10) (N := 17) (ci := 10) (v := .ref (mr 8)) E hw1 inX10 1 1 q_463 rfl rfl (by decide) rfl rfl dX11_clue_29 ?_
      refine ck_i (pc := 32) (ws' := (fun (u : Unit) => (WZ_Mclue cI cJ mv mr mi mf mg))) [false, false, true, true, true, true, true, true, true, true, false, false, false] hw1 rfl (fun hC_ => (rn_V (As := []) (rest := [.int z_set]) E hw1 (t_allK l D cI cJ _ (shf 8 mr) (shf 8 mi) (shf 8 mf) (shf 8 mg) (vl [mv 21]) h2) (gdV q_1322 q_1281 q_1282 q_154 q_1283) hdV_X1_all ⟨rfl, rfl⟩ ⟨(Nat.le_of_ble_eq_true rfl), (Nat.le_of_ble_eq_true rfl)⟩ ⟨(Nat.le_of_ble_eq_true rfl), (Nat.le_of_ble_eq_true rfl)⟩ xT_b xT_at 2 1 rfl rfl rfl _ hC_ (nd_T _ 0) rfl hl4.1 rfl (Nat.le_of_ble_eq_true rfl) dX11_clue_32)) rfl (fun _ => rfl) (fun _ => rfl) (fun r_12 u_11 H1 locs hp hw13 => ?_)
      generalize H1 = H at hw13 ⊢
      have hw14 : WD D A s.heap (WZ_Mclue cI cJ mv mr mi mf mg) H locs := hw13
      obtain ⟨hp_15, hp_16, hp_17⟩ := hp
      have hp_15 : 0 ≤ r_12.toInt := hp_15
      have hp_16 : r_12.toInt ≤ 1023 := hp_16
      have hp_17 : (r_12 : Int32).toInt = sh1 (mi 14) - 1 := hp_17
      refine lv_iconst (pc := 35) (v := (-1)) E.1 E.2.1 dX11_clue_35 (by decide +kernel) ?_
      refine lv_ixor (pc := 36) E.1 E.2.1 dX11_clue_36 ?_
      refine lv_topi (fun v_18 ev_18 => ?_)
      refine lv_iand (pc := 37) E.1 E.2.1 dX11_clue_37 ?_
      refine lv_topi (fun v_19 ev_19 => ?_)
      refine lv_if_ne (pc := 38) (tgt := 45) E.1 E.2.1 dX11_clue_38 (by decide) (fun c_20 => ?_) (fun c_20 => ?_)
      · skip
        have hc_20 := neE (a := v_19.toInt) (b := 0) rfl (by decide +kernel) c_20
        refine lv_iconst (pc := 45) (v := 0) E.1 E.2.1 dX11_clue_45 (by decide +kernel) ?_
        refine lv_istore (pc := 46) (lv' := [(4, .int 0), (3, .ref (mr 17)), (0, .ref (mr 0)), (1, .int z_night), (2, .int z_set)]) E.1 E.2.1 dX11_clue_46 hl4 (by decide) rfl (fun ls hl21 => ?_)
        refine lv_iload_n (pc := 48) E.1 E.2.1 dX11_clue_48 rfl (lv_at hl21 3 rfl) ?_
        refine lv_if_lt (pc := 49) (tgt := 72) E.1 E.2.1 dX11_clue_49 (by decide) (fun c_22 => ?_) (fun c_22 => ?_)
        · skip
          have hc_22 := ltE (a := z_night.toInt) (b := 0) rfl (by decide +kernel) c_22
          refine lv_iconst (pc := 72) (v := (-1)) E.1 E.2.1 dX11_clue_72 (by decide +kernel) ?_
          exact em_i (w1 := (fun (u : (Nat → Int32) × (Nat → Nat → Int32) × (Nat → Nat → Int64)) => (WZ_Mclue cI cJ mv mr u.1 u.2.1 u.2.2))) E hr hlk (mi, mf, mg) hw14 ⟨h0.1, h0.2, h1.1, h1.2, h2.1, h2.2, h3.1, h3.2, rfl, rfl, rfl, (show CST (sh1 (mi 14)) z_night.toInt z_set.toInt (mi 20).toInt (mi 20).toInt ((-1) : Int32).toInt from (Or.inr (Or.inr ⟨by omega, fun h => by obtain ⟨⟨h1, h2⟩, h3, h4, h5⟩ := h; have q := (and_all ⟨by omega, by omega⟩ hp_17 ev_18 ev_19).mpr ⟨by omega, h4⟩; omega, by decide +kernel, rfl⟩)))⟩ (Nat.le_of_ble_eq_true rfl) (Nat.le_of_ble_eq_true rfl) dX11_clue_73
        · skip
          have hc_22 := nltE (a := z_night.toInt) (b := 0) rfl (by decide +kernel) c_22
          refine lv_iload_n (pc := 52) E.1 E.2.1 dX11_clue_52 rfl (lv_at hl21 3 rfl) ?_
          refine lv_bipush (pc := 53) (v := 10) E.1 E.2.1 dX11_clue_53 (by decide +kernel) ?_
          refine lv_icmp_ge (pc := 55) (tgt := 72) E.1 E.2.1 dX11_clue_55 (by decide) (fun c_23 => ?_) (fun c_23 => ?_)
          · skip
            have hc_23 := leE (a := 10) (b := z_night.toInt) (by decide +kernel) rfl c_23
            refine lv_iconst (pc := 72) (v := (-1)) E.1 E.2.1 dX11_clue_72 (by decide +kernel) ?_
            exact em_i (w1 := (fun (u : (Nat → Int32) × (Nat → Nat → Int32) × (Nat → Nat → Int64)) => (WZ_Mclue cI cJ mv mr u.1 u.2.1 u.2.2))) E hr hlk (mi, mf, mg) hw14 ⟨h0.1, h0.2, h1.1, h1.2, h2.1, h2.2, h3.1, h3.2, rfl, rfl, rfl, (show CST (sh1 (mi 14)) z_night.toInt z_set.toInt (mi 20).toInt (mi 20).toInt ((-1) : Int32).toInt from (Or.inr (Or.inr ⟨by omega, fun h => by obtain ⟨⟨h1, h2⟩, h3, h4, h5⟩ := h; have q := (and_all ⟨by omega, by omega⟩ hp_17 ev_18 ev_19).mpr ⟨by omega, h4⟩; omega, by decide +kernel, rfl⟩)))⟩ (Nat.le_of_ble_eq_true rfl) (Nat.le_of_ble_eq_true rfl) dX11_clue_73
          · skip
            have hc_23 := nleE (a := 10) (b := z_night.toInt) (by decide +kernel) rfl c_23
            refine lv_iload (pc := 58) E.1 E.2.1 dX11_clue_58 (lv_at hl21 0 rfl) ?_
            refine lv_if_eq (pc := 60) (tgt := 72) E.1 E.2.1 dX11_clue_60 (by decide) (fun _ => ?_) (fun c_24 => absurd (meqE (a := 0) (b := 0) (by decide +kernel) (by decide +kernel) (by omega)) c_24)
            refine lv_iconst (pc := 72) (v := (-1)) E.1 E.2.1 dX11_clue_72 (by decide +kernel) ?_
            exact em_i (w1 := (fun (u : (Nat → Int32) × (Nat → Nat → Int32) × (Nat → Nat → Int64)) => (WZ_Mclue cI cJ mv mr u.1 u.2.1 u.2.2))) E hr hlk (mi, mf, mg) hw14 ⟨h0.1, h0.2, h1.1, h1.2, h2.1, h2.2, h3.1, h3.2, rfl, rfl, rfl, (show CST (sh1 (mi 14)) z_night.toInt z_set.toInt (mi 20).toInt (mi 20).toInt ((-1) : Int32).toInt from (Or.inr (Or.inr ⟨by omega, fun h => by obtain ⟨⟨h1, h2⟩, h3, h4, h5⟩ := h; have q := (and_all ⟨by omega, by omega⟩ hp_17 ev_18 ev_19).mpr ⟨by omega, h4⟩; omega, by decide +kernel, rfl⟩)))⟩ (Nat.le_of_ble_eq_true rfl) (Nat.le_of_ble_eq_true rfl) dX11_clue_73
      · skip
        have hc_20 := eqE (a := v_19.toInt) (b := 0) rfl (by decide +kernel) c_20
        refine lv_iconst (pc := 41) (v := 1) E.1 E.2.1 dX11_clue_41 (by decide +kernel) ?_
        refine lv_goto (pc := 42) (tgt := 46) E.1 E.2.1 dX11_clue_42 (by decide) ?_
        refine lv_istore (pc := 46) (lv' := [(4, .int 1), (3, .ref (mr 17)), (0, .ref (mr 0)), (1, .int z_night), (2, .int z_set)]) E.1 E.2.1 dX11_clue_46 hl4 (by decide) rfl (fun ls hl25 => ?_)
        refine lv_iload_n (pc := 48) E.1 E.2.1 dX11_clue_48 rfl (lv_at hl25 3 rfl) ?_
        refine lv_if_lt (pc := 49) (tgt := 72) E.1 E.2.1 dX11_clue_49 (by decide) (fun c_26 => ?_) (fun c_26 => ?_)
        · skip
          have hc_26 := ltE (a := z_night.toInt) (b := 0) rfl (by decide +kernel) c_26
          refine lv_iconst (pc := 72) (v := (-1)) E.1 E.2.1 dX11_clue_72 (by decide +kernel) ?_
          exact em_i (w1 := (fun (u : (Nat → Int32) × (Nat → Nat → Int32) × (Nat → Nat → Int64)) => (WZ_Mclue cI cJ mv mr u.1 u.2.1 u.2.2))) E hr hlk (mi, mf, mg) hw14 ⟨h0.1, h0.2, h1.1, h1.2, h2.1, h2.2, h3.1, h3.2, rfl, rfl, rfl, (show CST (sh1 (mi 14)) z_night.toInt z_set.toInt (mi 20).toInt (mi 20).toInt ((-1) : Int32).toInt from (Or.inr (Or.inr ⟨by omega, fun h => by obtain ⟨⟨h1, h2⟩, h3, h4, h5⟩ := h; have q := (and_all ⟨by omega, by omega⟩ hp_17 ev_18 ev_19).mpr ⟨by omega, h4⟩; omega, by decide +kernel, rfl⟩)))⟩ (Nat.le_of_ble_eq_true rfl) (Nat.le_of_ble_eq_true rfl) dX11_clue_73
        · skip
          have hc_26 := nltE (a := z_night.toInt) (b := 0) rfl (by decide +kernel) c_26
          refine lv_iload_n (pc := 52) E.1 E.2.1 dX11_clue_52 rfl (lv_at hl25 3 rfl) ?_
          refine lv_bipush (pc := 53) (v := 10) E.1 E.2.1 dX11_clue_53 (by decide +kernel) ?_
          refine lv_icmp_ge (pc := 55) (tgt := 72) E.1 E.2.1 dX11_clue_55 (by decide) (fun c_27 => ?_) (fun c_27 => ?_)
          · skip
            have hc_27 := leE (a := 10) (b := z_night.toInt) (by decide +kernel) rfl c_27
            refine lv_iconst (pc := 72) (v := (-1)) E.1 E.2.1 dX11_clue_72 (by decide +kernel) ?_
            exact em_i (w1 := (fun (u : (Nat → Int32) × (Nat → Nat → Int32) × (Nat → Nat → Int64)) => (WZ_Mclue cI cJ mv mr u.1 u.2.1 u.2.2))) E hr hlk (mi, mf, mg) hw14 ⟨h0.1, h0.2, h1.1, h1.2, h2.1, h2.2, h3.1, h3.2, rfl, rfl, rfl, (show CST (sh1 (mi 14)) z_night.toInt z_set.toInt (mi 20).toInt (mi 20).toInt ((-1) : Int32).toInt from (Or.inr (Or.inr ⟨by omega, fun h => by obtain ⟨⟨h1, h2⟩, h3, h4, h5⟩ := h; have q := (and_all ⟨by omega, by omega⟩ hp_17 ev_18 ev_19).mpr ⟨by omega, h4⟩; omega, by decide +kernel, rfl⟩)))⟩ (Nat.le_of_ble_eq_true rfl) (Nat.le_of_ble_eq_true rfl) dX11_clue_73
          · skip
            have hc_27 := nleE (a := 10) (b := z_night.toInt) (by decide +kernel) rfl c_27
            refine lv_iload (pc := 58) E.1 E.2.1 dX11_clue_58 (lv_at hl25 0 rfl) ?_
            refine lv_if_eq (pc := 60) (tgt := 72) E.1 E.2.1 dX11_clue_60 (by decide) (fun c_28 => absurd c_28 (mneE (a := 1) (b := 0) (by decide +kernel) (by decide +kernel) (by omega))) (fun _ => ?_)
            refine lv_aload_n (pc := 63) E.1 E.2.1 dX11_clue_63 rfl (lv_at hl25 1 rfl) ?_
            refine x_get (pc := 64) (T := TX0) (N := 3) (ci := 0) (v := .int (mi 20)) E hw14 inX0 10 2 q_449 rfl rfl (by decide) rfl rfl dX11_clue_64 ?_
            refine lv_bipush (pc := 67) (v := 8) E.1 E.2.1 dX11_clue_67 (by decide +kernel) ?_
            refine lv_icmp_lt (pc := 69) (tgt := 74) E.1 E.2.1 dX11_clue_69 (by decide) (fun c_29 => ?_) (fun c_29 => ?_)
            · skip
              have hc_29 := ltE (a := (mi 20).toInt) (b := 8) rfl (by decide +kernel) c_29
              refine lv_aload_n (pc := 74) E.1 E.2.1 dX11_clue_74 rfl (lv_at hl25 1 rfl) ?_
              refine x_get (pc := 75) (T := TX0) (N := 3) (ci := 0) (v := .ref (mr 18)) E hw14 inX0 10 0 q_445 rfl rfl (by decide) rfl rfl dX11_clue_75 ?_
              refine lv_aload_n (pc := 78) E.1 E.2.1 dX11_clue_78 rfl (lv_at hl25 1 rfl) ?_
              refine x_get (pc := 79) (T := TX0) (N := 3) (ci := 0) (v := .int (mi 20)) E hw14 inX0 10 2 q_449 rfl rfl (by decide) rfl rfl dX11_clue_79 ?_
              refine lv_iload_n (pc := 82) E.1 E.2.1 dX11_clue_82 rfl (lv_at hl25 3 rfl) ?_
              refine x_iastG (pc := 83) (f := (mf 18)) (wf := fun g => (WZ_Mclue cI cJ mv mr mi (va_up mf 18 g) mg)) E hw14 11 rfl (inbE (a := (mi 20).toInt) rfl (by omega)) (fun _ => rfl) dX11_clue_83 (fun g_30 H locs eg_30 hw31 => ?_)
              refine lv_aload_n (pc := 84) E.1 E.2.1 dX11_clue_84 rfl (lv_at hl25 1 rfl) ?_
              refine x_get (pc := 85) (T := TX0) (N := 3) (ci := 0) (v := .ref (mr 19)) E hw31 inX0 10 1 q_447 rfl rfl (by decide) rfl rfl dX11_clue_85 ?_
              refine lv_aload_n (pc := 88) E.1 E.2.1 dX11_clue_88 rfl (lv_at hl25 1 rfl) ?_
              refine x_get (pc := 89) (T := TX0) (N := 3) (ci := 0) (v := .int (mi 20)) E hw31 inX0 10 2 q_449 rfl rfl (by decide) rfl rfl dX11_clue_89 ?_
              refine lv_iload_n (pc := 92) E.1 E.2.1 dX11_clue_92 rfl (lv_at hl25 4 rfl) ?_
              refine x_iastG (pc := 93) (f := (mf 19)) (wf := fun g => (WZ_Mclue cI cJ mv mr mi (va_up (va_up mf 18 g_30) 19 g) mg)) E hw31 12 rfl (inbE (a := (mi 20).toInt) rfl (by omega)) (fun _ => rfl) dX11_clue_93 (fun g_32 H locs eg_32 hw33 => ?_)
              refine lv_aload_n (pc := 94) E.1 E.2.1 dX11_clue_94 rfl (lv_at hl25 1 rfl) ?_
              refine lv_dup (pc := 95) E.1 E.2.1 dX11_clue_95 rfl ?_
              refine x_get (pc := 96) (T := TX0) (N := 3) (ci := 0) (v := .int (mi 20)) E hw33 inX0 10 2 q_449 rfl rfl (by decide) rfl rfl dX11_clue_96 ?_
              refine lv_iconst (pc := 99) (v := 1) E.1 E.2.1 dX11_clue_99 (by decide +kernel) ?_
              refine lv_iadd (pc := 100) E.1 E.2.1 dX11_clue_100 ?_
              refine lv_topi (fun v_34 ev_34 => ?_)
              have hv_34 : v_34.toInt = (mi 20).toInt + 1 := by rw [ev_34]; exact addE rfl (by decide +kernel) (by omega)
              refine x_put (pc := 101) (T := TX0) (N := 3) (ci := 0) (ws' := (WZ_Mclue cI cJ mv mr (upd mi 20 v_34) (va_up (va_up mf 18 g_30) 19 g_32) mg)) E hw33 inX0 tyX0_ok nmX0 10 2 q_449 rfl rfl (by decide) rfl rfl rfl rfl (Nat.le_of_ble_eq_true rfl) rfl dX11_clue_101 (fun H locs hw35 => ?_)
              refine lv_aload_n (pc := 104) E.1 E.2.1 dX11_clue_104 rfl (lv_at hl25 1 rfl) ?_
              refine x_get (pc := 105) (T := TX0) (N := 3) (ci := 0) (v := .int v_34) E hw35 inX0 10 2 q_449 rfl rfl (by decide) rfl rfl dX11_clue_105 ?_
              exact em_i (w1 := (fun (u : (Nat → Int32) × (Nat → Nat → Int32) × (Nat → Nat → Int64)) => (WZ_Mclue cI cJ mv mr u.1 u.2.1 u.2.2))) E hr hlk ((upd mi 20 v_34), (va_up (va_up mf 18 g_30) 19 g_32), mg) hw35 ⟨h0.1, h0.2, h1.1, h1.2, h2.1, h2.2, (by show 0 ≤ v_34.toInt; omega), (by show v_34.toInt ≤ 8; omega), rfl, rfl, rfl, (show CST (sh1 (mi 14)) z_night.toInt z_set.toInt (mi 20).toInt v_34.toInt (v_34 : Int32).toInt from (Or.inr (Or.inl ⟨by omega, (by have q := (and_all ⟨by omega, by omega⟩ hp_17 ev_18 ev_19).mp (by omega); exact ⟨⟨by omega, by omega⟩, by omega, q.2, by omega⟩), by omega, by omega⟩)))⟩ (Nat.le_of_ble_eq_true rfl) (Nat.le_of_ble_eq_true rfl) dX11_clue_108
            · skip
              have hc_29 := nltE (a := (mi 20).toInt) (b := 8) rfl (by decide +kernel) c_29
              refine lv_iconst (pc := 72) (v := (-1)) E.1 E.2.1 dX11_clue_72 (by decide +kernel) ?_
              exact em_i (w1 := (fun (u : (Nat → Int32) × (Nat → Nat → Int32) × (Nat → Nat → Int64)) => (WZ_Mclue cI cJ mv mr u.1 u.2.1 u.2.2))) E hr hlk (mi, mf, mg) hw14 ⟨h0.1, h0.2, h1.1, h1.2, h2.1, h2.2, h3.1, h3.2, rfl, rfl, rfl, (show CST (sh1 (mi 14)) z_night.toInt z_set.toInt (mi 20).toInt (mi 20).toInt ((-1) : Int32).toInt from (Or.inr (Or.inr ⟨by omega, fun h => by obtain ⟨⟨h1, h2⟩, h3, h4, h5⟩ := h; have q := (and_all ⟨by omega, by omega⟩ hp_17 ev_18 ev_19).mpr ⟨by omega, h4⟩; omega, by decide +kernel, rfl⟩)))⟩ (Nat.le_of_ble_eq_true rfl) (Nat.le_of_ble_eq_true rfl) dX11_clue_73
  · skip
    have hc_5 := eqE (a := z_night.toInt) (b := (-1)) rfl (by decide +kernel) c_5
    refine lv_aload_n (pc := 13) E.1 E.2.1 dX11_clue_13 rfl (lv_at hl4 0 rfl) ?_
    refine lv_iconst (pc := 14) (v := 0) E.1 E.2.1 dX11_clue_14 (by decide +kernel) ?_
    refine x_put (pc := 15) (T := TX0) (N := 3) (ci := 0) (ws' := (WZ_Mclue cI cJ mv mr (upd mi 20 0) mf mg)) E hw1 inX0 tyX0_ok nmX0 10 2 q_449 rfl rfl (by decide) rfl rfl rfl rfl (Nat.le_of_ble_eq_true rfl) rfl dX11_clue_15 (fun H locs hw36 => ?_)
    refine lv_iconst (pc := 18) (v := 0) E.1 E.2.1 dX11_clue_18 (by decide +kernel) ?_
    exact em_i (w1 := (fun (u : (Nat → Int32) × (Nat → Nat → Int32) × (Nat → Nat → Int64)) => (WZ_Mclue cI cJ mv mr u.1 u.2.1 u.2.2))) E hr hlk ((upd mi 20 0), mf, mg) hw36 ⟨h0.1, h0.2, h1.1, h1.2, h2.1, h2.2, (by show 0 ≤ (0 : Int32).toInt; have k_0 : (0 : Int32).toInt = 0 := (by decide +kernel); have k_1 : (0 : Int32).toInt = 0 := (by decide +kernel); omega), (by show (0 : Int32).toInt ≤ 8; have k_0 : (0 : Int32).toInt = 0 := (by decide +kernel); have k_1 : (0 : Int32).toInt = 0 := (by decide +kernel); omega), rfl, rfl, rfl, (show CST (sh1 (mi 14)) z_night.toInt z_set.toInt (mi 20).toInt (0 : Int32).toInt (0 : Int32).toInt from (Or.inl ⟨by omega, by decide +kernel, by decide +kernel⟩))⟩ (Nat.le_of_ble_eq_true rfl) (Nat.le_of_ble_eq_true rfl) dX11_clue_19
set_option maxHeartbeats 4000000 in
set_option maxRecDepth 100000 in
theorem t_ways (l : Launch) (D : va_G) (cI cJ : ClassId) (sz : Nat) (mr : Nat → Nat) (mi : Nat → Int32) (mf : Nat → Nat → Int32) (mg : Nat → Nat → Int64) (z_n : Int32) (mv : Nat → Value) (h0 : 0 ≤ (mi 1).toInt ∧ (mi 1).toInt ≤ 5) (h1 : 0 ≤ (mi 2).toInt ∧ (mi 2).toInt ≤ 6) (h2 : 0 ≤ (mi 24).toInt ∧ (mi 24).toInt ≤ 200) (h3 : 0 ≤ (mi 32).toInt ∧ (mi 32).toInt ≤ 10) (h4 : 0 ≤ (mi 40).toInt ∧ (mi 40).toInt ≤ 40) (h5 : 0 ≤ (mi 49).toInt ∧ (mi 49).toInt ≤ 10) (h6 : 0 ≤ (mi 72).toInt ∧ (mi 72).toInt ≤ 200) (h7 : 0 ≤ (mi 79).toInt ∧ (mi 79).toInt ≤ 8) (a_p_from : p9 (mf 36)) (a_p_to : p9 (mf 37)) (a_t_marks : m4 (mf 53)) (a_u_marks : m4 (mf 63)) : Met l yX11_ways (Cond.code yX11_ways cX11_ways 2 (some .long) :: GW) ({ frames := 11, cells := 0, slots := 0, locals := 263 } : Room) (va_Pc [.ref (mr 0), .int z_n] (PW D cI cJ sz (WZ_Mtrail cI cJ mv mr mi mf mg) xT)) (va_Ql (fun (r : Int64) (u : (Nat → Int32) × (Nat → Nat → Int32) × (Nat → Nat → Int64)) => (0 ≤ (u.1 1).toInt) ∧ ((u.1 1).toInt ≤ 5) ∧ (0 ≤ (u.1 2).toInt) ∧ ((u.1 2).toInt ≤ 6) ∧ (0 ≤ (u.1 24).toInt) ∧ ((u.1 24).toInt ≤ 200) ∧ (0 ≤ (u.1 32).toInt) ∧ ((u.1 32).toInt ≤ 10) ∧ (0 ≤ (u.1 40).toInt) ∧ ((u.1 40).toInt ≤ 40) ∧ (0 ≤ (u.1 49).toInt) ∧ ((u.1 49).toInt ≤ 10) ∧ (0 ≤ (u.1 72).toInt) ∧ ((u.1 72).toInt ≤ 200) ∧ (0 ≤ (u.1 79).toInt) ∧ ((u.1 79).toInt ≤ 8) ∧ ((u.1 32).toInt = (mi 32).toInt) ∧ ((u.1 79).toInt = (mi 79).toInt) ∧ (p9 (u.2.1 36)) ∧ (p9 (u.2.1 37)) ∧ (m4 (u.2.1 53)) ∧ (m4 (u.2.1 63)) ∧ ((Eq (mf 27)) (u.2.1 27)) ∧ ((Eq (mf 31)) (u.2.1 31))) (fun u => QW D cI cJ (va_A (WZ_Mtrail cI cJ mv mr mi mf mg) sz) ((fun (u : (Nat → Int32) × (Nat → Nat → Int32) × (Nat → Nat → Int64)) => (WZ_Mtrail cI cJ mv mr u.1 u.2.1 u.2.2)) u)) (va_A (WZ_Mtrail cI cJ mv mr mi mf mg) sz)) 0 0 (va_A (WZ_Mtrail cI cJ mv mr mi mf mg) sz) := by
  refine mk_met (y := yX11_ways) (bytes := cX11_ways) (maxL := 2) (avs := [.ref (mr 0), .int z_n]) (WS := (WZ_Mtrail cI cJ mv mr mi mf mg)) (Qf := fun A => va_Ql (fun (r : Int64) (u : (Nat → Int32) × (Nat → Nat → Int32) × (Nat → Nat → Int64)) => (0 ≤ (u.1 1).toInt) ∧ ((u.1 1).toInt ≤ 5) ∧ (0 ≤ (u.1 2).toInt) ∧ ((u.1 2).toInt ≤ 6) ∧ (0 ≤ (u.1 24).toInt) ∧ ((u.1 24).toInt ≤ 200) ∧ (0 ≤ (u.1 32).toInt) ∧ ((u.1 32).toInt ≤ 10) ∧ (0 ≤ (u.1 40).toInt) ∧ ((u.1 40).toInt ≤ 40) ∧ (0 ≤ (u.1 49).toInt) ∧ ((u.1 49).toInt ≤ 10) ∧ (0 ≤ (u.1 72).toInt) ∧ ((u.1 72).toInt ≤ 200) ∧ (0 ≤ (u.1 79).toInt) ∧ ((u.1 79).toInt ≤ 8) ∧ ((u.1 32).toInt = (mi 32).toInt) ∧ ((u.1 79).toInt = (mi 79).toInt) ∧ (p9 (u.2.1 36)) ∧ (p9 (u.2.1 37)) ∧ (m4 (u.2.1 53)) ∧ (m4 (u.2.1 63)) ∧ ((Eq (mf 27)) (u.2.1 27)) ∧ ((Eq (mf 31)) (u.2.1 31))) (fun u => QW D cI cJ A ((fun (u : (Nat → Int32) × (Nat → Nat → Int32) × (Nat → Nat → Int64)) => (WZ_Mtrail cI cJ mv mr u.1 u.2.1 u.2.2)) u)) A) (by decide) (Nat.le_of_ble_eq_true rfl) ?_
  intro p e s m below meth c A ls E hr hlk hnm hX hw1 hl2
  have hl3 : lv_has ls 2 [(0, .ref (mr 0)), (1, .int z_n)] := hl2
  refine lv_iload_n (pc := 0) E.1 E.2.1 dX11_ways_0 rfl (lv_at hl3 1 rfl) ?_
  refine lv_iconst (pc := 1) (v := 1) E.1 E.2.1 dX11_ways_1 (by decide +kernel) ?_
  refine lv_icmp_lt (pc := 2) (tgt := 11) E.1 E.2.1 dX11_ways_2 (by decide) (fun c_4 => ?_) (fun c_4 => ?_)
  · skip
    have hc_4 := ltE (a := z_n.toInt) (b := 1) rfl (by decide +kernel) c_4
    refine lv_ldc2 (pc := 11) (v := (-1)) E.1 E.2.1 E.2.2.2.1 (E.2.2.2.2.1 _ q_1327) dX11_ways_11 ?_
    exact em_l (w1 := (fun (u : (Nat → Int32) × (Nat → Nat → Int32) × (Nat → Nat → Int64)) => (WZ_Mtrail cI cJ mv mr u.1 u.2.1 u.2.2))) E hr hlk (mi, mf, mg) hw1 ⟨h0.1, h0.2, h1.1, h1.2, h2.1, h2.2, h3.1, h3.2, h4.1, h4.2, h5.1, h5.2, h6.1, h6.2, h7.1, h7.2, rfl, rfl, a_p_from, a_p_to, a_t_marks, a_u_marks, rfl, rfl⟩ (Nat.le_of_ble_eq_true rfl) (Nat.le_of_ble_eq_true rfl) dX11_ways_14
  · skip
    have hc_4 := nltE (a := z_n.toInt) (b := 1) rfl (by decide +kernel) c_4
    refine lv_iload_n (pc := 5) E.1 E.2.1 dX11_ways_5 rfl (lv_at hl3 1 rfl) ?_
    refine lv_bipush (pc := 6) (v := 10) E.1 E.2.1 dX11_ways_6 (by decide +kernel) ?_
    refine lv_icmp_le (pc := 8) (tgt := 15) E.1 E.2.1 dX11_ways_8 (by decide) (fun c_5 => ?_) (fun c_5 => ?_)
    · skip
      have hc_5 := leE (a := z_n.toInt) (b := 10) rfl (by decide +kernel) c_5
      refine lv_aload_n (pc := 15) E.1 E.2.1 dX11_ways_15 rfl (lv_at hl3 0 rfl) ?_
      refine x_get (pc := 16) (T := TX11) (N := 13) (ci := 11) (v := .ref (mr 80)) E hw1 inX11 0 12 q_618 rfl rfl (by decide) rfl rfl dX11_ways_16 ?_
      refine lv_aload_n (pc := 19) E.1 E.2.1 dX11_ways_19 rfl (lv_at hl3 0 rfl) ?_
      refine x_get (pc := 20) (T := TX11) (N := 13) (ci := 11) (v := .ref (mr 3)) E hw1 inX11 0 0 q_606 rfl rfl (by decide) rfl rfl dX11_ways_20 ?_
      refine lv_iload_n (pc := 23) E.1 E.2.1 dX11_ways_23 rfl (lv_at hl3 1 rfl) ?_
      refine cq_l (pc := 24) (ws' := (fun (u : (Nat → Int32) × (Nat → Int64) × (Nat → Int64) × (Nat → Int32) × (Nat → Int32)) => (WZ_Mtrail cI cJ mv mr mi (va_up (va_up (va_up mf 41 u.2.2.2.1) 42 u.2.2.2.2) 83 u.1) (va_up (va_up mg 81 u.2.1) 82 u.2.2.1)))) hw1 [51, 52, 53, 54, 1, 2, 3, 4, 5, 6, 7, 8, 9, 10, 11, 12, 13, 14, 15, 16, 17, 18, 19, 20, 21, 22, 23, 24, 25, 26, 27, 28, 29, 30, 31, 32, 33, 34, 35, 36, 37, 38, 39, 40, 41, 42, 43, 44, 45, 46, 47, 48, 49, 50] [0] [0, 5, 6, 7, 8, 9, 10, 11, 12, 13, 14, 15, 16, 17, 18, 19, 20, 21, 22, 23, 24, 25, 26, 27, 28, 29, 30, 31, 32, 33, 34, 35, 36, 37, 38, 39, 40, 41, 42, 43, 44, 45, 46, 47, 48, 49, 50, 51, 52, 53, 54, 1, 2, 3, 4] rfl rfl (by decide) (by decide) (fun _ => rfl) (by decide) (rn_V (As := [.ref (mr 3), .int z_n]) (rest := []) E hw1 (t_follow l D cI cJ _ (shs [(0, 80, 4), (4, 3, 77)] mr) (shs [(0, 80, 4), (4, 3, 77)] mi) (shs [(0, 80, 4), (4, 3, 77)] mf) (shs [(0, 80, 4), (4, 3, 77)] mg) z_n (vl [mv 9]) h3 h4 h5 h7 (by show 1 ≤ z_n.toInt ∧ z_n.toInt ≤ 10; omega) a_p_from a_p_to) (gdV q_1328 q_1329 q_1330 q_161 q_1331) hdV_X9_follow ⟨rfl, rfl⟩ ⟨(Nat.le_of_ble_eq_true rfl), (Nat.le_of_ble_eq_true rfl)⟩ ⟨(Nat.le_of_ble_eq_true rfl), (Nat.le_of_ble_eq_true rfl)⟩ xT_b xT_at 51 9 rfl rfl rfl [51, 52, 53, 54, 1, 2, 3, 4, 5, 6, 7, 8, 9, 10, 11, 12, 13, 14, 15, 16, 17, 18, 19, 20, 21, 22, 23, 24, 25, 26, 27, 28, 29, 30, 31, 32, 33, 34, 35, 36, 37, 38, 39, 40, 41, 42, 43, 44, 45, 46, 47, 48, 49, 50] rfl (by decide) rfl hl3.1 rfl (Nat.le_of_ble_eq_true rfl) dX11_ways_24) (fun r_7 u_6 H1 locs hp hw8 => ?_)
      obtain ⟨greached_9, gleading_10, ggoing_11, gpmeasured_12, gpmeasuredIn_13⟩ := u_6
      generalize H1 = H at hw8 ⊢
      have hw14 : WD D A s.heap (WZ_Mtrail cI cJ mv mr mi (va_up (va_up (va_up mf 41 gpmeasured_12) 42 gpmeasuredIn_13) 83 greached_9) (va_up (va_up mg 81 gleading_10) 82 ggoing_11)) H locs := hw8
      exact em_l (w1 := (fun (u : (Nat → Int32) × (Nat → Nat → Int32) × (Nat → Nat → Int64)) => (WZ_Mtrail cI cJ mv mr u.1 u.2.1 u.2.2))) E hr hlk (mi, (va_up (va_up (va_up mf 41 gpmeasured_12) 42 gpmeasuredIn_13) 83 greached_9), (va_up (va_up mg 81 gleading_10) 82 ggoing_11)) hw14 ⟨h0.1, h0.2, h1.1, h1.2, h2.1, h2.2, h3.1, h3.2, h4.1, h4.2, h5.1, h5.2, h6.1, h6.2, h7.1, h7.2, rfl, rfl, a_p_from, a_p_to, a_t_marks, a_u_marks, rfl, rfl⟩ (Nat.le_of_ble_eq_true rfl) (Nat.le_of_ble_eq_true rfl) dX11_ways_27
    · skip
      have hc_5 := nleE (a := z_n.toInt) (b := 10) rfl (by decide +kernel) c_5
      refine lv_ldc2 (pc := 11) (v := (-1)) E.1 E.2.1 E.2.2.2.1 (E.2.2.2.2.1 _ q_1327) dX11_ways_11 ?_
      exact em_l (w1 := (fun (u : (Nat → Int32) × (Nat → Nat → Int32) × (Nat → Nat → Int64)) => (WZ_Mtrail cI cJ mv mr u.1 u.2.1 u.2.2))) E hr hlk (mi, mf, mg) hw1 ⟨h0.1, h0.2, h1.1, h1.2, h2.1, h2.2, h3.1, h3.2, h4.1, h4.2, h5.1, h5.2, h6.1, h6.2, h7.1, h7.2, rfl, rfl, a_p_from, a_p_to, a_t_marks, a_u_marks, rfl, rfl⟩ (Nat.le_of_ble_eq_true rfl) (Nat.le_of_ble_eq_true rfl) dX11_ways_14
