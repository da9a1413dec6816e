set_option maxHeartbeats 4000000 in
set_option maxRecDepth 100000 in
theorem s_readPathT (l : Launch) (D : va_G) (cI cJ : ClassId) (sz M : Nat) (mr : Nat → Nat) (mi : Nat → Int32) (mf : Nat → Nat → Int32) (mg : Nat → Nat → Int64) (z_at : Int32) (h0 : 0 ≤ (mi 23).toInt) (h1 : (mi 23).toInt ≤ (mi 22).toInt) (h2 : (mi 22).toInt ≤ (mi 21).toInt) (h3 : (mi 21).toInt ≤ 400) (h4 : 0 ≤ (mi 24).toInt) (h5 : (mi 24).toInt ≤ 4) (h6 : (mi 24).toInt ≤ 4 * (mi 22).toInt - 4 * (mi 23).toInt) (h7 : ((mf 26) 153).toInt = 32) (h8 : 0 ≤ (mi 6).toInt ∧ (mi 6).toInt ≤ 10) (h9 : 160 ≤ z_at.toInt ∧ z_at.toInt ≤ 316) (a_paths : pathsOK (mf 43)) (a_tape : b255 (mf 20)) (lf_words : (∀ j : Nat, j < 154 → (mf 26) j = w0 j)) (lf_again : AGN ((mi 24).toInt) ((mi 25).toInt) ((mi 23).toInt) ((mi 22).toInt)) : Met l yX12_readPath (Cond.code yX12_readPath cX12_readPath 2 (some .int) :: GW) ({ frames := 5, cells := 0, slots := 0, locals := 128 } : Room) (va_Pc [.ref M, .int z_at] (PW D cI cJ sz (MW cI cJ M mr mi mf mg) xT)) (va_Qi (fun (r : Int32) (u : Int32 × Int32 × Int32 × Int32 × Int32 × Int32 × (Nat → Int32)) => (0 ≤ u.2.1.toInt) ∧ (u.2.1.toInt ≤ u.1.toInt) ∧ (u.1.toInt ≤ (mi 21).toInt) ∧ (0 ≤ u.2.2.1.toInt) ∧ (u.2.2.1.toInt ≤ 4) ∧ (u.2.2.1.toInt ≤ 4 * u.1.toInt - 4 * u.2.1.toInt) ∧ (pathsOK u.2.2.2.2.2.2) ∧ (AGN u.2.2.1.toInt u.2.2.2.1.toInt u.2.1.toInt u.1.toInt) ∧ (r = 0 → PT (mf 43) u.2.2.2.2.2.2 (z_at).toNatClampNeg) ∧ ((∀ p : Int, TKR (mf 20) (mi 21).toInt p (mi 23).toInt (mi 22).toInt (mi 24).toInt (mi 25).toInt → RX (mf 20) (mi 21).toInt (pathR (mf 20) (mi 21).toInt ((mi 6).toInt - 1) p) (r : Int32).toInt u.2.2.2.2.1.toInt u.2.2.2.2.2.1.toInt u.2.1.toInt u.1.toInt u.2.2.1.toInt u.2.2.2.1.toInt)) ∧ ((r = (-1)) ∨ (r = 0))) (fun u => QW D cI cJ (va_A (MW cI cJ M mr mi mf mg) sz) ((fun (u : Int32 × Int32 × Int32 × Int32 × Int32 × Int32 × (Nat → Int32)) => (MW cI cJ M mr (upd (upd (upd (upd (upd (upd mi 22 u.1) 23 u.2.1) 24 u.2.2.1) 25 u.2.2.2.1) 38 u.2.2.2.2.1) 39 u.2.2.2.2.2.1) (va_up mf 43 u.2.2.2.2.2.2) mg)) u)) (va_A (MW cI cJ M mr mi mf mg) sz)) 0 0 (va_A (MW cI cJ M mr mi mf mg) sz) := by
  refine mk_met (y := yX12_readPath) (bytes := cX12_readPath) (maxL := 2) (avs := [.ref M, .int z_at]) (WS := (MW cI cJ M mr mi mf mg)) (Qf := fun A => va_Qi (fun (r : Int32) (u : Int32 × Int32 × Int32 × Int32 × Int32 × Int32 × (Nat → Int32)) => (0 ≤ u.2.1.toInt) ∧ (u.2.1.toInt ≤ u.1.toInt) ∧ (u.1.toInt ≤ (mi 21).toInt) ∧ (0 ≤ u.2.2.1.toInt) ∧ (u.2.2.1.toInt ≤ 4) ∧ (u.2.2.1.toInt ≤ 4 * u.1.toInt - 4 * u.2.1.toInt) ∧ (pathsOK u.2.2.2.2.2.2) ∧ (AGN u.2.2.1.toInt u.2.2.2.1.toInt u.2.1.toInt u.1.toInt) ∧ (r = 0 → PT (mf 43) u.2.2.2.2.2.2 (z_at).toNatClampNeg) ∧ ((∀ p : Int, TKR (mf 20) (mi 21).toInt p (mi 23).toInt (mi 22).toInt (mi 24).toInt (mi 25).toInt → RX (mf 20) (mi 21).toInt (pathR (mf 20) (mi 21).toInt ((mi 6).toInt - 1) p) (r : Int32).toInt u.2.2.2.2.1.toInt u.2.2.2.2.2.1.toInt u.2.1.toInt u.1.toInt u.2.2.1.toInt u.2.2.2.1.toInt)) ∧ ((r = (-1)) ∨ (r = 0))) (fun u => QW D cI cJ A ((fun (u : Int32 × Int32 × Int32 × Int32 × Int32 × Int32 × (Nat → Int32)) => (MW cI cJ M mr (upd (upd (upd (upd (upd (upd mi 22 u.1) 23 u.2.1) 24 u.2.2.1) 25 u.2.2.2.1) 38 u.2.2.2.2.1) 39 u.2.2.2.2.2.1) (va_up mf 43 u.2.2.2.2.2.2) mg)) u)) A) (by decide) (Nat.le_of_ble_eq_true rfl) ?_
  intro p e s m below meth c A ls E hr hlk hnm hX hw1 hl2
  have hl3 : lv_has ls 2 [(0, .ref M), (1, .int z_at)] := hl2
  refine lv_aload_n (pc := 0) E.1 E.2.1 dX12_readPath_0 rfl (lv_at hl3 0 rfl) ?_
  refine x_get (pc := 1) (T := TX12) (N := 70) (ci := 12) (v := .ref (mr 43)) E hw1 inX12 0 43 q_1442 rfl rfl (by decide) rfl rfl dX12_readPath_1 ?_
  refine lv_iload_n (pc := 4) E.1 E.2.1 dX12_readPath_4 rfl (lv_at hl3 1 rfl) ?_
  refine lv_iconst (pc := 5) (v := 0) E.1 E.2.1 dX12_readPath_5 (by decide +kernel) ?_
  refine lv_iadd (pc := 6) E.1 E.2.1 dX12_readPath_6 ?_
  refine lv_topi (fun v_4 ev_4 => ?_)
  have hv_4 : v_4.toInt = z_at.toInt + 0 := by rw [ev_4]; exact addE rfl (by decide +kernel) (by omega)
  refine lv_aload_n (pc := 7) E.1 E.2.1 dX12_readPath_7 rfl (lv_at hl3 0 rfl) ?_
  refine lv_iconst (pc := 8) (v := 0) E.1 E.2.1 dX12_readPath_8 (by decide +kernel) ?_
  refine lv_aload_n (pc := 9) E.1 E.2.1 dX12_readPath_9 rfl (lv_at hl3 0 rfl) ?_
  refine x_get (pc := 10) (T := TX12) (N := 70) (ci := 12) (v := .int (mi 6)) E hw1 inX12 0 6 q_1405 rfl rfl (by decide) rfl rfl dX12_readPath_10 ?_
  refine lv_iconst (pc := 13) (v := 1) E.1 E.2.1 dX12_readPath_13 (by decide +kernel) ?_
  refine lv_isub (pc := 14) E.1 E.2.1 dX12_readPath_14 ?_
  refine lv_topi (fun v_5 ev_5 => ?_)
  have hv_5 : v_5.toInt = (mi 6).toInt - 1 := by rw [ev_5]; exact subE rfl (by decide +kernel) (by omega)
  refine cm_i (pc := 15) hw1 (rn_M (As := [.int 0, .int v_5]) (rest := [.int v_4, .ref (mr 43)]) E hw1 (s_readNumberT l D cI cJ _ M mr mi mf mg 0 v_5 h0 h1 h2 h3 h4 h5 h6 h7 a_tape (show (∀ j : Nat, j < 154 → (mf 26) j = w0 j) from lf_words) (show AGN ((mi 24).toInt) ((mi 25).toInt) ((mi 23).toInt) ((mi 22).toInt) from lf_again)) (gdV q_1706 q_1708 q_62 q_162 q_1709) hdV_X12_readNumber ⟨rfl, rfl⟩ ⟨(Nat.le_of_ble_eq_true rfl), (Nat.le_of_ble_eq_true rfl)⟩ ⟨(Nat.le_of_ble_eq_true rfl), (Nat.le_of_ble_eq_true rfl)⟩ 12 rfl rfl rfl rfl hl3.1 rfl (Nat.le_of_ble_eq_true rfl) dX12_readPath_15) (fun r_7 u_6 H1 locs hp hw8 => ?_)
  obtain ⟨nspot_9, nfrom_10, ntoken_11, nvalue_12, nreadFault_13, nreadPlace_14⟩ := u_6
  generalize H1 = H at hw8 ⊢
  have hw15 : WD D A s.heap (MW cI cJ M mr (upd (upd (upd (upd (upd (upd mi 22 nspot_9) 23 nfrom_10) 24 ntoken_11) 25 nvalue_12) 38 nreadFault_13) 39 nreadPlace_14) mf mg) H locs := hw8
  obtain ⟨hp_16, hp_17, hp_18, hp_19, hp_20, hp_21, hp_22, hp_23, hp_24⟩ := hp
  have hp_16 : 0 ≤ nfrom_10.toInt := hp_16
  have hp_17 : nfrom_10.toInt ≤ nspot_9.toInt := hp_17
  have hp_18 : nspot_9.toInt ≤ (mi 21).toInt := hp_18
  have hp_19 : 0 ≤ ntoken_11.toInt := hp_19
  have hp_20 : ntoken_11.toInt ≤ 4 := hp_20
  have hp_21 : ntoken_11.toInt ≤ 4 * nspot_9.toInt - 4 * nfrom_10.toInt := hp_21
  have hp_22 : AGN ntoken_11.toInt nvalue_12.toInt nfrom_10.toInt nspot_9.toInt := hp_22
  have hp_23 : (∀ p : Int, TKR (mf 20) (mi 21).toInt p (mi 23).toInt (mi 22).toInt (mi 24).toInt (mi 25).toInt → RN (mf 20) (mi 21).toInt (numR (mf 20) (mi 21).toInt ((0 : Int32) : Int32).toInt (v_5 : Int32).toInt p) (r_7 : Int32).toInt nreadFault_13.toInt nreadPlace_14.toInt nfrom_10.toInt nspot_9.toInt ntoken_11.toInt nvalue_12.toInt) := hp_23
  rcases hp_24 with rfl | ⟨ha_25, ha_26, ha_27⟩
  · skip
    refine x_iastG (pc := 18) (f := (mf 43)) (wf := fun g => (MW cI cJ M mr (upd (upd (upd (upd (upd (upd mi 22 nspot_9) 23 nfrom_10) 24 ntoken_11) 25 nvalue_12) 38 nreadFault_13) 39 nreadPlace_14) (va_up mf 43 g) mg)) E hw15 21 rfl (inbE (a := v_4.toInt) rfl (by omega)) (fun _ => rfl) dX12_readPath_18 (fun g_28 H locs eg_28 hw29 => ?_)
    have hpk_30 : pathsOK g_28 := pathsOK_hi a_paths eg_28 (by omega)
    refine lv_aload_n (pc := 19) E.1 E.2.1 dX12_readPath_19 rfl (lv_at hl3 0 rfl) ?_
    refine x_get (pc := 20) (T := TX12) (N := 70) (ci := 12) (v := .ref (mr 43)) E hw29 inX12 0 43 q_1442 rfl rfl (by decide) rfl rfl dX12_readPath_20 ?_
    refine lv_iload_n (pc := 23) E.1 E.2.1 dX12_readPath_23 rfl (lv_at hl3 1 rfl) ?_
    refine lv_iconst (pc := 24) (v := 0) E.1 E.2.1 dX12_readPath_24 (by decide +kernel) ?_
    refine lv_iadd (pc := 25) E.1 E.2.1 dX12_readPath_25 ?_
    refine lv_topi (fun v_31 ev_31 => ?_)
    have hv_31 : v_31.toInt = z_at.toInt + 0 := by rw [ev_31]; exact addE rfl (by decide +kernel) (by omega)
    refine x_iald (pc := 26) (f := g_28) E hw29 21 rfl (inbE (a := v_31.toInt) rfl (by omega)) dX12_readPath_26 ?_
    refine lv_topi (fun v_32 ev_32 => ?_)
    have hsv_32 : v_32.toInt = ((-1) : Int32).toInt := by rw [ev_32, eg_28, show v_31.toNatClampNeg = v_4.toNatClampNeg from (by have q_0 := idxI (x := v_31) (by omega); have q_1 := idxI (x := v_4) (by omega); omega), pk_us]
    rw [show ((-1) : Int32).toInt = -1 from by decide +kernel] at hsv_32
    refine lv_iconst (pc := 27) (v := (-1)) E.1 E.2.1 dX12_readPath_27 (by decide +kernel) ?_
    refine lv_icmp_eq (pc := 28) (tgt := 41) E.1 E.2.1 dX12_readPath_28 (by decide) (fun _ => ?_) (fun c_33 => absurd (meqE (a := v_32.toInt) (b := (-1)) rfl (by decide +kernel) (by omega)) c_33)
    refine lv_iconst (pc := 41) (v := (-1)) E.1 E.2.1 dX12_readPath_41 (by decide +kernel) ?_
    exact em_i (w1 := (fun (u : Int32 × Int32 × Int32 × Int32 × Int32 × Int32 × (Nat → Int32)) => (MW cI cJ M mr (upd (upd (upd (upd (upd (upd mi 22 u.1) 23 u.2.1) 24 u.2.2.1) 25 u.2.2.2.1) 38 u.2.2.2.2.1) 39 u.2.2.2.2.2.1) (va_up mf 43 u.2.2.2.2.2.2) mg))) E hr hlk (nspot_9, nfrom_10, ntoken_11, nvalue_12, nreadFault_13, nreadPlace_14, g_28) hw29 ⟨hp_16, hp_17, hp_18, hp_19, hp_20, hp_21, hpk_30, hp_22, (fun h => absurd h (by decide +kernel)), (show (∀ p : Int, TKR (mf 20) (mi 21).toInt p (mi 23).toInt (mi 22).toInt (mi 24).toInt (mi 25).toInt → RX (mf 20) (mi 21).toInt (pathR (mf 20) (mi 21).toInt ((mi 6).toInt - 1) p) ((-1) : Int32).toInt nreadFault_13.toInt nreadPlace_14.toInt nfrom_10.toInt nspot_9.toInt ntoken_11.toInt nvalue_12.toInt) from (fun p hp => by have q0 := hp_23 _ hp; rw [show v_5.toInt = (mi 6).toInt - 1 from by omega] at q0; obtain ⟨e0, f0, g0, i0⟩ := RN_err q0 (by decide +kernel) (by decide +kernel); simp only [pathR, sndE, f0]; exact ⟨(by decide +kernel), g0, i0⟩)), (Or.inl rfl)⟩ (Nat.le_of_ble_eq_true rfl) (Nat.le_of_ble_eq_true rfl) dX12_readPath_42
  · skip
    have ha_25 : (0 : Int32).toInt ≤ r_7.toInt := ha_25
    rw [show (0 : Int32).toInt = 0 from by decide +kernel] at ha_25
    have ha_26 : r_7.toInt ≤ v_5.toInt := ha_26
    have ha_27 : (mi 23).toInt + 1 ≤ nfrom_10.toInt := ha_27
    refine x_iastG (pc := 18) (f := (mf 43)) (wf := fun g => (MW cI cJ M mr (upd (upd (upd (upd (upd (upd mi 22 nspot_9) 23 nfrom_10) 24 ntoken_11) 25 nvalue_12) 38 nreadFault_13) 39 nreadPlace_14) (va_up mf 43 g) mg)) E hw15 21 rfl (inbE (a := v_4.toInt) rfl (by omega)) (fun _ => rfl) dX12_readPath_18 (fun g_34 H locs eg_34 hw35 => ?_)
    have hpk_36 : pathsOK g_34 := pathsOK_hi a_paths eg_34 (by omega)
    refine lv_aload_n (pc := 19) E.1 E.2.1 dX12_readPath_19 rfl (lv_at hl3 0 rfl) ?_
    refine x_get (pc := 20) (T := TX12) (N := 70) (ci := 12) (v := .ref (mr 43)) E hw35 inX12 0 43 q_1442 rfl rfl (by decide) rfl rfl dX12_readPath_20 ?_
    refine lv_iload_n (pc := 23) E.1 E.2.1 dX12_readPath_23 rfl (lv_at hl3 1 rfl) ?_
    refine lv_iconst (pc := 24) (v := 0) E.1 E.2.1 dX12_readPath_24 (by decide +kernel) ?_
    refine lv_iadd (pc := 25) E.1 E.2.1 dX12_readPath_25 ?_
    refine lv_topi (fun v_37 ev_37 => ?_)
    have hv_37 : v_37.toInt = z_at.toInt + 0 := by rw [ev_37]; exact addE rfl (by decide +kernel) (by omega)
    refine x_iald (pc := 26) (f := g_34) E hw35 21 rfl (inbE (a := v_37.toInt) rfl (by omega)) dX12_readPath_26 ?_
    refine lv_topi (fun v_38 ev_38 => ?_)
    have hsv_38 : v_38.toInt = r_7.toInt := by rw [ev_38, eg_34, show v_37.toNatClampNeg = v_4.toNatClampNeg from (by have q_0 := idxI (x := v_37) (by omega); have q_1 := idxI (x := v_4) (by omega); omega), pk_us]
    refine lv_iconst (pc := 27) (v := (-1)) E.1 E.2.1 dX12_readPath_27 (by decide +kernel) ?_
    refine lv_icmp_eq (pc := 28) (tgt := 41) E.1 E.2.1 dX12_readPath_28 (by decide) (fun c_39 => absurd c_39 (mneE (a := v_38.toInt) (b := (-1)) rfl (by decide +kernel) (by omega))) (fun _ => ?_)
    refine lv_aload_n (pc := 31) E.1 E.2.1 dX12_readPath_31 rfl (lv_at hl3 0 rfl) ?_
    refine lv_bipush (pc := 32) (v := 17) E.1 E.2.1 dX12_readPath_32 (by decide +kernel) ?_
    refine cm_i (pc := 34) hw35 (rn_M (As := [.int 17]) (rest := []) E hw35 (s_readWordT l D cI cJ _ M mr (upd (upd (upd (upd (upd (upd mi 22 nspot_9) 23 nfrom_10) 24 ntoken_11) 25 nvalue_12) 38 nreadFault_13) 39 nreadPlace_14) (va_up mf 43 g_34) mg 17 hp_16 hp_17 hp_18 h3 hp_19 hp_20 hp_21 h7 a_tape (show (∀ j : Nat, j < 154 → (mf 26) j = w0 j) from lf_words) (show AGN ntoken_11.toInt nvalue_12.toInt nfrom_10.toInt nspot_9.toInt from hp_22)) (gdV q_1710 q_1712 q_63 q_162 q_1713) hdV_X12_readWord ⟨rfl, rfl⟩ ⟨(Nat.le_of_ble_eq_true rfl), (Nat.le_of_ble_eq_true rfl)⟩ ⟨(Nat.le_of_ble_eq_true rfl), (Nat.le_of_ble_eq_true rfl)⟩ 12 rfl rfl rfl rfl hl3.1 rfl (Nat.le_of_ble_eq_true rfl) dX12_readPath_34) (fun r_41 u_40 H1 locs hp hw42 => ?_)
    obtain ⟨nspot_43, nfrom_44, ntoken_45, nvalue_46, nreadFault_47, nreadPlace_48⟩ := u_40
    generalize H1 = H at hw42 ⊢
    have hw49 : WD D A s.heap (MW cI cJ M mr (upd (upd (upd (upd (upd (upd mi 22 nspot_43) 23 nfrom_44) 24 ntoken_45) 25 nvalue_46) 38 nreadFault_47) 39 nreadPlace_48) (va_up mf 43 g_34) mg) H locs := hw42
    obtain ⟨hp_50, hp_51, hp_52, hp_53, hp_54, hp_55, hp_56, hp_57, hp_58⟩ := hp
    have hp_50 : 0 ≤ nfrom_44.toInt := hp_50
    have hp_51 : nfrom_44.toInt ≤ nspot_43.toInt := hp_51
    have hp_52 : nspot_43.toInt ≤ (mi 21).toInt := hp_52
    have hp_53 : 0 ≤ ntoken_45.toInt := hp_53
    have hp_54 : ntoken_45.toInt ≤ 4 := hp_54
    have hp_55 : ntoken_45.toInt ≤ 4 * nspot_43.toInt - 4 * nfrom_44.toInt := hp_55
    have hp_56 : AGN ntoken_45.toInt nvalue_46.toInt nfrom_44.toInt nspot_43.toInt := hp_56
    have hp_57 : (∀ p : Int, TKR (mf 20) (mi 21).toInt p nfrom_10.toInt nspot_9.toInt ntoken_11.toInt nvalue_12.toInt → RX (mf 20) (mi 21).toInt (wordR (mf 20) (mi 21).toInt ((17 : Int32) : Int32).toInt p) (r_41 : Int32).toInt nreadFault_47.toInt nreadPlace_48.toInt nfrom_44.toInt nspot_43.toInt ntoken_45.toInt nvalue_46.toInt) := hp_57
    rcases hp_58 with rfl | ⟨rfl, ha_59⟩
    · skip
      refine lv_iconst (pc := 37) (v := (-1)) E.1 E.2.1 dX12_readPath_37 (by decide +kernel) ?_
      refine lv_icmp_ne (pc := 38) (tgt := 43) E.1 E.2.1 dX12_readPath_38 (by decide) (fun c_60 => absurd (meqE (a := (-1)) (b := (-1)) (by decide +kernel) (by decide +kernel) (by omega)) c_60) (fun _ => ?_)
      refine lv_iconst (pc := 41) (v := (-1)) E.1 E.2.1 dX12_readPath_41 (by decide +kernel) ?_
      exact em_i (w1 := (fun (u : Int32 × Int32 × Int32 × Int32 × Int32 × Int32 × (Nat → Int32)) => (MW cI cJ M mr (upd (upd (upd (upd (upd (upd mi 22 u.1) 23 u.2.1) 24 u.2.2.1) 25 u.2.2.2.1) 38 u.2.2.2.2.1) 39 u.2.2.2.2.2.1) (va_up mf 43 u.2.2.2.2.2.2) mg))) E hr hlk (nspot_43, nfrom_44, ntoken_45, nvalue_46, nreadFault_47, nreadPlace_48, g_34) hw49 ⟨hp_50, hp_51, hp_52, hp_53, hp_54, hp_55, hpk_36, hp_56, (fun h => absurd h (by decide +kernel)), (show (∀ p : Int, TKR (mf 20) (mi 21).toInt p (mi 23).toInt (mi 22).toInt (mi 24).toInt (mi 25).toInt → RX (mf 20) (mi 21).toInt (pathR (mf 20) (mi 21).toInt ((mi 6).toInt - 1) p) ((-1) : Int32).toInt nreadFault_47.toInt nreadPlace_48.toInt nfrom_44.toInt nspot_43.toInt ntoken_45.toInt nvalue_46.toInt) from (fun p hp => by have q0 := hp_23 _ hp; rw [show v_5.toInt = (mi 6).toInt - 1 from by omega] at q0; obtain ⟨y0, f0, -, t0⟩ := RN_get q0 (by omega); have q1 := hp_57 _ t0; obtain ⟨e1, f1, g1, i1⟩ := RX_err q1 (by decide +kernel); simp only [pathR, sndE, f0, f1]; exact ⟨(by decide +kernel), g1, i1⟩)), (Or.inl rfl)⟩ (Nat.le_of_ble_eq_true rfl) (Nat.le_of_ble_eq_true rfl) dX12_readPath_42
    · skip
      have ha_59 : nfrom_10.toInt + 1 ≤ nfrom_44.toInt := ha_59
      refine lv_iconst (pc := 37) (v := (-1)) E.1 E.2.1 dX12_readPath_37 (by decide +kernel) ?_
      refine lv_icmp_ne (pc := 38) (tgt := 43) E.1 E.2.1 dX12_readPath_38 (by decide) (fun _ => ?_) (fun c_61 => absurd c_61 (mneE (a := 0) (b := (-1)) (by decide +kernel) (by decide +kernel) (by omega)))
      refine lv_aload_n (pc := 43) E.1 E.2.1 dX12_readPath_43 rfl (lv_at hl3 0 rfl) ?_
      refine x_get (pc := 44) (T := TX12) (N := 70) (ci := 12) (v := .ref (mr 43)) E hw49 inX12 0 43 q_1442 rfl rfl (by decide) rfl rfl dX12_readPath_44 ?_
      refine lv_iload_n (pc := 47) E.1 E.2.1 dX12_readPath_47 rfl (lv_at hl3 1 rfl) ?_
      refine lv_iconst (pc := 48) (v := 1) E.1 E.2.1 dX12_readPath_48 (by decide +kernel) ?_
      refine lv_iadd (pc := 49) E.1 E.2.1 dX12_readPath_49 ?_
      refine lv_topi (fun v_62 ev_62 => ?_)
      have hv_62 : v_62.toInt = z_at.toInt + 1 := by rw [ev_62]; exact addE rfl (by decide +kernel) (by omega)
      refine lv_aload_n (pc := 50) E.1 E.2.1 dX12_readPath_50 rfl (lv_at hl3 0 rfl) ?_
      refine lv_iconst (pc := 51) (v := 0) E.1 E.2.1 dX12_readPath_51 (by decide +kernel) ?_
      refine lv_aload_n (pc := 52) E.1 E.2.1 dX12_readPath_52 rfl (lv_at hl3 0 rfl) ?_
      refine x_get (pc := 53) (T := TX12) (N := 70) (ci := 12) (v := .int (mi 6)) E hw49 inX12 0 6 q_1405 rfl rfl (by decide) rfl rfl dX12_readPath_53 ?_
      refine lv_iconst (pc := 56) (v := 1) E.1 E.2.1 dX12_readPath_56 (by decide +kernel) ?_
      refine lv_isub (pc := 57) E.1 E.2.1 dX12_readPath_57 ?_
      refine lv_topi (fun v_63 ev_63 => ?_)
      have hv_63 : v_63.toInt = (mi 6).toInt - 1 := by rw [ev_63]; exact subE rfl (by decide +kernel) (by omega)
      refine cm_i (pc := 58) hw49 (rn_M (As := [.int 0, .int v_63]) (rest := [.int v_62, .ref (mr 43)]) E hw49 (s_readNumberT l D cI cJ _ M mr (upd (upd (upd (upd (upd (upd mi 22 nspot_43) 23 nfrom_44) 24 ntoken_45) 25 nvalue_46) 38 nreadFault_47) 39 nreadPlace_48) (va_up mf 43 g_34) mg 0 v_63 hp_50 hp_51 hp_52 h3 hp_53 hp_54 hp_55 h7 a_tape (show (∀ j : Nat, j < 154 → (mf 26) j = w0 j) from lf_words) (show AGN ntoken_45.toInt nvalue_46.toInt nfrom_44.toInt nspot_43.toInt from hp_56)) (gdV q_1706 q_1708 q_62 q_162 q_1709) hdV_X12_readNumber ⟨rfl, rfl⟩ ⟨(Nat.le_of_ble_eq_true rfl), (Nat.le_of_ble_eq_true rfl)⟩ ⟨(Nat.le_of_ble_eq_true rfl), (Nat.le_of_ble_eq_true rfl)⟩ 12 rfl rfl rfl rfl hl3.1 rfl (Nat.le_of_ble_eq_true rfl) dX12_readPath_58) (fun r_65 u_64 H1 locs hp hw66 => ?_)
      obtain ⟨nspot_67, nfrom_68, ntoken_69, nvalue_70, nreadFault_71, nreadPlace_72⟩ := u_64
      generalize H1 = H at hw66 ⊢
      have hw73 : WD D A s.heap (MW cI cJ M mr (upd (upd (upd (upd (upd (upd mi 22 nspot_67) 23 nfrom_68) 24 ntoken_69) 25 nvalue_70) 38 nreadFault_71) 39 nreadPlace_72) (va_up mf 43 g_34) mg) H locs := hw66
      obtain ⟨hp_74, hp_75, hp_76, hp_77, hp_78, hp_79, hp_80, hp_81, hp_82⟩ := hp
      have hp_74 : 0 ≤ nfrom_68.toInt := hp_74
      have hp_75 : nfrom_68.toInt ≤ nspot_67.toInt := hp_75
      have hp_76 : nspot_67.toInt ≤ (mi 21).toInt := hp_76
      have hp_77 : 0 ≤ ntoken_69.toInt := hp_77
      have hp_78 : ntoken_69.toInt ≤ 4 := hp_78
      have hp_79 : ntoken_69.toInt ≤ 4 * nspot_67.toInt - 4 * nfrom_68.toInt := hp_79
      have hp_80 : AGN ntoken_69.toInt nvalue_70.toInt nfrom_68.toInt nspot_67.toInt := hp_80
      have hp_81 : (∀ p : Int, TKR (mf 20) (mi 21).toInt p nfrom_44.toInt nspot_43.toInt ntoken_45.toInt nvalue_46.toInt → RN (mf 20) (mi 21).toInt (numR (mf 20) (mi 21).toInt ((0 : Int32) : Int32).toInt (v_63 : Int32).toInt p) (r_65 : Int32).toInt nreadFault_71.toInt nreadPlace_72.toInt nfrom_68.toInt nspot_67.toInt ntoken_69.toInt nvalue_70.toInt) := hp_81
      rcases hp_82 with rfl | ⟨ha_83, ha_84, ha_85⟩
      · skip
        refine x_iastG (pc := 61) (f := g_34) (wf := fun g => (MW cI cJ M mr (upd (upd (upd (upd (upd (upd mi 22 nspot_67) 23 nfrom_68) 24 ntoken_69) 25 nvalue_70) 38 nreadFault_71) 39 nreadPlace_72) (va_up mf 43 g) mg)) E hw73 21 rfl (inbE (a := v_62.toInt) rfl (by omega)) (fun _ => rfl) dX12_readPath_61 (fun g_86 H locs eg_86 hw87 => ?_)
        have hpk_88 : pathsOK g_86 := pathsOK_hi hpk_36 eg_86 (by omega)
        refine lv_aload_n (pc := 62) E.1 E.2.1 dX12_readPath_62 rfl (lv_at hl3 0 rfl) ?_
        refine x_get (pc := 63) (T := TX12) (N := 70) (ci := 12) (v := .ref (mr 43)) E hw87 inX12 0 43 q_1442 rfl rfl (by decide) rfl rfl dX12_readPath_63 ?_
        refine lv_iload_n (pc := 66) E.1 E.2.1 dX12_readPath_66 rfl (lv_at hl3 1 rfl) ?_
        refine lv_iconst (pc := 67) (v := 1) E.1 E.2.1 dX12_readPath_67 (by decide +kernel) ?_
        refine lv_iadd (pc := 68) E.1 E.2.1 dX12_readPath_68 ?_
        refine lv_topi (fun v_89 ev_89 => ?_)
        have hv_89 : v_89.toInt = z_at.toInt + 1 := by rw [ev_89]; exact addE rfl (by decide +kernel) (by omega)
        refine x_iald (pc := 69) (f := g_86) E hw87 21 rfl (inbE (a := v_89.toInt) rfl (by omega)) dX12_readPath_69 ?_
        refine lv_topi (fun v_90 ev_90 => ?_)
        have hsv_90 : v_90.toInt = ((-1) : Int32).toInt := by rw [ev_90, eg_86, show v_89.toNatClampNeg = v_62.toNatClampNeg from (by have q_0 := idxI (x := v_89) (by omega); have q_1 := idxI (x := v_62) (by omega); omega), pk_us]
        rw [show ((-1) : Int32).toInt = -1 from by decide +kernel] at hsv_90
        refine lv_iconst (pc := 70) (v := (-1)) E.1 E.2.1 dX12_readPath_70 (by decide +kernel) ?_
        refine lv_icmp_eq (pc := 71) (tgt := 84) E.1 E.2.1 dX12_readPath_71 (by decide) (fun _ => ?_) (fun c_91 => absurd (meqE (a := v_90.toInt) (b := (-1)) rfl (by decide +kernel) (by omega)) c_91)
        refine lv_iconst (pc := 84) (v := (-1)) E.1 E.2.1 dX12_readPath_84 (by decide +kernel) ?_
        exact em_i (w1 := (fun (u : Int32 × Int32 × Int32 × Int32 × Int32 × Int32 × (Nat → Int32)) => (MW cI cJ M mr (upd (upd (upd (upd (upd (upd mi 22 u.1) 23 u.2.1) 24 u.2.2.1) 25 u.2.2.2.1) 38 u.2.2.2.2.1) 39 u.2.2.2.2.2.1) (va_up mf 43 u.2.2.2.2.2.2) mg))) E hr hlk (nspot_67, nfrom_68, ntoken_69, nvalue_70, nreadFault_71, nreadPlace_72, g_86) hw87 ⟨hp_74, hp_75, hp_76, hp_77, hp_78, hp_79, hpk_88, hp_80, (fun h => absurd h (by decide +kernel)), (show (∀ p : Int, TKR (mf 20) (mi 21).toInt p (mi 23).toInt (mi 22).toInt (mi 24).toInt (mi 25).toInt → RX (mf 20) (mi 21).toInt (pathR (mf 20) (mi 21).toInt ((mi 6).toInt - 1) p) ((-1) : Int32).toInt nreadFault_71.toInt nreadPlace_72.toInt nfrom_68.toInt nspot_67.toInt ntoken_69.toInt nvalue_70.toInt) from (fun p hp => by have q0 := hp_23 _ hp; rw [show v_5.toInt = (mi 6).toInt - 1 from by omega] at q0; obtain ⟨y0, f0, -, t0⟩ := RN_get q0 (by omega); have q1 := hp_57 _ t0; obtain ⟨y1, f1, t1⟩ := RX_get q1 (show (0 : Int32).toInt ≠ -1 from by decide +kernel); have q2 := hp_81 _ t1; rw [show v_63.toInt = (mi 6).toInt - 1 from by omega] at q2; obtain ⟨e2, f2, g2, i2⟩ := RN_err q2 (by decide +kernel) (by decide +kernel); simp only [pathR, sndE, f0, f1, f2]; exact ⟨(by decide +kernel), g2, i2⟩)), (Or.inl rfl)⟩ (Nat.le_of_ble_eq_true rfl) (Nat.le_of_ble_eq_true rfl) dX12_readPath_85
      · skip
        have ha_83 : (0 : Int32).toInt ≤ r_65.toInt := ha_83
        rw [show (0 : Int32).toInt = 0 from by decide +kernel] at ha_83
        have ha_84 : r_65.toInt ≤ v_63.toInt := ha_84
        have ha_85 : nfrom_44.toInt + 1 ≤ nfrom_68.toInt := ha_85
        refine x_iastG (pc := 61) (f := g_34) (wf := fun g => (MW cI cJ M mr (upd (upd (upd (upd (upd (upd mi 22 nspot_67) 23 nfrom_68) 24 ntoken_69) 25 nvalue_70) 38 nreadFault_71) 39 nreadPlace_72) (va_up mf 43 g) mg)) E hw73 21 rfl (inbE (a := v_62.toInt) rfl (by omega)) (fun _ => rfl) dX12_readPath_61 (fun g_92 H locs eg_92 hw93 => ?_)
        have hpk_94 : pathsOK g_92 := pathsOK_hi hpk_36 eg_92 (by omega)
        refine lv_aload_n (pc := 62) E.1 E.2.1 dX12_readPath_62 rfl (lv_at hl3 0 rfl) ?_
        refine x_get (pc := 63) (T := TX12) (N := 70) (ci := 12) (v := .ref (mr 43)) E hw93 inX12 0 43 q_1442 rfl rfl (by decide) rfl rfl dX12_readPath_63 ?_
        refine lv_iload_n (pc := 66) E.1 E.2.1 dX12_readPath_66 rfl (lv_at hl3 1 rfl) ?_
        refine lv_iconst (pc := 67) (v := 1) E.1 E.2.1 dX12_readPath_67 (by decide +kernel) ?_
        refine lv_iadd (pc := 68) E.1 E.2.1 dX12_readPath_68 ?_
        refine lv_topi (fun v_95 ev_95 => ?_)
        have hv_95 : v_95.toInt = z_at.toInt + 1 := by rw [ev_95]; exact addE rfl (by decide +kernel) (by omega)
        refine x_iald (pc := 69) (f := g_92) E hw93 21 rfl (inbE (a := v_95.toInt) rfl (by omega)) dX12_readPath_69 ?_
        refine lv_topi (fun v_96 ev_96 => ?_)
        have hsv_96 : v_96.toInt = r_65.toInt := by rw [ev_96, eg_92, show v_95.toNatClampNeg = v_62.toNatClampNeg from (by have q_0 := idxI (x := v_95) (by omega); have q_1 := idxI (x := v_62) (by omega); omega), pk_us]
        refine lv_iconst (pc := 70) (v := (-1)) E.1 E.2.1 dX12_readPath_70 (by decide +kernel) ?_
        refine lv_icmp_eq (pc := 71) (tgt := 84) E.1 E.2.1 dX12_readPath_71 (by decide) (fun c_97 => absurd c_97 (mneE (a := v_96.toInt) (b := (-1)) rfl (by decide +kernel) (by omega))) (fun _ => ?_)
        refine lv_aload_n (pc := 74) E.1 E.2.1 dX12_readPath_74 rfl (lv_at hl3 0 rfl) ?_
        refine lv_bipush (pc := 75) (v := 18) E.1 E.2.1 dX12_readPath_75 (by decide +kernel) ?_
        refine cm_i (pc := 77) hw93 (rn_M (As := [.int 18]) (rest := []) E hw93 (s_readWordT l D cI cJ _ M mr (upd (upd (upd (upd (upd (upd mi 22 nspot_67) 23 nfrom_68) 24 ntoken_69) 25 nvalue_70) 38 nreadFault_71) 39 nreadPlace_72) (va_up mf 43 g_92) mg 18 hp_74 hp_75 hp_76 h3 hp_77 hp_78 hp_79 h7 a_tape (show (∀ j : Nat, j < 154 → (mf 26) j = w0 j) from lf_words) (show AGN ntoken_69.toInt nvalue_70.toInt nfrom_68.toInt nspot_67.toInt from hp_80)) (gdV q_1710 q_1712 q_63 q_162 q_1713) hdV_X12_readWord ⟨rfl, rfl⟩ ⟨(Nat.le_of_ble_eq_true rfl), (Nat.le_of_ble_eq_true rfl)⟩ ⟨(Nat.le_of_ble_eq_true rfl), (Nat.le_of_ble_eq_true rfl)⟩ 12 rfl rfl rfl rfl hl3.1 rfl (Nat.le_of_ble_eq_true rfl) dX12_readPath_77) (fun r_99 u_98 H1 locs hp hw100 => ?_)
        obtain ⟨nspot_101, nfrom_102, ntoken_103, nvalue_104, nreadFault_105, nreadPlace_106⟩ := u_98
        generalize H1 = H at hw100 ⊢
        have hw107 : WD D A s.heap (MW cI cJ M mr (upd (upd (upd (upd (upd (upd mi 22 nspot_101) 23 nfrom_102) 24 ntoken_103) 25 nvalue_104) 38 nreadFault_105) 39 nreadPlace_106) (va_up mf 43 g_92) mg) H locs := hw100
        obtain ⟨hp_108, hp_109, hp_110, hp_111, hp_112, hp_113, hp_114, hp_115, hp_116⟩ := hp
        have hp_108 : 0 ≤ nfrom_102.toInt := hp_108
        have hp_109 : nfrom_102.toInt ≤ nspot_101.toInt := hp_109
        have hp_110 : nspot_101.toInt ≤ (mi 21).toInt := hp_110
        have hp_111 : 0 ≤ ntoken_103.toInt := hp_111
        have hp_112 : ntoken_103.toInt ≤ 4 := hp_112
        have hp_113 : ntoken_103.toInt ≤ 4 * nspot_101.toInt - 4 * nfrom_102.toInt := hp_113
        have hp_114 : AGN ntoken_103.toInt nvalue_104.toInt nfrom_102.toInt nspot_101.toInt := hp_114
        have hp_115 : (∀ p : Int, TKR (mf 20) (mi 21).toInt p nfrom_68.toInt nspot_67.toInt ntoken_69.toInt nvalue_70.toInt → RX (mf 20) (mi 21).toInt (wordR (mf 20) (mi 21).toInt ((18 : Int32) : Int32).toInt p) (r_99 : Int32).toInt nreadFault_105.toInt nreadPlace_106.toInt nfrom_102.toInt nspot_101.toInt ntoken_103.toInt nvalue_104.toInt) := hp_115
        rcases hp_116 with rfl | ⟨rfl, ha_117⟩
        · skip
          refine lv_iconst (pc := 80) (v := (-1)) E.1 E.2.1 dX12_readPath_80 (by decide +kernel) ?_
          refine lv_icmp_ne (pc := 81) (tgt := 86) E.1 E.2.1 dX12_readPath_81 (by decide) (fun c_118 => absurd (meqE (a := (-1)) (b := (-1)) (by decide +kernel) (by decide +kernel) (by omega)) c_118) (fun _ => ?_)
          refine lv_iconst (pc := 84) (v := (-1)) E.1 E.2.1 dX12_readPath_84 (by decide +kernel) ?_
          exact em_i (w1 := (fun (u : Int32 × Int32 × Int32 × Int32 × Int32 × Int32 × (Nat → Int32)) => (MW cI cJ M mr (upd (upd (upd (upd (upd (upd mi 22 u.1) 23 u.2.1) 24 u.2.2.1) 25 u.2.2.2.1) 38 u.2.2.2.2.1) 39 u.2.2.2.2.2.1) (va_up mf 43 u.2.2.2.2.2.2) mg))) E hr hlk (nspot_101, nfrom_102, ntoken_103, nvalue_104, nreadFault_105, nreadPlace_106, g_92) hw107 ⟨hp_108, hp_109, hp_110, hp_111, hp_112, hp_113, hpk_94, hp_114, (fun h => absurd h (by decide +kernel)), (show (∀ p : Int, TKR (mf 20) (mi 21).toInt p (mi 23).toInt (mi 22).toInt (mi 24).toInt (mi 25).toInt → RX (mf 20) (mi 21).toInt (pathR (mf 20) (mi 21).toInt ((mi 6).toInt - 1) p) ((-1) : Int32).toInt nreadFault_105.toInt nreadPlace_106.toInt nfrom_102.toInt nspot_101.toInt ntoken_103.toInt nvalue_104.toInt) from (fun p hp => by have q0 := hp_23 _ hp; rw [show v_5.toInt = (mi 6).toInt - 1 from by omega] at q0; obtain ⟨y0, f0, -, t0⟩ := RN_get q0 (by omega); have q1 := hp_57 _ t0; obtain ⟨y1, f1, t1⟩ := RX_get q1 (show (0 : Int32).toInt ≠ -1 from by decide +kernel); have q2 := hp_81 _ t1; rw [show v_63.toInt = (mi 6).toInt - 1 from by omega] at q2; obtain ⟨y2, f2, -, t2⟩ := RN_get q2 (by omega); have q3 := hp_115 _ t2; obtain ⟨e3, f3, g3, i3⟩ := RX_err q3 (by decide +kernel); simp only [pathR, sndE, f0, f1, f2, f3]; exact ⟨(by decide +kernel), g3, i3⟩)), (Or.inl rfl)⟩ (Nat.le_of_ble_eq_true rfl) (Nat.le_of_ble_eq_true rfl) dX12_readPath_85
        · skip
          have ha_117 : nfrom_68.toInt + 1 ≤ nfrom_102.toInt := ha_117
          refine lv_iconst (pc := 80) (v := (-1)) E.1 E.2.1 dX12_readPath_80 (by decide +kernel) ?_
          refine lv_icmp_ne (pc := 81) (tgt := 86) E.1 E.2.1 dX12_readPath_81 (by decide) (fun _ => ?_) (fun c_119 => absurd c_119 (mneE (a := 0) (b := (-1)) (by decide +kernel) (by decide +kernel) (by omega)))
          refine lv_aload_n (pc := 86) E.1 E.2.1 dX12_readPath_86 rfl (lv_at hl3 0 rfl) ?_
          refine x_get (pc := 87) (T := TX12) (N := 70) (ci := 12) (v := .ref (mr 43)) E hw107 inX12 0 43 q_1442 rfl rfl (by decide) rfl rfl dX12_readPath_87 ?_
          refine lv_iload_n (pc := 90) E.1 E.2.1 dX12_readPath_90 rfl (lv_at hl3 1 rfl) ?_
          refine lv_iconst (pc := 91) (v := 2) E.1 E.2.1 dX12_readPath_91 (by decide +kernel) ?_
          refine lv_iadd (pc := 92) E.1 E.2.1 dX12_readPath_92 ?_
          refine lv_topi (fun v_120 ev_120 => ?_)
          have hv_120 : v_120.toInt = z_at.toInt + 2 := by rw [ev_120]; exact addE rfl (by decide +kernel) (by omega)
          refine lv_aload_n (pc := 93) E.1 E.2.1 dX12_readPath_93 rfl (lv_at hl3 0 rfl) ?_
          refine lv_iconst (pc := 94) (v := 1) E.1 E.2.1 dX12_readPath_94 (by decide +kernel) ?_
          refine lv_bipush (pc := 95) (v := 99) E.1 E.2.1 dX12_readPath_95 (by decide +kernel) ?_
          refine cm_i (pc := 97) hw107 (rn_M (As := [.int 1, .int 99]) (rest := [.int v_120, .ref (mr 43)]) E hw107 (s_readNumberT l D cI cJ _ M mr (upd (upd (upd (upd (upd (upd mi 22 nspot_101) 23 nfrom_102) 24 ntoken_103) 25 nvalue_104) 38 nreadFault_105) 39 nreadPlace_106) (va_up mf 43 g_92) mg 1 99 hp_108 hp_109 hp_110 h3 hp_111 hp_112 hp_113 h7 a_tape (show (∀ j : Nat, j < 154 → (mf 26) j = w0 j) from lf_words) (show AGN ntoken_103.toInt nvalue_104.toInt nfrom_102.toInt nspot_101.toInt from hp_114)) (gdV q_1706 q_1708 q_62 q_162 q_1709) hdV_X12_readNumber ⟨rfl, rfl⟩ ⟨(Nat.le_of_ble_eq_true rfl), (Nat.le_of_ble_eq_true rfl)⟩ ⟨(Nat.le_of_ble_eq_true rfl), (Nat.le_of_ble_eq_true rfl)⟩ 12 rfl rfl rfl rfl hl3.1 rfl (Nat.le_of_ble_eq_true rfl) dX12_readPath_97) (fun r_122 u_121 H1 locs hp hw123 => ?_)
          obtain ⟨nspot_124, nfrom_125, ntoken_126, nvalue_127, nreadFault_128, nreadPlace_129⟩ := u_121
          generalize H1 = H at hw123 ⊢
          have hw130 : WD D A s.heap (MW cI cJ M mr (upd (upd (upd (upd (upd (upd mi 22 nspot_124) 23 nfrom_125) 24 ntoken_126) 25 nvalue_127) 38 nreadFault_128) 39 nreadPlace_129) (va_up mf 43 g_92) mg) H locs := hw123
          obtain ⟨hp_131, hp_132, hp_133, hp_134, hp_135, hp_136, hp_137, hp_138, hp_139⟩ := hp
          have hp_131 : 0 ≤ nfrom_125.toInt := hp_131
          have hp_132 : nfrom_125.toInt ≤ nspot_124.toInt := hp_132
          have hp_133 : nspot_124.toInt ≤ (mi 21).toInt := hp_133
          have hp_134 : 0 ≤ ntoken_126.toInt := hp_134
          have hp_135 : ntoken_126.toInt ≤ 4 := hp_135
          have hp_136 : ntoken_126.toInt ≤ 4 * nspot_124.toInt - 4 * nfrom_125.toInt := hp_136
          have hp_137 : AGN ntoken_126.toInt nvalue_127.toInt nfrom_125.toInt nspot_124.toInt := hp_137
          have hp_138 : (∀ p : Int, TKR (mf 20) (mi 21).toInt p nfrom_102.toInt nspot_101.toInt ntoken_103.toInt nvalue_104.toInt → RN (mf 20) (mi 21).toInt (numR (mf 20) (mi 21).toInt ((1 : Int32) : Int32).toInt ((99 : Int32) : Int32).toInt p) (r_122 : Int32).toInt nreadFault_128.toInt nreadPlace_129.toInt nfrom_125.toInt nspot_124.toInt ntoken_126.toInt nvalue_127.toInt) := hp_138
          rcases hp_139 with rfl | ⟨ha_140, ha_141, ha_142⟩
          · skip
            refine x_iastG (pc := 100) (f := g_92) (wf := fun g => (MW cI cJ M mr (upd (upd (upd (upd (upd (upd mi 22 nspot_124) 23 nfrom_125) 24 ntoken_126) 25 nvalue_127) 38 nreadFault_128) 39 nreadPlace_129) (va_up mf 43 g) mg)) E hw130 21 rfl (inbE (a := v_120.toInt) rfl (by omega)) (fun _ => rfl) dX12_readPath_100 (fun g_143 H locs eg_143 hw144 => ?_)
            have hpk_145 : pathsOK g_143 := pathsOK_hi hpk_94 eg_143 (by omega)
            refine lv_aload_n (pc := 101) E.1 E.2.1 dX12_readPath_101 rfl (lv_at hl3 0 rfl) ?_
            refine x_get (pc := 102) (T := TX12) (N := 70) (ci := 12) (v := .ref (mr 43)) E hw144 inX12 0 43 q_1442 rfl rfl (by decide) rfl rfl dX12_readPath_102 ?_
            refine lv_iload_n (pc := 105) E.1 E.2.1 dX12_readPath_105 rfl (lv_at hl3 1 rfl) ?_
            refine lv_iconst (pc := 106) (v := 2) E.1 E.2.1 dX12_readPath_106 (by decide +kernel) ?_
            refine lv_iadd (pc := 107) E.1 E.2.1 dX12_readPath_107 ?_
            refine lv_topi (fun v_146 ev_146 => ?_)
            have hv_146 : v_146.toInt = z_at.toInt + 2 := by rw [ev_146]; exact addE rfl (by decide +kernel) (by omega)
            refine x_iald (pc := 108) (f := g_143) E hw144 21 rfl (inbE (a := v_146.toInt) rfl (by omega)) dX12_readPath_108 ?_
            refine lv_topi (fun v_147 ev_147 => ?_)
            have hsv_147 : v_147.toInt = ((-1) : Int32).toInt := by rw [ev_147, eg_143, show v_146.toNatClampNeg = v_120.toNatClampNeg from (by have q_0 := idxI (x := v_146) (by omega); have q_1 := idxI (x := v_120) (by omega); omega), pk_us]
            rw [show ((-1) : Int32).toInt = -1 from by decide +kernel] at hsv_147
            refine lv_iconst (pc := 109) (v := (-1)) E.1 E.2.1 dX12_readPath_109 (by decide +kernel) ?_
            refine lv_icmp_ne (pc := 110) (tgt := 115) E.1 E.2.1 dX12_readPath_110 (by decide) (fun c_148 => absurd (meqE (a := v_147.toInt) (b := (-1)) rfl (by decide +kernel) (by omega)) c_148) (fun _ => ?_)
            refine lv_iconst (pc := 113) (v := (-1)) E.1 E.2.1 dX12_readPath_113 (by decide +kernel) ?_
            exact em_i (w1 := (fun (u : Int32 × Int32 × Int32 × Int32 × Int32 × Int32 × (Nat → Int32)) => (MW cI cJ M mr (upd (upd (upd (upd (upd (upd mi 22 u.1) 23 u.2.1) 24 u.2.2.1) 25 u.2.2.2.1) 38 u.2.2.2.2.1) 39 u.2.2.2.2.2.1) (va_up mf 43 u.2.2.2.2.2.2) mg))) E hr hlk (nspot_124, nfrom_125, ntoken_126, nvalue_127, nreadFault_128, nreadPlace_129, g_143) hw144 ⟨hp_131, hp_132, hp_133, hp_134, hp_135, hp_136, hpk_145, hp_137, (fun h => absurd h (by decide +kernel)), (show (∀ p : Int, TKR (mf 20) (mi 21).toInt p (mi 23).toInt (mi 22).toInt (mi 24).toInt (mi 25).toInt → RX (mf 20) (mi 21).toInt (pathR (mf 20) (mi 21).toInt ((mi 6).toInt - 1) p) ((-1) : Int32).toInt nreadFault_128.toInt nreadPlace_129.toInt nfrom_125.toInt nspot_124.toInt ntoken_126.toInt nvalue_127.toInt) from (fun p hp => by have q0 := hp_23 _ hp; rw [show v_5.toInt = (mi 6).toInt - 1 from by omega] at q0; obtain ⟨y0, f0, -, t0⟩ := RN_get q0 (by omega); have q1 := hp_57 _ t0; obtain ⟨y1, f1, t1⟩ := RX_get q1 (show (0 : Int32).toInt ≠ -1 from by decide +kernel); have q2 := hp_81 _ t1; rw [show v_63.toInt = (mi 6).toInt - 1 from by omega] at q2; obtain ⟨y2, f2, -, t2⟩ := RN_get q2 (by omega); have q3 := hp_115 _ t2; obtain ⟨y3, f3, t3⟩ := RX_get q3 (show (0 : Int32).toInt ≠ -1 from by decide +kernel); have q4 := hp_138 _ t3; obtain ⟨e4, f4, g4, i4⟩ := RN_err q4 (by decide +kernel) (by decide +kernel); simp only [pathR, sndE, f0, f1, f2, f3, f4]; exact ⟨(by decide +kernel), g4, i4⟩)), (Or.inl rfl)⟩ (Nat.le_of_ble_eq_true rfl) (Nat.le_of_ble_eq_true rfl) dX12_readPath_114
          · skip
            have ha_140 : (1 : Int32).toInt ≤ r_122.toInt := ha_140
            rw [show (1 : Int32).toInt = 1 from by decide +kernel] at ha_140
            have ha_141 : r_122.toInt ≤ (99 : Int32).toInt := ha_141
            rw [show (99 : Int32).toInt = 99 from by decide +kernel] at ha_141
            have ha_142 : nfrom_102.toInt + 1 ≤ nfrom_125.toInt := ha_142
            refine x_iastG (pc := 100) (f := g_92) (wf := fun g => (MW cI cJ M mr (upd (upd (upd (upd (upd (upd mi 22 nspot_124) 23 nfrom_125) 24 ntoken_126) 25 nvalue_127) 38 nreadFault_128) 39 nreadPlace_129) (va_up mf 43 g) mg)) E hw130 21 rfl (inbE (a := v_120.toInt) rfl (by omega)) (fun _ => rfl) dX12_readPath_100 (fun g_149 H locs eg_149 hw150 => ?_)
            have hpk_151 : pathsOK g_149 := pathsOK_hi hpk_94 eg_149 (by omega)
            refine lv_aload_n (pc := 101) E.1 E.2.1 dX12_readPath_101 rfl (lv_at hl3 0 rfl) ?_
            refine x_get (pc := 102) (T := TX12) (N := 70) (ci := 12) (v := .ref (mr 43)) E hw150 inX12 0 43 q_1442 rfl rfl (by decide) rfl rfl dX12_readPath_102 ?_
            refine lv_iload_n (pc := 105) E.1 E.2.1 dX12_readPath_105 rfl (lv_at hl3 1 rfl) ?_
            refine lv_iconst (pc := 106) (v := 2) E.1 E.2.1 dX12_readPath_106 (by decide +kernel) ?_
            refine lv_iadd (pc := 107) E.1 E.2.1 dX12_readPath_107 ?_
            refine lv_topi (fun v_152 ev_152 => ?_)
            have hv_152 : v_152.toInt = z_at.toInt + 2 := by rw [ev_152]; exact addE rfl (by decide +kernel) (by omega)
            refine x_iald (pc := 108) (f := g_149) E hw150 21 rfl (inbE (a := v_152.toInt) rfl (by omega)) dX12_readPath_108 ?_
            refine lv_topi (fun v_153 ev_153 => ?_)
            have hsv_153 : v_153.toInt = r_122.toInt := by rw [ev_153, eg_149, show v_152.toNatClampNeg = v_120.toNatClampNeg from (by have q_0 := idxI (x := v_152) (by omega); have q_1 := idxI (x := v_120) (by omega); omega), pk_us]
            refine lv_iconst (pc := 109) (v := (-1)) E.1 E.2.1 dX12_readPath_109 (by decide +kernel) ?_
            refine lv_icmp_ne (pc := 110) (tgt := 115) E.1 E.2.1 dX12_readPath_110 (by decide) (fun _ => ?_) (fun c_154 => absurd c_154 (mneE (a := v_153.toInt) (b := (-1)) rfl (by decide +kernel) (by omega)))
            refine lv_aload_n (pc := 115) E.1 E.2.1 dX12_readPath_115 rfl (lv_at hl3 0 rfl) ?_
            refine x_get (pc := 116) (T := TX12) (N := 70) (ci := 12) (v := .ref (mr 43)) E hw150 inX12 0 43 q_1442 rfl rfl (by decide) rfl rfl dX12_readPath_116 ?_
            refine lv_iload_n (pc := 119) E.1 E.2.1 dX12_readPath_119 rfl (lv_at hl3 1 rfl) ?_
            refine lv_iconst (pc := 120) (v := 3) E.1 E.2.1 dX12_readPath_120 (by decide +kernel) ?_
            refine lv_iadd (pc := 121) E.1 E.2.1 dX12_readPath_121 ?_
            refine lv_topi (fun v_155 ev_155 => ?_)
            have hv_155 : v_155.toInt = z_at.toInt + 3 := by rw [ev_155]; exact addE rfl (by decide +kernel) (by omega)
            refine lv_bipush (pc := 122) (v := 9) E.1 E.2.1 dX12_readPath_122 (by decide +kernel) ?_
            refine x_iastG (pc := 124) (f := g_149) (wf := fun g => (MW cI cJ M mr (upd (upd (upd (upd (upd (upd mi 22 nspot_124) 23 nfrom_125) 24 ntoken_126) 25 nvalue_127) 38 nreadFault_128) 39 nreadPlace_129) (va_up mf 43 g) mg)) E hw150 21 rfl (inbE (a := v_155.toInt) rfl (by omega)) (fun _ => rfl) dX12_readPath_124 (fun g_156 H locs eg_156 hw157 => ?_)
            have hpk_158 : pathsOK g_156 := pathsOK_hi hpk_151 eg_156 (by omega)
            refine lv_aload_n (pc := 125) E.1 E.2.1 dX12_readPath_125 rfl (lv_at hl3 0 rfl) ?_
            refine lv_bipush (pc := 126) (v := 19) E.1 E.2.1 dX12_readPath_126 (by decide +kernel) ?_
            refine cm_i (pc := 128) hw157 (rn_M (As := [.int 19]) (rest := []) E hw157 (s_isWordT l D cI cJ _ M mr (upd (upd (upd (upd (upd (upd mi 22 nspot_124) 23 nfrom_125) 24 ntoken_126) 25 nvalue_127) 38 nreadFault_128) 39 nreadPlace_129) (va_up mf 43 g_156) mg 19) (gdV q_1694 q_1696 q_59 q_162 q_1697) hdV_X12_isWord ⟨rfl, rfl⟩ ⟨(Nat.le_of_ble_eq_true rfl), (Nat.le_of_ble_eq_true rfl)⟩ ⟨(Nat.le_of_ble_eq_true rfl), (Nat.le_of_ble_eq_true rfl)⟩ 12 rfl rfl rfl rfl hl3.1 rfl (Nat.le_of_ble_eq_true rfl) dX12_readPath_128) (fun r_160 u_159 H1 locs hp hw161 => ?_)
            generalize H1 = H at hw161 ⊢
            have hw162 : WD D A s.heap (MW cI cJ M mr (upd (upd (upd (upd (upd (upd mi 22 nspot_124) 23 nfrom_125) 24 ntoken_126) 25 nvalue_127) 38 nreadFault_128) 39 nreadPlace_129) (va_up mf 43 g_156) mg) H locs := hw161
            have hp_163 := hp
            rcases hp_163 with ⟨rfl, ha_164, ha_165⟩ | ⟨rfl, ha_166⟩ | ⟨rfl, ha_167⟩
            · skip
              have ha_164 : ntoken_126.toInt = 2 := ha_164
              have ha_165 : nvalue_127.toInt = (19 : Int32).toInt := ha_165
              rw [show (19 : Int32).toInt = 19 from by decide +kernel] at ha_165
              refine lv_if_eq (pc := 131) (tgt := 167) E.1 E.2.1 dX12_readPath_131 (by decide) (fun c_168 => absurd c_168 (mneE (a := 1) (b := 0) (by decide +kernel) (by decide +kernel) (by omega))) (fun _ => ?_)
              refine lv_aload_n (pc := 134) E.1 E.2.1 dX12_readPath_134 rfl (lv_at hl3 0 rfl) ?_
              refine cm_v (pc := 135) hw162 (rn_M (As := []) (rest := []) E hw162 (s_readsT l D cI cJ _ M mr (upd (upd (upd (upd (upd (upd mi 22 nspot_124) 23 nfrom_125) 24 ntoken_126) 25 nvalue_127) 38 nreadFault_128) 39 nreadPlace_129) (va_up mf 43 g_156) mg (by show 0 ≤ nspot_124.toInt; omega) hp_133 h3 h7 a_tape (show (∀ j : Nat, j < 154 → (mf 26) j = w0 j) from lf_words)) (gdV q_1666 q_1668 q_52 q_162 q_1669) hdV_X12_reads ⟨rfl, rfl⟩ ⟨(Nat.le_of_ble_eq_true rfl), (Nat.le_of_ble_eq_true rfl)⟩ ⟨(Nat.le_of_ble_eq_true rfl), (Nat.le_of_ble_eq_true rfl)⟩ 12 rfl rfl rfl rfl hl3.1 rfl (Nat.le_of_ble_eq_true rfl) dX12_readPath_135) (fun u_169 H1 locs hp hw171 => ?_)
              obtain ⟨nspot_172, nfrom_173, ntoken_174, nvalue_175⟩ := u_169
              generalize H1 = H at hw171 ⊢
              have hw176 : WD D A s.heap (MW cI cJ M mr (upd (upd (upd (upd (upd (upd mi 22 nspot_172) 23 nfrom_173) 24 ntoken_174) 25 nvalue_175) 38 nreadFault_128) 39 nreadPlace_129) (va_up mf 43 g_156) mg) H locs := hw171
              obtain ⟨hp_177, hp_178, hp_179, hp_180, hp_181, hp_182, hp_183, hp_184, hp_185⟩ := hp
              have hp_177 : 0 ≤ nfrom_173.toInt := hp_177
              have hp_178 : nfrom_173.toInt ≤ nspot_172.toInt := hp_178
              have hp_179 : nspot_172.toInt ≤ (mi 21).toInt := hp_179
              have hp_180 : 0 ≤ ntoken_174.toInt := hp_180
              have hp_181 : ntoken_174.toInt ≤ 4 := hp_181
              have hp_182 : ntoken_174.toInt ≤ 4 * nspot_172.toInt - 4 * nfrom_173.toInt := hp_182
              have hp_183 : nspot_124.toInt ≤ nfrom_173.toInt := hp_183
              have hp_184 : AGN ntoken_174.toInt nvalue_175.toInt nfrom_173.toInt nspot_172.toInt := hp_184
              have hp_185 : TKR (mf 20) (mi 21).toInt nspot_124.toInt nfrom_173.toInt nspot_172.toInt ntoken_174.toInt nvalue_175.toInt := hp_185
              refine lv_aload_n (pc := 138) E.1 E.2.1 dX12_readPath_138 rfl (lv_at hl3 0 rfl) ?_
              refine x_get (pc := 139) (T := TX12) (N := 70) (ci := 12) (v := .ref (mr 43)) E hw176 inX12 0 43 q_1442 rfl rfl (by decide) rfl rfl dX12_readPath_139 ?_
              refine lv_iload_n (pc := 142) E.1 E.2.1 dX12_readPath_142 rfl (lv_at hl3 1 rfl) ?_
              refine lv_iconst (pc := 143) (v := 3) E.1 E.2.1 dX12_readPath_143 (by decide +kernel) ?_
              refine lv_iadd (pc := 144) E.1 E.2.1 dX12_readPath_144 ?_
              refine lv_topi (fun v_186 ev_186 => ?_)
              have hv_186 : v_186.toInt = z_at.toInt + 3 := by rw [ev_186]; exact addE rfl (by decide +kernel) (by omega)
              refine lv_aload_n (pc := 145) E.1 E.2.1 dX12_readPath_145 rfl (lv_at hl3 0 rfl) ?_
              refine lv_iconst (pc := 146) (v := 0) E.1 E.2.1 dX12_readPath_146 (by decide +kernel) ?_
              refine lv_bipush (pc := 147) (v := 9) E.1 E.2.1 dX12_readPath_147 (by decide +kernel) ?_
              refine cm_i (pc := 149) hw176 (rn_M (As := [.int 0, .int 9]) (rest := [.int v_186, .ref (mr 43)]) E hw176 (s_readNumberT l D cI cJ _ M mr (upd (upd (upd (upd (upd (upd mi 22 nspot_172) 23 nfrom_173) 24 ntoken_174) 25 nvalue_175) 38 nreadFault_128) 39 nreadPlace_129) (va_up mf 43 g_156) mg 0 9 hp_177 hp_178 hp_179 h3 hp_180 hp_181 hp_182 h7 a_tape (show (∀ j : Nat, j < 154 → (mf 26) j = w0 j) from lf_words) (show AGN ntoken_174.toInt nvalue_175.toInt nfrom_173.toInt nspot_172.toInt from hp_184)) (gdV q_1706 q_1708 q_62 q_162 q_1709) hdV_X12_readNumber ⟨rfl, rfl⟩ ⟨(Nat.le_of_ble_eq_true rfl), (Nat.le_of_ble_eq_true rfl)⟩ ⟨(Nat.le_of_ble_eq_true rfl), (Nat.le_of_ble_eq_true rfl)⟩ 12 rfl rfl rfl rfl hl3.1 rfl (Nat.le_of_ble_eq_true rfl) dX12_readPath_149) (fun r_188 u_187 H1 locs hp hw189 => ?_)
              obtain ⟨nspot_190, nfrom_191, ntoken_192, nvalue_193, nreadFault_194, nreadPlace_195⟩ := u_187
              generalize H1 = H at hw189 ⊢
              have hw196 : WD D A s.heap (MW cI cJ M mr (upd (upd (upd (upd (upd (upd mi 22 nspot_190) 23 nfrom_191) 24 ntoken_192) 25 nvalue_193) 38 nreadFault_194) 39 nreadPlace_195) (va_up mf 43 g_156) mg) H locs := hw189
              obtain ⟨hp_197, hp_198, hp_199, hp_200, hp_201, hp_202, hp_203, hp_204, hp_205⟩ := hp
              have hp_197 : 0 ≤ nfrom_191.toInt := hp_197
              have hp_198 : nfrom_191.toInt ≤ nspot_190.toInt := hp_198
              have hp_199 : nspot_190.toInt ≤ (mi 21).toInt := hp_199
              have hp_200 : 0 ≤ ntoken_192.toInt := hp_200
              have hp_201 : ntoken_192.toInt ≤ 4 := hp_201
              have hp_202 : ntoken_192.toInt ≤ 4 * nspot_190.toInt - 4 * nfrom_191.toInt := hp_202
              have hp_203 : AGN ntoken_192.toInt nvalue_193.toInt nfrom_191.toInt nspot_190.toInt := hp_203
              have hp_204 : (∀ p : Int, TKR (mf 20) (mi 21).toInt p nfrom_173.toInt nspot_172.toInt ntoken_174.toInt nvalue_175.toInt → RN (mf 20) (mi 21).toInt (numR (mf 20) (mi 21).toInt ((0 : Int32) : Int32).toInt ((9 : Int32) : Int32).toInt p) (r_188 : Int32).toInt nreadFault_194.toInt nreadPlace_195.toInt nfrom_191.toInt nspot_190.toInt ntoken_192.toInt nvalue_193.toInt) := hp_204
              rcases hp_205 with rfl | ⟨ha_206, ha_207, ha_208⟩
              · skip
                refine x_iastG (pc := 152) (f := g_156) (wf := fun g => (MW cI cJ M mr (upd (upd (upd (upd (upd (upd mi 22 nspot_190) 23 nfrom_191) 24 ntoken_192) 25 nvalue_193) 38 nreadFault_194) 39 nreadPlace_195) (va_up mf 43 g) mg)) E hw196 21 rfl (inbE (a := v_186.toInt) rfl (by omega)) (fun _ => rfl) dX12_readPath_152 (fun g_209 H locs eg_209 hw210 => ?_)
                have hpk_211 : pathsOK g_209 := pathsOK_hi hpk_158 eg_209 (by omega)
                refine lv_aload_n (pc := 153) E.1 E.2.1 dX12_readPath_153 rfl (lv_at hl3 0 rfl) ?_
                refine x_get (pc := 154) (T := TX12) (N := 70) (ci := 12) (v := .ref (mr 43)) E hw210 inX12 0 43 q_1442 rfl rfl (by decide) rfl rfl dX12_readPath_154 ?_
                refine lv_iload_n (pc := 157) E.1 E.2.1 dX12_readPath_157 rfl (lv_at hl3 1 rfl) ?_
                refine lv_iconst (pc := 158) (v := 3) E.1 E.2.1 dX12_readPath_158 (by decide +kernel) ?_
                refine lv_iadd (pc := 159) E.1 E.2.1 dX12_readPath_159 ?_
                refine lv_topi (fun v_212 ev_212 => ?_)
                have hv_212 : v_212.toInt = z_at.toInt + 3 := by rw [ev_212]; exact addE rfl (by decide +kernel) (by omega)
                refine x_iald (pc := 160) (f := g_209) E hw210 21 rfl (inbE (a := v_212.toInt) rfl (by omega)) dX12_readPath_160 ?_
                refine lv_topi (fun v_213 ev_213 => ?_)
                have hsv_213 : v_213.toInt = ((-1) : Int32).toInt := by rw [ev_213, eg_209, show v_212.toNatClampNeg = v_186.toNatClampNeg from (by have q_0 := idxI (x := v_212) (by omega); have q_1 := idxI (x := v_186) (by omega); omega), pk_us]
                rw [show ((-1) : Int32).toInt = -1 from by decide +kernel] at hsv_213
                refine lv_iconst (pc := 161) (v := (-1)) E.1 E.2.1 dX12_readPath_161 (by decide +kernel) ?_
                refine lv_icmp_ne (pc := 162) (tgt := 167) E.1 E.2.1 dX12_readPath_162 (by decide) (fun c_214 => absurd (meqE (a := v_213.toInt) (b := (-1)) rfl (by decide +kernel) (by omega)) c_214) (fun _ => ?_)
                refine lv_iconst (pc := 165) (v := (-1)) E.1 E.2.1 dX12_readPath_165 (by decide +kernel) ?_
                exact em_i (w1 := (fun (u : Int32 × Int32 × Int32 × Int32 × Int32 × Int32 × (Nat → Int32)) => (MW cI cJ M mr (upd (upd (upd (upd (upd (upd mi 22 u.1) 23 u.2.1) 24 u.2.2.1) 25 u.2.2.2.1) 38 u.2.2.2.2.1) 39 u.2.2.2.2.2.1) (va_up mf 43 u.2.2.2.2.2.2) mg))) E hr hlk (nspot_190, nfrom_191, ntoken_192, nvalue_193, nreadFault_194, nreadPlace_195, g_209) hw210 ⟨hp_197, hp_198, hp_199, hp_200, hp_201, hp_202, hpk_211, hp_203, (fun h => absurd h (by decide +kernel)), (show (∀ p : Int, TKR (mf 20) (mi 21).toInt p (mi 23).toInt (mi 22).toInt (mi 24).toInt (mi 25).toInt → RX (mf 20) (mi 21).toInt (pathR (mf 20) (mi 21).toInt ((mi 6).toInt - 1) p) ((-1) : Int32).toInt nreadFault_194.toInt nreadPlace_195.toInt nfrom_191.toInt nspot_190.toInt ntoken_192.toInt nvalue_193.toInt) from (fun p hp => by have q0 := hp_23 _ hp; rw [show v_5.toInt = (mi 6).toInt - 1 from by omega] at q0; obtain ⟨y0, f0, -, t0⟩ := RN_get q0 (by omega); have q1 := hp_57 _ t0; obtain ⟨y1, f1, t1⟩ := RX_get q1 (show (0 : Int32).toInt ≠ -1 from by decide +kernel); have q2 := hp_81 _ t1; rw [show v_63.toInt = (mi 6).toInt - 1 from by omega] at q2; obtain ⟨y2, f2, -, t2⟩ := RN_get q2 (by omega); have q3 := hp_115 _ t2; obtain ⟨y3, f3, t3⟩ := RX_get q3 (show (0 : Int32).toInt ≠ -1 from by decide +kernel); have q4 := hp_138 _ t3; obtain ⟨y4, f4, -, t4⟩ := RN_get q4 (by omega); have eo : optR (mf 20) (mi 21).toInt 19 (0 : Int32).toInt (9 : Int32).toInt y4.2 = _ := opt_yes t4 (by omega) (by omega); have q5 := hp_204 _ hp_185; obtain ⟨e5, f5, g5, i5⟩ := RN_err q5 (by decide +kernel) (by decide +kernel); simp only [pathR, sndE, f0, f1, f2, f3, f4, eo, f5]; exact ⟨(by decide +kernel), g5, i5⟩)), (Or.inl rfl)⟩ (Nat.le_of_ble_eq_true rfl) (Nat.le_of_ble_eq_true rfl) dX12_readPath_166
              · skip
                have ha_206 : (0 : Int32).toInt ≤ r_188.toInt := ha_206
                rw [show (0 : Int32).toInt = 0 from by decide +kernel] at ha_206
                have ha_207 : r_188.toInt ≤ (9 : Int32).toInt := ha_207
                rw [show (9 : Int32).toInt = 9 from by decide +kernel] at ha_207
                have ha_208 : nfrom_173.toInt + 1 ≤ nfrom_191.toInt := ha_208
                refine x_iastG (pc := 152) (f := g_156) (wf := fun g => (MW cI cJ M mr (upd (upd (upd (upd (upd (upd mi 22 nspot_190) 23 nfrom_191) 24 ntoken_192) 25 nvalue_193) 38 nreadFault_194) 39 nreadPlace_195) (va_up mf 43 g) mg)) E hw196 21 rfl (inbE (a := v_186.toInt) rfl (by omega)) (fun _ => rfl) dX12_readPath_152 (fun g_215 H locs eg_215 hw216 => ?_)
                have hpk_217 : pathsOK g_215 := pathsOK_hi hpk_158 eg_215 (by omega)
                refine lv_aload_n (pc := 153) E.1 E.2.1 dX12_readPath_153 rfl (lv_at hl3 0 rfl) ?_
                refine x_get (pc := 154) (T := TX12) (N := 70) (ci := 12) (v := .ref (mr 43)) E hw216 inX12 0 43 q_1442 rfl rfl (by decide) rfl rfl dX12_readPath_154 ?_
                refine lv_iload_n (pc := 157) E.1 E.2.1 dX12_readPath_157 rfl (lv_at hl3 1 rfl) ?_
                refine lv_iconst (pc := 158) (v := 3) E.1 E.2.1 dX12_readPath_158 (by decide +kernel) ?_
                refine lv_iadd (pc := 159) E.1 E.2.1 dX12_readPath_159 ?_
                refine lv_topi (fun v_218 ev_218 => ?_)
                have hv_218 : v_218.toInt = z_at.toInt + 3 := by rw [ev_218]; exact addE rfl (by decide +kernel) (by omega)
                refine x_iald (pc := 160) (f := g_215) E hw216 21 rfl (inbE (a := v_218.toInt) rfl (by omega)) dX12_readPath_160 ?_
                refine lv_topi (fun v_219 ev_219 => ?_)
                have hsv_219 : v_219.toInt = r_188.toInt := by rw [ev_219, eg_215, show v_218.toNatClampNeg = v_186.toNatClampNeg from (by have q_0 := idxI (x := v_218) (by omega); have q_1 := idxI (x := v_186) (by omega); omega), pk_us]
                refine lv_iconst (pc := 161) (v := (-1)) E.1 E.2.1 dX12_readPath_161 (by decide +kernel) ?_
                refine lv_icmp_ne (pc := 162) (tgt := 167) E.1 E.2.1 dX12_readPath_162 (by decide) (fun _ => ?_) (fun c_220 => absurd c_220 (mneE (a := v_219.toInt) (b := (-1)) rfl (by decide +kernel) (by omega)))
                refine lv_aload_n (pc := 167) E.1 E.2.1 dX12_readPath_167 rfl (lv_at hl3 0 rfl) ?_
                refine lv_bipush (pc := 168) (v := 59) E.1 E.2.1 dX12_readPath_168 (by decide +kernel) ?_
                refine cm_i (pc := 170) hw216 (rn_M (As := [.int 59]) (rest := []) E hw216 (s_readMarkT l D cI cJ _ M mr (upd (upd (upd (upd (upd (upd mi 22 nspot_190) 23 nfrom_191) 24 ntoken_192) 25 nvalue_193) 38 nreadFault_194) 39 nreadPlace_195) (va_up mf 43 g_215) mg 59 hp_197 hp_198 hp_199 h3 hp_200 hp_201 hp_202 h7 a_tape (show (∀ j : Nat, j < 154 → (mf 26) j = w0 j) from lf_words) (show AGN ntoken_192.toInt nvalue_193.toInt nfrom_191.toInt nspot_190.toInt from hp_203)) (gdV q_1714 q_1716 q_64 q_162 q_1717) hdV_X12_readMark ⟨rfl, rfl⟩ ⟨(Nat.le_of_ble_eq_true rfl), (Nat.le_of_ble_eq_true rfl)⟩ ⟨(Nat.le_of_ble_eq_true rfl), (Nat.le_of_ble_eq_true rfl)⟩ 12 rfl rfl rfl rfl hl3.1 rfl (Nat.le_of_ble_eq_true rfl) dX12_readPath_170) (fun r_222 u_221 H1 locs hp hw223 => ?_)
                obtain ⟨nspot_224, nfrom_225, ntoken_226, nvalue_227, nreadFault_228, nreadPlace_229⟩ := u_221
                generalize H1 = H at hw223 ⊢
                have hw230 : WD D A s.heap (MW cI cJ M mr (upd (upd (upd (upd (upd (upd mi 22 nspot_224) 23 nfrom_225) 24 ntoken_226) 25 nvalue_227) 38 nreadFault_228) 39 nreadPlace_229) (va_up mf 43 g_215) mg) H locs := hw223
                obtain ⟨hp_231, hp_232, hp_233, hp_234, hp_235, hp_236, hp_237, hp_238, hp_239⟩ := hp
                have hp_231 : 0 ≤ nfrom_225.toInt := hp_231
                have hp_232 : nfrom_225.toInt ≤ nspot_224.toInt := hp_232
                have hp_233 : nspot_224.toInt ≤ (mi 21).toInt := hp_233
                have hp_234 : 0 ≤ ntoken_226.toInt := hp_234
                have hp_235 : ntoken_226.toInt ≤ 4 := hp_235
                have hp_236 : ntoken_226.toInt ≤ 4 * nspot_224.toInt - 4 * nfrom_225.toInt := hp_236
                have hp_237 : AGN ntoken_226.toInt nvalue_227.toInt nfrom_225.toInt nspot_224.toInt := hp_237
                have hp_238 : (∀ p : Int, TKR (mf 20) (mi 21).toInt p nfrom_191.toInt nspot_190.toInt ntoken_192.toInt nvalue_193.toInt → RX (mf 20) (mi 21).toInt (markR (mf 20) (mi 21).toInt ((59 : Int32) : Int32).toInt p) (r_222 : Int32).toInt nreadFault_228.toInt nreadPlace_229.toInt nfrom_225.toInt nspot_224.toInt ntoken_226.toInt nvalue_227.toInt) := hp_238
                rcases hp_239 with rfl | ⟨rfl, ha_240⟩
                · skip
                  exact em_i (w1 := (fun (u : Int32 × Int32 × Int32 × Int32 × Int32 × Int32 × (Nat → Int32)) => (MW cI cJ M mr (upd (upd (upd (upd (upd (upd mi 22 u.1) 23 u.2.1) 24 u.2.2.1) 25 u.2.2.2.1) 38 u.2.2.2.2.1) 39 u.2.2.2.2.2.1) (va_up mf 43 u.2.2.2.2.2.2) mg))) E hr hlk (nspot_224, nfrom_225, ntoken_226, nvalue_227, nreadFault_228, nreadPlace_229, g_215) hw230 ⟨hp_231, hp_232, hp_233, hp_234, hp_235, hp_236, hpk_217, hp_237, (fun h => absurd h (by decide +kernel)), (show (∀ p : Int, TKR (mf 20) (mi 21).toInt p (mi 23).toInt (mi 22).toInt (mi 24).toInt (mi 25).toInt → RX (mf 20) (mi 21).toInt (pathR (mf 20) (mi 21).toInt ((mi 6).toInt - 1) p) ((-1) : Int32).toInt nreadFault_228.toInt nreadPlace_229.toInt nfrom_225.toInt nspot_224.toInt ntoken_226.toInt nvalue_227.toInt) from (fun p hp => by have q0 := hp_23 _ hp; rw [show v_5.toInt = (mi 6).toInt - 1 from by omega] at q0; obtain ⟨y0, f0, -, t0⟩ := RN_get q0 (by omega); have q1 := hp_57 _ t0; obtain ⟨y1, f1, t1⟩ := RX_get q1 (show (0 : Int32).toInt ≠ -1 from by decide +kernel); have q2 := hp_81 _ t1; rw [show v_63.toInt = (mi 6).toInt - 1 from by omega] at q2; obtain ⟨y2, f2, -, t2⟩ := RN_get q2 (by omega); have q3 := hp_115 _ t2; obtain ⟨y3, f3, t3⟩ := RX_get q3 (show (0 : Int32).toInt ≠ -1 from by decide +kernel); have q4 := hp_138 _ t3; obtain ⟨y4, f4, -, t4⟩ := RN_get q4 (by omega); have eo : optR (mf 20) (mi 21).toInt 19 (0 : Int32).toInt (9 : Int32).toInt y4.2 = _ := opt_yes t4 (by omega) (by omega); have q5 := hp_204 _ hp_185; obtain ⟨y5, f5, -, t5⟩ := RN_get q5 (by omega); have q6 := hp_238 _ t5; simp only [pathR, sndE, f0, f1, f2, f3, f4, eo, f5]; exact q6)), (Or.inl rfl)⟩ (Nat.le_of_ble_eq_true rfl) (Nat.le_of_ble_eq_true rfl) dX12_readPath_173
                · skip
                  have ha_240 : nfrom_191.toInt + 1 ≤ nfrom_225.toInt := ha_240
                  exact em_i (w1 := (fun (u : Int32 × Int32 × Int32 × Int32 × Int32 × Int32 × (Nat → Int32)) => (MW cI cJ M mr (upd (upd (upd (upd (upd (upd mi 22 u.1) 23 u.2.1) 24 u.2.2.1) 25 u.2.2.2.1) 38 u.2.2.2.2.1) 39 u.2.2.2.2.2.1) (va_up mf 43 u.2.2.2.2.2.2) mg))) E hr hlk (nspot_224, nfrom_225, ntoken_226, nvalue_227, nreadFault_228, nreadPlace_229, g_215) hw230 ⟨hp_231, hp_232, hp_233, hp_234, hp_235, hp_236, hpk_217, hp_237, (fun _ => (show PT (mf 43) g_215 (z_at).toNatClampNeg from ⟨⟨(by have q0 := idxI (x := z_at) (by omega); rw [un1 eg_215 (by omega) (by omega), un1 eg_156 (by omega) (by omega), un1 eg_149 (by omega) (by omega), un1 eg_92 (by omega) (by omega), us1 eg_34 (by omega) (by omega)]; omega), (by have q0 := idxI (x := z_at) (by omega); rw [un1 eg_215 (by omega) (by omega), un1 eg_156 (by omega) (by omega), un1 eg_149 (by omega) (by omega), us1 eg_92 (by omega) (by omega)]; omega)⟩, fun j hj => by have q0 := idxI (x := z_at) (by omega); rw [un1 eg_215 (by omega) (by omega), un1 eg_156 (by omega) (by omega), un1 eg_149 (by omega) (by omega), un1 eg_92 (by omega) (by omega), un1 eg_34 (by omega) (by omega)]⟩)), (show (∀ p : Int, TKR (mf 20) (mi 21).toInt p (mi 23).toInt (mi 22).toInt (mi 24).toInt (mi 25).toInt → RX (mf 20) (mi 21).toInt (pathR (mf 20) (mi 21).toInt ((mi 6).toInt - 1) p) (0 : Int32).toInt nreadFault_228.toInt nreadPlace_229.toInt nfrom_225.toInt nspot_224.toInt ntoken_226.toInt nvalue_227.toInt) from (fun p hp => by have q0 := hp_23 _ hp; rw [show v_5.toInt = (mi 6).toInt - 1 from by omega] at q0; obtain ⟨y0, f0, -, t0⟩ := RN_get q0 (by omega); have q1 := hp_57 _ t0; obtain ⟨y1, f1, t1⟩ := RX_get q1 (show (0 : Int32).toInt ≠ -1 from by decide +kernel); have q2 := hp_81 _ t1; rw [show v_63.toInt = (mi 6).toInt - 1 from by omega] at q2; obtain ⟨y2, f2, -, t2⟩ := RN_get q2 (by omega); have q3 := hp_115 _ t2; obtain ⟨y3, f3, t3⟩ := RX_get q3 (show (0 : Int32).toInt ≠ -1 from by decide +kernel); have q4 := hp_138 _ t3; obtain ⟨y4, f4, -, t4⟩ := RN_get q4 (by omega); have eo : optR (mf 20) (mi 21).toInt 19 (0 : Int32).toInt (9 : Int32).toInt y4.2 = _ := opt_yes t4 (by omega) (by omega); have q5 := hp_204 _ hp_185; obtain ⟨y5, f5, -, t5⟩ := RN_get q5 (by omega); have q6 := hp_238 _ t5; simp only [pathR, sndE, f0, f1, f2, f3, f4, eo, f5]; exact q6)), (Or.inr (rfl))⟩ (Nat.le_of_ble_eq_true rfl) (Nat.le_of_ble_eq_true rfl) dX12_readPath_173
            · skip
              have ha_166 : ¬ ntoken_126.toInt = 2 := ha_166
              refine lv_if_eq (pc := 131) (tgt := 167) E.1 E.2.1 dX12_readPath_131 (by decide) (fun _ => ?_) (fun c_241 => absurd (meqE (a := 0) (b := 0) (by decide +kernel) (by decide +kernel) (by omega)) c_241)
              refine lv_aload_n (pc := 167) E.1 E.2.1 dX12_readPath_167 rfl (lv_at hl3 0 rfl) ?_
              refine lv_bipush (pc := 168) (v := 59) E.1 E.2.1 dX12_readPath_168 (by decide +kernel) ?_
              refine cm_i (pc := 170) hw162 (rn_M (As := [.int 59]) (rest := []) E hw162 (s_readMarkT l D cI cJ _ M mr (upd (upd (upd (upd (upd (upd mi 22 nspot_124) 23 nfrom_125) 24 ntoken_126) 25 nvalue_127) 38 nreadFault_128) 39 nreadPlace_129) (va_up mf 43 g_156) mg 59 hp_131 hp_132 hp_133 h3 hp_134 hp_135 hp_136 h7 a_tape (show (∀ j : Nat, j < 154 → (mf 26) j = w0 j) from lf_words) (show AGN ntoken_126.toInt nvalue_127.toInt nfrom_125.toInt nspot_124.toInt from hp_137)) (gdV q_1714 q_1716 q_64 q_162 q_1717) hdV_X12_readMark ⟨rfl, rfl⟩ ⟨(Nat.le_of_ble_eq_true rfl), (Nat.le_of_ble_eq_true rfl)⟩ ⟨(Nat.le_of_ble_eq_true rfl), (Nat.le_of_ble_eq_true rfl)⟩ 12 rfl rfl rfl rfl hl3.1 rfl (Nat.le_of_ble_eq_true rfl) dX12_readPath_170) (fun r_243 u_242 H1 locs hp hw244 => ?_)
              obtain ⟨nspot_245, nfrom_246, ntoken_247, nvalue_248, nreadFault_249, nreadPlace_250⟩ := u_242
              generalize H1 = H at hw244 ⊢
              have hw251 : WD D A s.heap (MW cI cJ M mr (upd (upd (upd (upd (upd (upd mi 22 nspot_245) 23 nfrom_246) 24 ntoken_247) 25 nvalue_248) 38 nreadFault_249) 39 nreadPlace_250) (va_up mf 43 g_156) mg) H locs := hw244
              obtain ⟨hp_252, hp_253, hp_254, hp_255, hp_256, hp_257, hp_258, hp_259, hp_260⟩ := hp
              have hp_252 : 0 ≤ nfrom_246.toInt := hp_252
              have hp_253 : nfrom_246.toInt ≤ nspot_245.toInt := hp_253
              have hp_254 : nspot_245.toInt ≤ (mi 21).toInt := hp_254
              have hp_255 : 0 ≤ ntoken_247.toInt := hp_255
              have hp_256 : ntoken_247.toInt ≤ 4 := hp_256
              have hp_257 : ntoken_247.toInt ≤ 4 * nspot_245.toInt - 4 * nfrom_246.toInt := hp_257
              have hp_258 : AGN ntoken_247.toInt nvalue_248.toInt nfrom_246.toInt nspot_245.toInt := hp_258
              have hp_259 : (∀ p : Int, TKR (mf 20) (mi 21).toInt p nfrom_125.toInt nspot_124.toInt ntoken_126.toInt nvalue_127.toInt → RX (mf 20) (mi 21).toInt (markR (mf 20) (mi 21).toInt ((59 : Int32) : Int32).toInt p) (r_243 : Int32).toInt nreadFault_249.toInt nreadPlace_250.toInt nfrom_246.toInt nspot_245.toInt ntoken_247.toInt nvalue_248.toInt) := hp_259
              rcases hp_260 with rfl | ⟨rfl, ha_261⟩
              · skip
                exact em_i (w1 := (fun (u : Int32 × Int32 × Int32 × Int32 × Int32 × Int32 × (Nat → Int32)) => (MW cI cJ M mr (upd (upd (upd (upd (upd (upd mi 22 u.1) 23 u.2.1) 24 u.2.2.1) 25 u.2.2.2.1) 38 u.2.2.2.2.1) 39 u.2.2.2.2.2.1) (va_up mf 43 u.2.2.2.2.2.2) mg))) E hr hlk (nspot_245, nfrom_246, ntoken_247, nvalue_248, nreadFault_249, nreadPlace_250, g_156) hw251 ⟨hp_252, hp_253, hp_254, hp_255, hp_256, hp_257, hpk_158, hp_258, (fun h => absurd h (by decide +kernel)), (show (∀ p : Int, TKR (mf 20) (mi 21).toInt p (mi 23).toInt (mi 22).toInt (mi 24).toInt (mi 25).toInt → RX (mf 20) (mi 21).toInt (pathR (mf 20) (mi 21).toInt ((mi 6).toInt - 1) p) ((-1) : Int32).toInt nreadFault_249.toInt nreadPlace_250.toInt nfrom_246.toInt nspot_245.toInt ntoken_247.toInt nvalue_248.toInt) from (fun p hp => by have q0 := hp_23 _ hp; rw [show v_5.toInt = (mi 6).toInt - 1 from by omega] at q0; obtain ⟨y0, f0, -, t0⟩ := RN_get q0 (by omega); have q1 := hp_57 _ t0; obtain ⟨y1, f1, t1⟩ := RX_get q1 (show (0 : Int32).toInt ≠ -1 from by decide +kernel); have q2 := hp_81 _ t1; rw [show v_63.toInt = (mi 6).toInt - 1 from by omega] at q2; obtain ⟨y2, f2, -, t2⟩ := RN_get q2 (by omega); have q3 := hp_115 _ t2; obtain ⟨y3, f3, t3⟩ := RX_get q3 (show (0 : Int32).toInt ≠ -1 from by decide +kernel); have q4 := hp_138 _ t3; obtain ⟨y4, f4, -, t4⟩ := RN_get q4 (by omega); have eo : optR (mf 20) (mi 21).toInt 19 (0 : Int32).toInt (9 : Int32).toInt y4.2 = _ := opt_no t4 (by omega); have q5 := hp_259 _ t4; simp only [pathR, sndE, f0, f1, f2, f3, f4, eo]; exact q5)), (Or.inl rfl)⟩ (Nat.le_of_ble_eq_true rfl) (Nat.le_of_ble_eq_true rfl) dX12_readPath_173
              · skip
                have ha_261 : nfrom_125.toInt + 1 ≤ nfrom_246.toInt := ha_261
                exact em_i (w1 := (fun (u : Int32 × Int32 × Int32 × Int32 × Int32 × Int32 × (Nat → Int32)) => (MW cI cJ M mr (upd (upd (upd (upd (upd (upd mi 22 u.1) 23 u.2.1) 24 u.2.2.1) 25 u.2.2.2.1) 38 u.2.2.2.2.1) 39 u.2.2.2.2.2.1) (va_up mf 43 u.2.2.2.2.2.2) mg))) E hr hlk (nspot_245, nfrom_246, ntoken_247, nvalue_248, nreadFault_249, nreadPlace_250, g_156) hw251 ⟨hp_252, hp_253, hp_254, hp_255, hp_256, hp_257, hpk_158, hp_258, (fun _ => (show PT (mf 43) g_156 (z_at).toNatClampNeg from ⟨⟨(by have q0 := idxI (x := z_at) (by omega); rw [un1 eg_156 (by omega) (by omega), un1 eg_149 (by omega) (by omega), un1 eg_92 (by omega) (by omega), us1 eg_34 (by omega) (by omega)]; omega), (by have q0 := idxI (x := z_at) (by omega); rw [un1 eg_156 (by omega) (by omega), un1 eg_149 (by omega) (by omega), us1 eg_92 (by omega) (by omega)]; omega)⟩, fun j hj => by have q0 := idxI (x := z_at) (by omega); rw [un1 eg_156 (by omega) (by omega), un1 eg_149 (by omega) (by omega), un1 eg_92 (by omega) (by omega), un1 eg_34 (by omega) (by omega)]⟩)), (show (∀ p : Int, TKR (mf 20) (mi 21).toInt p (mi 23).toInt (mi 22).toInt (mi 24).toInt (mi 25).toInt → RX (mf 20) (mi 21).toInt (pathR (mf 20) (mi 21).toInt ((mi 6).toInt - 1) p) (0 : Int32).toInt nreadFault_249.toInt nreadPlace_250.toInt nfrom_246.toInt nspot_245.toInt ntoken_247.toInt nvalue_248.toInt) from (fun p hp => by have q0 := hp_23 _ hp; rw [show v_5.toInt = (mi 6).toInt - 1 from by omega] at q0; obtain ⟨y0, f0, -, t0⟩ := RN_get q0 (by omega); have q1 := hp_57 _ t0; obtain ⟨y1, f1, t1⟩ := RX_get q1 (show (0 : Int32).toInt ≠ -1 from by decide +kernel); have q2 := hp_81 _ t1; rw [show v_63.toInt = (mi 6).toInt - 1 from by omega] at q2; obtain ⟨y2, f2, -, t2⟩ := RN_get q2 (by omega); have q3 := hp_115 _ t2; obtain ⟨y3, f3, t3⟩ := RX_get q3 (show (0 : Int32).toInt ≠ -1 from by decide +kernel); have q4 := hp_138 _ t3; obtain ⟨y4, f4, -, t4⟩ := RN_get q4 (by omega); have eo : optR (mf 20) (mi 21).toInt 19 (0 : Int32).toInt (9 : Int32).toInt y4.2 = _ := opt_no t4 (by omega); have q5 := hp_259 _ t4; simp only [pathR, sndE, f0, f1, f2, f3, f4, eo]; exact q5)), (Or.inr (rfl))⟩ (Nat.le_of_ble_eq_true rfl) (Nat.le_of_ble_eq_true rfl) dX12_readPath_173
            · skip
              have ha_167 : ¬ nvalue_127.toInt = (19 : Int32).toInt := ha_167
              rw [show (19 : Int32).toInt = 19 from by decide +kernel] at ha_167
              refine lv_if_eq (pc := 131) (tgt := 167) E.1 E.2.1 dX12_readPath_131 (by decide) (fun _ => ?_) (fun c_262 => absurd (meqE (a := 0) (b := 0) (by decide +kernel) (by decide +kernel) (by omega)) c_262)
              refine lv_aload_n (pc := 167) E.1 E.2.1 dX12_readPath_167 rfl (lv_at hl3 0 rfl) ?_
              refine lv_bipush (pc := 168) (v := 59) E.1 E.2.1 dX12_readPath_168 (by decide +kernel) ?_
              refine cm_i (pc := 170) hw162 (rn_M (As := [.int 59]) (rest := []) E hw162 (s_readMarkT l D cI cJ _ M mr (upd (upd (upd (upd (upd (upd mi 22 nspot_124) 23 nfrom_125) 24 ntoken_126) 25 nvalue_127) 38 nreadFault_128) 39 nreadPlace_129) (va_up mf 43 g_156) mg 59 hp_131 hp_132 hp_133 h3 hp_134 hp_135 hp_136 h7 a_tape (show (∀ j : Nat, j < 154 → (mf 26) j = w0 j) from lf_words) (show AGN ntoken_126.toInt nvalue_127.toInt nfrom_125.toInt nspot_124.toInt from hp_137)) (gdV q_1714 q_1716 q_64 q_162 q_1717) hdV_X12_readMark ⟨rfl, rfl⟩ ⟨(Nat.le_of_ble_eq_true rfl), (Nat.le_of_ble_eq_true rfl)⟩ ⟨(Nat.le_of_ble_eq_true rfl), (Nat.le_of_ble_eq_true rfl)⟩ 12 rfl rfl rfl rfl hl3.1 rfl (Nat.le_of_ble_eq_true rfl) dX12_readPath_170) (fun r_264 u_263 H1 locs hp hw265 => ?_)
              obtain ⟨nspot_266, nfrom_267, ntoken_268, nvalue_269, nreadFault_270, nreadPlace_271⟩ := u_263
              generalize H1 = H at hw265 ⊢
              have hw272 : WD D A s.heap (MW cI cJ M mr (upd (upd (upd (upd (upd (upd mi 22 nspot_266) 23 nfrom_267) 24 ntoken_268) 25 nvalue_269) 38 nreadFault_270) 39 nreadPlace_271) (va_up mf 43 g_156) mg) H locs := hw265
              obtain ⟨hp_273, hp_274, hp_275, hp_276, hp_277, hp_278, hp_279, hp_280, hp_281⟩ := hp
              have hp_273 : 0 ≤ nfrom_267.toInt := hp_273
              have hp_274 : nfrom_267.toInt ≤ nspot_266.toInt := hp_274
              have hp_275 : nspot_266.toInt ≤ (mi 21).toInt := hp_275
              have hp_276 : 0 ≤ ntoken_268.toInt := hp_276
              have hp_277 : ntoken_268.toInt ≤ 4 := hp_277
              have hp_278 : ntoken_268.toInt ≤ 4 * nspot_266.toInt - 4 * nfrom_267.toInt := hp_278
              have hp_279 : AGN ntoken_268.toInt nvalue_269.toInt nfrom_267.toInt nspot_266.toInt := hp_279
              have hp_280 : (∀ p : Int, TKR (mf 20) (mi 21).toInt p nfrom_125.toInt nspot_124.toInt ntoken_126.toInt nvalue_127.toInt → RX (mf 20) (mi 21).toInt (markR (mf 20) (mi 21).toInt ((59 : Int32) : Int32).toInt p) (r_264 : Int32).toInt nreadFault_270.toInt nreadPlace_271.toInt nfrom_267.toInt nspot_266.toInt ntoken_268.toInt nvalue_269.toInt) := hp_280
              rcases hp_281 with rfl | ⟨rfl, ha_282⟩
              · skip
                exact em_i (w1 := (fun (u : Int32 × Int32 × Int32 × Int32 × Int32 × Int32 × (Nat → Int32)) => (MW cI cJ M mr (upd (upd (upd (upd (upd (upd mi 22 u.1) 23 u.2.1) 24 u.2.2.1) 25 u.2.2.2.1) 38 u.2.2.2.2.1) 39 u.2.2.2.2.2.1) (va_up mf 43 u.2.2.2.2.2.2) mg))) E hr hlk (nspot_266, nfrom_267, ntoken_268, nvalue_269, nreadFault_270, nreadPlace_271, g_156) hw272 ⟨hp_273, hp_274, hp_275, hp_276, hp_277, hp_278, hpk_158, hp_279, (fun h => absurd h (by decide +kernel)), (show (∀ p : Int, TKR (mf 20) (mi 21).toInt p (mi 23).toInt (mi 22).toInt (mi 24).toInt (mi 25).toInt → RX (mf 20) (mi 21).toInt (pathR (mf 20) (mi 21).toInt ((mi 6).toInt - 1) p) ((-1) : Int32).toInt nreadFault_270.toInt nreadPlace_271.toInt nfrom_267.toInt nspot_266.toInt ntoken_268.toInt nvalue_269.toInt) from (fun p hp => by have q0 := hp_23 _ hp; rw [show v_5.toInt = (mi 6).toInt - 1 from by omega] at q0; obtain ⟨y0, f0, -, t0⟩ := RN_get q0 (by omega); have q1 := hp_57 _ t0; obtain ⟨y1, f1, t1⟩ := RX_get q1 (show (0 : Int32).toInt ≠ -1 from by decide +kernel); have q2 := hp_81 _ t1; rw [show v_63.toInt = (mi 6).toInt - 1 from by omega] at q2; obtain ⟨y2, f2, -, t2⟩ := RN_get q2 (by omega); have q3 := hp_115 _ t2; obtain ⟨y3, f3, t3⟩ := RX_get q3 (show (0 : Int32).toInt ≠ -1 from by decide +kernel); have q4 := hp_138 _ t3; obtain ⟨y4, f4, -, t4⟩ := RN_get q4 (by omega); have eo : optR (mf 20) (mi 21).toInt 19 (0 : Int32).toInt (9 : Int32).toInt y4.2 = _ := opt_no t4 (by omega); have q5 := hp_280 _ t4; simp only [pathR, sndE, f0, f1, f2, f3, f4, eo]; exact q5)), (Or.inl rfl)⟩ (Nat.le_of_ble_eq_true rfl) (Nat.le_of_ble_eq_true rfl) dX12_readPath_173
              · skip
                have ha_282 : nfrom_125.toInt + 1 ≤ nfrom_267.toInt := ha_282
                exact em_i (w1 := (fun (u : Int32 × Int32 × Int32 × Int32 × Int32 × Int32 × (Nat → Int32)) => (MW cI cJ M mr (upd (upd (upd (upd (upd (upd mi 22 u.1) 23 u.2.1) 24 u.2.2.1) 25 u.2.2.2.1) 38 u.2.2.2.2.1) 39 u.2.2.2.2.2.1) (va_up mf 43 u.2.2.2.2.2.2) mg))) E hr hlk (nspot_266, nfrom_267, ntoken_268, nvalue_269, nreadFault_270, nreadPlace_271, g_156) hw272 ⟨hp_273, hp_274, hp_275, hp_276, hp_277, hp_278, hpk_158, hp_279, (fun _ => (show PT (mf 43) g_156 (z_at).toNatClampNeg from ⟨⟨(by have q0 := idxI (x := z_at) (by omega); rw [un1 eg_156 (by omega) (by omega), un1 eg_149 (by omega) (by omega), un1 eg_92 (by omega) (by omega), us1 eg_34 (by omega) (by omega)]; omega), (by have q0 := idxI (x := z_at) (by omega); rw [un1 eg_156 (by omega) (by omega), un1 eg_149 (by omega) (by omega), us1 eg_92 (by omega) (by omega)]; omega)⟩, fun j hj => by have q0 := idxI (x := z_at) (by omega); rw [un1 eg_156 (by omega) (by omega), un1 eg_149 (by omega) (by omega), un1 eg_92 (by omega) (by omega), un1 eg_34 (by omega) (by omega)]⟩)), (show (∀ p : Int, TKR (mf 20) (mi 21).toInt p (mi 23).toInt (mi 22).toInt (mi 24).toInt (mi 25).toInt → RX (mf 20) (mi 21).toInt (pathR (mf 20) (mi 21).toInt ((mi 6).toInt - 1) p) (0 : Int32).toInt nreadFault_270.toInt nreadPlace_271.toInt nfrom_267.toInt nspot_266.toInt ntoken_268.toInt nvalue_269.toInt) from (fun p hp => by have q0 := hp_23 _ hp; rw [show v_5.toInt = (mi 6).toInt - 1 from by omega] at q0; obtain ⟨y0, f0, -, t0⟩ := RN_get q0 (by omega); have q1 := hp_57 _ t0; obtain ⟨y1, f1, t1⟩ := RX_get q1 (show (0 : Int32).toInt ≠ -1 from by decide +kernel); have q2 := hp_81 _ t1; rw [show v_63.toInt = (mi 6).toInt - 1 from by omega] at q2; obtain ⟨y2, f2, -, t2⟩ := RN_get q2 (by omega); have q3 := hp_115 _ t2; obtain ⟨y3, f3, t3⟩ := RX_get q3 (show (0 : Int32).toInt ≠ -1 from by decide +kernel); have q4 := hp_138 _ t3; obtain ⟨y4, f4, -, t4⟩ := RN_get q4 (by omega); have eo : optR (mf 20) (mi 21).toInt 19 (0 : Int32).toInt (9 : Int32).toInt y4.2 = _ := opt_no t4 (by omega); have q5 := hp_280 _ t4; simp only [pathR, sndE, f0, f1, f2, f3, f4, eo]; exact q5)), (Or.inr (rfl))⟩ (Nat.le_of_ble_eq_true rfl) (Nat.le_of_ble_eq_true rfl) dX12_readPath_173
