set_option maxHeartbeats 4000000 in
set_option maxRecDepth 100000 in
theorem s_readAgain (l : Launch) (D : va_G) (cI cJ : ClassId) (sz M : Nat) (mr : Nat → Nat) (mi : Nat → Int32) (mf : Nat → Nat → Int32) (mg : Nat → Nat → Int64)  (h0 : 0 ≤ (mi 23).toInt) (h1 : (mi 23).toInt ≤ (mi 22).toInt) (h2 : (mi 22).toInt ≤ (mi 21).toInt) (h3 : (mi 21).toInt ≤ 400) (h4 : 0 ≤ (mi 24).toInt) (h5 : (mi 24).toInt ≤ 4) (h6 : (mi 24).toInt ≤ 4 * (mi 22).toInt - 4 * (mi 23).toInt) (h7 : ((mf 26) 153).toInt = 32) (h8 : 0 ≤ (mi 6).toInt ∧ (mi 6).toInt ≤ 10) (h9 : 0 ≤ (mi 48).toInt) (h10 : 3 * (mi 48).toInt ≤ (mi 23).toInt) (h11 : (mi 24).toInt = 2) (h12 : (mi 25).toInt = 30) (h13 : 0 ≤ (mi 35).toInt ∧ (mi 35).toInt ≤ 4) (lf_words : (∀ j : Nat, j < 154 → (mf 26) j = w0 j)) (lf_again : AGN ((mi 24).toInt) ((mi 25).toInt) ((mi 23).toInt) ((mi 22).toInt)) : Met l yX12_readAgain (Cond.code yX12_readAgain cX12_readAgain 2 (some .int) :: GW) ({ frames := 5, cells := 0, slots := 0, locals := 128 } : Room) (va_Pc [.ref M] (PW D cI cJ sz (MW cI cJ M mr mi mf mg) xT)) (va_Qi (fun (r : Int32) (u : Int32 × Int32 × Int32 × Int32 × Int32 × Int32 × (Nat → Int32) × (Nat → Int32) × Int32 × Int32) => (0 ≤ u.2.1.toInt) ∧ (u.2.1.toInt ≤ u.1.toInt) ∧ (u.1.toInt ≤ (mi 21).toInt) ∧ (0 ≤ u.2.2.1.toInt) ∧ (u.2.2.1.toInt ≤ 4) ∧ (u.2.2.1.toInt ≤ 4 * u.1.toInt - 4 * u.2.1.toInt) ∧ ((mi 35).toInt ≤ u.2.2.2.2.2.2.2.2.2.toInt) ∧ (u.2.2.2.2.2.2.2.2.2.toInt ≤ 4) ∧ (AGN u.2.2.1.toInt u.2.2.2.1.toInt u.2.1.toInt u.1.toInt) ∧ (r = 0 → (∀ t : Nat, t ≤ 3 → RSP (mf 46) (mf 47) (mi 6).toInt (((mi 48).toInt).toNat) t → RSP u.2.2.2.2.2.2.1 u.2.2.2.2.2.2.2.1 (mi 6).toInt ((u.2.2.2.2.2.2.2.2.1.toInt).toNat) (t + 1))) ∧ ((r = (-1)) ∨ (r = 0 ∧ (mi 23).toInt + 5 ≤ u.2.1.toInt ∧ u.2.2.2.2.2.2.2.2.1.toInt = (mi 48).toInt + 1 ∧ u.2.2.2.2.2.2.2.2.2.toInt = (mi 35).toInt + 1 ∧ u.2.2.2.2.2.2.2.2.2.toInt ≤ 4))) (fun u => QW D cI cJ (va_A (MW cI cJ M mr mi mf mg) sz) ((fun (u : Int32 × Int32 × Int32 × Int32 × Int32 × Int32 × (Nat → Int32) × (Nat → Int32) × Int32 × Int32) => (MW cI cJ M mr (upd (upd (upd (upd (upd (upd (upd (upd mi 22 u.1) 23 u.2.1) 24 u.2.2.1) 25 u.2.2.2.1) 38 u.2.2.2.2.1) 39 u.2.2.2.2.2.1) 48 u.2.2.2.2.2.2.2.2.1) 35 u.2.2.2.2.2.2.2.2.2) (va_up (va_up mf 46 u.2.2.2.2.2.2.1) 47 u.2.2.2.2.2.2.2.1) mg)) u)) (va_A (MW cI cJ M mr mi mf mg) sz)) 0 0 (va_A (MW cI cJ M mr mi mf mg) sz) := by
  refine mk_met (y := yX12_readAgain) (bytes := cX12_readAgain) (maxL := 2) (avs := [.ref M]) (WS := (MW cI cJ M mr mi mf mg)) (Qf := fun A => va_Qi (fun (r : Int32) (u : Int32 × Int32 × Int32 × Int32 × Int32 × Int32 × (Nat → Int32) × (Nat → Int32) × Int32 × Int32) => (0 ≤ u.2.1.toInt) ∧ (u.2.1.toInt ≤ u.1.toInt) ∧ (u.1.toInt ≤ (mi 21).toInt) ∧ (0 ≤ u.2.2.1.toInt) ∧ (u.2.2.1.toInt ≤ 4) ∧ (u.2.2.1.toInt ≤ 4 * u.1.toInt - 4 * u.2.1.toInt) ∧ ((mi 35).toInt ≤ u.2.2.2.2.2.2.2.2.2.toInt) ∧ (u.2.2.2.2.2.2.2.2.2.toInt ≤ 4) ∧ (AGN u.2.2.1.toInt u.2.2.2.1.toInt u.2.1.toInt u.1.toInt) ∧ (r = 0 → (∀ t : Nat, t ≤ 3 → RSP (mf 46) (mf 47) (mi 6).toInt (((mi 48).toInt).toNat) t → RSP u.2.2.2.2.2.2.1 u.2.2.2.2.2.2.2.1 (mi 6).toInt ((u.2.2.2.2.2.2.2.2.1.toInt).toNat) (t + 1))) ∧ ((r = (-1)) ∨ (r = 0 ∧ (mi 23).toInt + 5 ≤ u.2.1.toInt ∧ u.2.2.2.2.2.2.2.2.1.toInt = (mi 48).toInt + 1 ∧ u.2.2.2.2.2.2.2.2.2.toInt = (mi 35).toInt + 1 ∧ u.2.2.2.2.2.2.2.2.2.toInt ≤ 4))) (fun u => QW D cI cJ A ((fun (u : Int32 × Int32 × Int32 × Int32 × Int32 × Int32 × (Nat → Int32) × (Nat → Int32) × Int32 × Int32) => (MW cI cJ M mr (upd (upd (upd (upd (upd (upd (upd (upd mi 22 u.1) 23 u.2.1) 24 u.2.2.1) 25 u.2.2.2.1) 38 u.2.2.2.2.1) 39 u.2.2.2.2.2.1) 48 u.2.2.2.2.2.2.2.2.1) 35 u.2.2.2.2.2.2.2.2.2) (va_up (va_up mf 46 u.2.2.2.2.2.2.1) 47 u.2.2.2.2.2.2.2.1) mg)) u)) A) (by decide) (Nat.le_of_ble_eq_true rfl) ?_
  intro p e s m below meth c A ls E hr hlk hnm hX hw1 hl2
  have hl3 : lv_has ls 2 [(0, .ref M)] := hl2
  refine lv_aload_n (pc := 0) E.1 E.2.1 dX12_readAgain_0 rfl (lv_at hl3 0 rfl) ?_
  refine x_get (pc := 1) (T := TX12) (N := 70) (ci := 12) (v := .int (mi 35)) E hw1 inX12 0 35 q_1434 rfl rfl (by decide) rfl rfl dX12_readAgain_1 ?_
  refine lv_iconst (pc := 4) (v := 4) E.1 E.2.1 dX12_readAgain_4 (by decide +kernel) ?_
  refine lv_icmp_ne (pc := 5) (tgt := 14) E.1 E.2.1 dX12_readAgain_5 (by decide) (fun c_4 => ?_) (fun c_4 => ?_)
  · skip
    have hc_4 := neE (a := (mi 35).toInt) (b := 4) rfl (by decide +kernel) c_4
    refine lv_aload_n (pc := 14) E.1 E.2.1 dX12_readAgain_14 rfl (lv_at hl3 0 rfl) ?_
    refine lv_aload_n (pc := 15) E.1 E.2.1 dX12_readAgain_15 rfl (lv_at hl3 0 rfl) ?_
    refine x_get (pc := 16) (T := TX12) (N := 70) (ci := 12) (v := .int (mi 35)) E hw1 inX12 0 35 q_1434 rfl rfl (by decide) rfl rfl dX12_readAgain_16 ?_
    refine lv_iconst (pc := 19) (v := 1) E.1 E.2.1 dX12_readAgain_19 (by decide +kernel) ?_
    refine lv_iadd (pc := 20) E.1 E.2.1 dX12_readAgain_20 ?_
    refine lv_topi (fun v_5 ev_5 => ?_)
    have hv_5 : v_5.toInt = (mi 35).toInt + 1 := by rw [ev_5]; exact addE rfl (by decide +kernel) (by omega)
    refine x_put (pc := 21) (T := TX12) (N := 70) (ci := 12) (ws' := (MW cI cJ M mr (upd mi 35 v_5) mf mg)) E hw1 inX12 tyX12_ok nmX12 0 35 q_1434 rfl rfl (by decide) rfl rfl rfl rfl (Nat.le_of_ble_eq_true rfl) rfl dX12_readAgain_21 (fun H locs hw6 => ?_)
    have hag : (mi 23).toInt + 3 ≤ (mi 22).toInt := lf_again (by omega) (by omega)
    refine lv_aload_n (pc := 24) E.1 E.2.1 dX12_readAgain_24 rfl (lv_at hl3 0 rfl) ?_
    refine cm_v (pc := 25) hw6 (rn_M (As := []) (rest := []) E hw6 (s_reads2 l D cI cJ _ M mr (upd mi 35 v_5) mf mg (by show 0 ≤ (mi 22).toInt; omega) h2 h3 h7 (show (∀ j : Nat, j < 154 → (mf 26) j = w0 j) from lf_words)) (gdV q_1666 q_1668 q_52 q_162 q_1669) hdV_X12_reads ⟨rfl, rfl⟩ ⟨(Nat.le_of_ble_eq_true rfl), (Nat.le_of_ble_eq_true rfl)⟩ ⟨(Nat.le_of_ble_eq_true rfl), (Nat.le_of_ble_eq_true rfl)⟩ 12 rfl rfl rfl rfl hl3.1 rfl (Nat.le_of_ble_eq_true rfl) dX12_readAgain_25) (fun u_7 H1 locs hp hw9 => ?_)
    obtain ⟨nspot_10, nfrom_11, ntoken_12, nvalue_13⟩ := u_7
    generalize H1 = H at hw9 ⊢
    have hw14 : WD D A s.heap (MW cI cJ M mr (upd (upd (upd (upd (upd mi 22 nspot_10) 23 nfrom_11) 24 ntoken_12) 25 nvalue_13) 35 v_5) mf mg) H locs := hw9
    obtain ⟨hp_15, hp_16, hp_17, hp_18, hp_19, hp_20, hp_21, hp_22⟩ := hp
    have hp_15 : 0 ≤ nfrom_11.toInt := hp_15
    have hp_16 : nfrom_11.toInt ≤ nspot_10.toInt := hp_16
    have hp_17 : nspot_10.toInt ≤ (mi 21).toInt := hp_17
    have hp_18 : 0 ≤ ntoken_12.toInt := hp_18
    have hp_19 : ntoken_12.toInt ≤ 4 := hp_19
    have hp_20 : ntoken_12.toInt ≤ 4 * nspot_10.toInt - 4 * nfrom_11.toInt := hp_20
    have hp_21 : (mi 22).toInt ≤ nfrom_11.toInt := hp_21
    have hp_22 : AGN ntoken_12.toInt nvalue_13.toInt nfrom_11.toInt nspot_10.toInt := hp_22
    refine lv_aload_n (pc := 28) E.1 E.2.1 dX12_readAgain_28 rfl (lv_at hl3 0 rfl) ?_
    refine lv_iconst (pc := 29) (v := 1) E.1 E.2.1 dX12_readAgain_29 (by decide +kernel) ?_
    refine lv_bipush (pc := 30) (v := 9) E.1 E.2.1 dX12_readAgain_30 (by decide +kernel) ?_
    refine cm_i (pc := 32) hw14 (rn_M (As := [.int 1, .int 9]) (rest := []) E hw14 (s_readNumber l D cI cJ _ M mr (upd (upd (upd (upd (upd mi 22 nspot_10) 23 nfrom_11) 24 ntoken_12) 25 nvalue_13) 35 v_5) mf mg 1 9 hp_15 hp_16 hp_17 h3 hp_18 hp_19 hp_20 h7 (show (∀ j : Nat, j < 154 → (mf 26) j = w0 j) from lf_words) (show AGN ntoken_12.toInt nvalue_13.toInt nfrom_11.toInt nspot_10.toInt from hp_22)) (gdV q_1706 q_1708 q_62 q_162 q_1709) hdV_X12_readNumber ⟨rfl, rfl⟩ ⟨(Nat.le_of_ble_eq_true rfl), (Nat.le_of_ble_eq_true rfl)⟩ ⟨(Nat.le_of_ble_eq_true rfl), (Nat.le_of_ble_eq_true rfl)⟩ 12 rfl rfl rfl rfl hl3.1 rfl (Nat.le_of_ble_eq_true rfl) dX12_readAgain_32) (fun r_24 u_23 H1 locs hp hw25 => ?_)
    obtain ⟨nspot_26, nfrom_27, ntoken_28, nvalue_29, nreadFault_30, nreadPlace_31⟩ := u_23
    generalize H1 = H at hw25 ⊢
    have hw32 : WD D A s.heap (MW cI cJ M mr (upd (upd (upd (upd (upd (upd (upd mi 22 nspot_26) 23 nfrom_27) 24 ntoken_28) 25 nvalue_29) 35 v_5) 38 nreadFault_30) 39 nreadPlace_31) mf mg) H locs := hw25
    obtain ⟨hp_33, hp_34, hp_35, hp_36, hp_37, hp_38, hp_39, hp_40⟩ := hp
    have hp_33 : 0 ≤ nfrom_27.toInt := hp_33
    have hp_34 : nfrom_27.toInt ≤ nspot_26.toInt := hp_34
    have hp_35 : nspot_26.toInt ≤ (mi 21).toInt := hp_35
    have hp_36 : 0 ≤ ntoken_28.toInt := hp_36
    have hp_37 : ntoken_28.toInt ≤ 4 := hp_37
    have hp_38 : ntoken_28.toInt ≤ 4 * nspot_26.toInt - 4 * nfrom_27.toInt := hp_38
    have hp_39 : AGN ntoken_28.toInt nvalue_29.toInt nfrom_27.toInt nspot_26.toInt := hp_39
    rcases hp_40 with rfl | ⟨ha_41, ha_42, ha_43⟩
    · skip
      refine lv_istore_n (pc := 35) (lv' := [(1, .int (-1)), (0, .ref M)]) E.1 E.2.1 dX12_readAgain_35 rfl hl3 (by decide) rfl (fun ls hl44 => ?_)
      refine lv_iload_n (pc := 36) E.1 E.2.1 dX12_readAgain_36 rfl (lv_at hl44 0 rfl) ?_
      refine lv_iconst (pc := 37) (v := (-1)) E.1 E.2.1 dX12_readAgain_37 (by decide +kernel) ?_
      refine lv_icmp_eq (pc := 38) (tgt := 51) E.1 E.2.1 dX12_readAgain_38 (by decide) (fun _ => ?_) (fun c_45 => absurd (meqE (a := (-1)) (b := (-1)) (by decide +kernel) (by decide +kernel) (by omega)) c_45)
      refine lv_iconst (pc := 51) (v := (-1)) E.1 E.2.1 dX12_readAgain_51 (by decide +kernel) ?_
      exact em_i (w1 := (fun (u : Int32 × Int32 × Int32 × Int32 × Int32 × Int32 × (Nat → Int32) × (Nat → Int32) × Int32 × Int32) => (MW cI cJ M mr (upd (upd (upd (upd (upd (upd (upd (upd mi 22 u.1) 23 u.2.1) 24 u.2.2.1) 25 u.2.2.2.1) 38 u.2.2.2.2.1) 39 u.2.2.2.2.2.1) 48 u.2.2.2.2.2.2.2.2.1) 35 u.2.2.2.2.2.2.2.2.2) (va_up (va_up mf 46 u.2.2.2.2.2.2.1) 47 u.2.2.2.2.2.2.2.1) mg))) E hr hlk (nspot_26, nfrom_27, ntoken_28, nvalue_29, nreadFault_30, nreadPlace_31, (mf 46), (mf 47), (mi 48), v_5) hw32 ⟨hp_33, hp_34, hp_35, hp_36, hp_37, hp_38, (by show (mi 35).toInt ≤ v_5.toInt; have k_0 : ((-1) : Int32).toInt = -1 := (by decide +kernel); omega), (by show v_5.toInt ≤ 4; have k_0 : ((-1) : Int32).toInt = -1 := (by decide +kernel); omega), hp_39, (fun h => absurd h (by decide +kernel)), (Or.inl rfl)⟩ (Nat.le_of_ble_eq_true rfl) (Nat.le_of_ble_eq_true rfl) dX12_readAgain_52
    · skip
      have ha_41 : (1 : Int32).toInt ≤ r_24.toInt := ha_41
      rw [show (1 : Int32).toInt = 1 from by decide +kernel] at ha_41
      have ha_42 : r_24.toInt ≤ (9 : Int32).toInt := ha_42
      rw [show (9 : Int32).toInt = 9 from by decide +kernel] at ha_42
      have ha_43 : nfrom_11.toInt + 1 ≤ nfrom_27.toInt := ha_43
      refine lv_istore_n (pc := 35) (lv' := [(1, .int r_24), (0, .ref M)]) E.1 E.2.1 dX12_readAgain_35 rfl hl3 (by decide) rfl (fun ls hl46 => ?_)
      refine lv_iload_n (pc := 36) E.1 E.2.1 dX12_readAgain_36 rfl (lv_at hl46 0 rfl) ?_
      refine lv_iconst (pc := 37) (v := (-1)) E.1 E.2.1 dX12_readAgain_37 (by decide +kernel) ?_
      refine lv_icmp_eq (pc := 38) (tgt := 51) E.1 E.2.1 dX12_readAgain_38 (by decide) (fun c_47 => absurd c_47 (mneE (a := r_24.toInt) (b := (-1)) rfl (by decide +kernel) (by omega))) (fun _ => ?_)
      refine lv_aload_n (pc := 41) E.1 E.2.1 dX12_readAgain_41 rfl (lv_at hl46 1 rfl) ?_
      refine lv_bipush (pc := 42) (v := 40) E.1 E.2.1 dX12_readAgain_42 (by decide +kernel) ?_
      refine cm_i (pc := 44) hw32 (rn_M (As := [.int 40]) (rest := []) E hw32 (s_readMark l D cI cJ _ M mr (upd (upd (upd (upd (upd (upd (upd mi 22 nspot_26) 23 nfrom_27) 24 ntoken_28) 25 nvalue_29) 35 v_5) 38 nreadFault_30) 39 nreadPlace_31) mf mg 40 hp_33 hp_34 hp_35 h3 hp_36 hp_37 hp_38 h7 (show (∀ j : Nat, j < 154 → (mf 26) j = w0 j) from lf_words) (show AGN ntoken_28.toInt nvalue_29.toInt nfrom_27.toInt nspot_26.toInt from hp_39)) (gdV q_1714 q_1716 q_64 q_162 q_1717) hdV_X12_readMark ⟨rfl, rfl⟩ ⟨(Nat.le_of_ble_eq_true rfl), (Nat.le_of_ble_eq_true rfl)⟩ ⟨(Nat.le_of_ble_eq_true rfl), (Nat.le_of_ble_eq_true rfl)⟩ 12 rfl rfl rfl rfl hl46.1 rfl (Nat.le_of_ble_eq_true rfl) dX12_readAgain_44) (fun r_49 u_48 H1 locs hp hw50 => ?_)
      obtain ⟨nspot_51, nfrom_52, ntoken_53, nvalue_54, nreadFault_55, nreadPlace_56⟩ := u_48
      generalize H1 = H at hw50 ⊢
      have hw57 : WD D A s.heap (MW cI cJ M mr (upd (upd (upd (upd (upd (upd (upd mi 22 nspot_51) 23 nfrom_52) 24 ntoken_53) 25 nvalue_54) 35 v_5) 38 nreadFault_55) 39 nreadPlace_56) mf mg) H locs := hw50
      obtain ⟨hp_58, hp_59, hp_60, hp_61, hp_62, hp_63, hp_64, hp_65⟩ := hp
      have hp_58 : 0 ≤ nfrom_52.toInt := hp_58
      have hp_59 : nfrom_52.toInt ≤ nspot_51.toInt := hp_59
      have hp_60 : nspot_51.toInt ≤ (mi 21).toInt := hp_60
      have hp_61 : 0 ≤ ntoken_53.toInt := hp_61
      have hp_62 : ntoken_53.toInt ≤ 4 := hp_62
      have hp_63 : ntoken_53.toInt ≤ 4 * nspot_51.toInt - 4 * nfrom_52.toInt := hp_63
      have hp_64 : AGN ntoken_53.toInt nvalue_54.toInt nfrom_52.toInt nspot_51.toInt := hp_64
      rcases hp_65 with rfl | ⟨rfl, ha_66⟩
      · skip
        refine lv_iconst (pc := 47) (v := (-1)) E.1 E.2.1 dX12_readAgain_47 (by decide +kernel) ?_
        refine lv_icmp_ne (pc := 48) (tgt := 53) E.1 E.2.1 dX12_readAgain_48 (by decide) (fun c_67 => absurd (meqE (a := (-1)) (b := (-1)) (by decide +kernel) (by decide +kernel) (by omega)) c_67) (fun _ => ?_)
        refine lv_iconst (pc := 51) (v := (-1)) E.1 E.2.1 dX12_readAgain_51 (by decide +kernel) ?_
        exact em_i (w1 := (fun (u : Int32 × Int32 × Int32 × Int32 × Int32 × Int32 × (Nat → Int32) × (Nat → Int32) × Int32 × Int32) => (MW cI cJ M mr (upd (upd (upd (upd (upd (upd (upd (upd mi 22 u.1) 23 u.2.1) 24 u.2.2.1) 25 u.2.2.2.1) 38 u.2.2.2.2.1) 39 u.2.2.2.2.2.1) 48 u.2.2.2.2.2.2.2.2.1) 35 u.2.2.2.2.2.2.2.2.2) (va_up (va_up mf 46 u.2.2.2.2.2.2.1) 47 u.2.2.2.2.2.2.2.1) mg))) E hr hlk (nspot_51, nfrom_52, ntoken_53, nvalue_54, nreadFault_55, nreadPlace_56, (mf 46), (mf 47), (mi 48), v_5) hw57 ⟨hp_58, hp_59, hp_60, hp_61, hp_62, hp_63, (by show (mi 35).toInt ≤ v_5.toInt; have k_0 : ((-1) : Int32).toInt = -1 := (by decide +kernel); omega), (by show v_5.toInt ≤ 4; have k_0 : ((-1) : Int32).toInt = -1 := (by decide +kernel); omega), hp_64, (fun h => absurd h (by decide +kernel)), (Or.inl rfl)⟩ (Nat.le_of_ble_eq_true rfl) (Nat.le_of_ble_eq_true rfl) dX12_readAgain_52
      · skip
        have ha_66 : nfrom_27.toInt + 1 ≤ nfrom_52.toInt := ha_66
        refine lv_iconst (pc := 47) (v := (-1)) E.1 E.2.1 dX12_readAgain_47 (by decide +kernel) ?_
        refine lv_icmp_ne (pc := 48) (tgt := 53) E.1 E.2.1 dX12_readAgain_48 (by decide) (fun _ => ?_) (fun c_68 => absurd c_68 (mneE (a := 0) (b := (-1)) (by decide +kernel) (by decide +kernel) (by omega)))
        refine lv_aload_n (pc := 53) E.1 E.2.1 dX12_readAgain_53 rfl (lv_at hl46 1 rfl) ?_
        refine lv_iconst (pc := 54) (v := 2) E.1 E.2.1 dX12_readAgain_54 (by decide +kernel) ?_
        refine lv_iload_n (pc := 55) E.1 E.2.1 dX12_readAgain_55 rfl (lv_at hl46 0 rfl) ?_
        refine cm_v (pc := 56) hw57 (rn_M (As := [.int 2, .int r_24]) (rest := []) E hw57 (s_emitsStep l D cI cJ _ M mr (upd (upd (upd (upd (upd (upd (upd mi 22 nspot_51) 23 nfrom_52) 24 ntoken_53) 25 nvalue_54) 35 v_5) 38 nreadFault_55) 39 nreadPlace_56) mf mg 2 r_24 (by show 0 ≤ (mi 48).toInt ∧ (mi 48).toInt ≤ 139; omega)) (gdV q_1746 q_1748 q_72 q_162 q_1749) hdV_X12_emitsStep ⟨rfl, rfl⟩ ⟨(Nat.le_of_ble_eq_true rfl), (Nat.le_of_ble_eq_true rfl)⟩ ⟨(Nat.le_of_ble_eq_true rfl), (Nat.le_of_ble_eq_true rfl)⟩ 12 rfl rfl rfl rfl hl46.1 rfl (Nat.le_of_ble_eq_true rfl) dX12_readAgain_56) (fun u_69 H1 locs hp hw71 => ?_)
        obtain ⟨gstepOp_72, gstepHow_73, nsteps_74⟩ := u_69
        generalize H1 = H at hw71 ⊢
        have hw75 : WD D A s.heap (MW cI cJ M mr (upd (upd (upd (upd (upd (upd (upd (upd mi 22 nspot_51) 23 nfrom_52) 24 ntoken_53) 25 nvalue_54) 35 v_5) 38 nreadFault_55) 39 nreadPlace_56) 48 nsteps_74) (va_up (va_up mf 46 gstepOp_72) 47 gstepHow_73) mg) H locs := hw71
        obtain ⟨hp_76, hp_77⟩ := hp
        have hp_76 : nsteps_74.toInt = (mi 48).toInt + 1 := hp_76
        have hp_77 : EM (mf 46) (mf 47) gstepOp_72 gstepHow_73 (((mi 48).toInt).toNat) (2 : Int32) r_24 := hp_77
        refine lv_iconst (pc := 59) (v := 0) E.1 E.2.1 dX12_readAgain_59 (by decide +kernel) ?_
        exact em_i (w1 := (fun (u : Int32 × Int32 × Int32 × Int32 × Int32 × Int32 × (Nat → Int32) × (Nat → Int32) × Int32 × Int32) => (MW cI cJ M mr (upd (upd (upd (upd (upd (upd (upd (upd mi 22 u.1) 23 u.2.1) 24 u.2.2.1) 25 u.2.2.2.1) 38 u.2.2.2.2.1) 39 u.2.2.2.2.2.1) 48 u.2.2.2.2.2.2.2.2.1) 35 u.2.2.2.2.2.2.2.2.2) (va_up (va_up mf 46 u.2.2.2.2.2.2.1) 47 u.2.2.2.2.2.2.2.1) mg))) E hr hlk (nspot_51, nfrom_52, ntoken_53, nvalue_54, nreadFault_55, nreadPlace_56, gstepOp_72, gstepHow_73, nsteps_74, v_5) hw75 ⟨hp_58, hp_59, hp_60, hp_61, hp_62, hp_63, (by show (mi 35).toInt ≤ v_5.toInt; have k_0 : (0 : Int32).toInt = 0 := (by decide +kernel); omega), (by show v_5.toInt ≤ 4; have k_0 : (0 : Int32).toInt = 0 := (by decide +kernel); omega), hp_64, (fun _ => (show (∀ t : Nat, t ≤ 3 → RSP (mf 46) (mf 47) (mi 6).toInt (((mi 48).toInt).toNat) t → RSP gstepOp_72 gstepHow_73 (mi 6).toInt ((nsteps_74.toInt).toNat) (t + 1)) from (fun t ht q => RSP_snoc q hp_77 (Or.inr (Or.inr (Or.inl ⟨rfl, (by omega), ht, rfl⟩))) (by omega)))), (Or.inr (⟨rfl, (by show (mi 23).toInt + 5 ≤ nfrom_52.toInt; omega), hp_76, (by show v_5.toInt = (mi 35).toInt + 1; omega), (by show v_5.toInt ≤ 4; omega)⟩))⟩ (Nat.le_of_ble_eq_true rfl) (Nat.le_of_ble_eq_true rfl) dX12_readAgain_60
  · skip
    have hc_4 := eqE (a := (mi 35).toInt) (b := 4) rfl (by decide +kernel) c_4
    refine lv_aload_n (pc := 8) E.1 E.2.1 dX12_readAgain_8 rfl (lv_at hl3 0 rfl) ?_
    refine lv_iconst (pc := 9) (v := 3) E.1 E.2.1 dX12_readAgain_9 (by decide +kernel) ?_
    refine cm_i (pc := 10) hw1 (rn_M (As := [.int 3]) (rest := []) E hw1 (s_errs2 l D cI cJ _ M mr mi mf mg 3) (gdV q_1698 q_1700 q_60 q_162 q_1701) hdV_X12_errs ⟨rfl, rfl⟩ ⟨(Nat.le_of_ble_eq_true rfl), (Nat.le_of_ble_eq_true rfl)⟩ ⟨(Nat.le_of_ble_eq_true rfl), (Nat.le_of_ble_eq_true rfl)⟩ 12 rfl rfl rfl rfl hl3.1 rfl (Nat.le_of_ble_eq_true rfl) dX12_readAgain_10) (fun r_79 u_78 H1 locs hp hw80 => ?_)
    obtain ⟨nreadFault_81, nreadPlace_82⟩ := u_78
    generalize H1 = H at hw80 ⊢
    have hw83 : WD D A s.heap (MW cI cJ M mr (upd (upd mi 38 nreadFault_81) 39 nreadPlace_82) mf mg) H locs := hw80
    have hp_84 := hp
    rcases hp_84 with rfl
    · skip
      exact em_i (w1 := (fun (u : Int32 × Int32 × Int32 × Int32 × Int32 × Int32 × (Nat → Int32) × (Nat → Int32) × Int32 × Int32) => (MW cI cJ M mr (upd (upd (upd (upd (upd (upd (upd (upd mi 22 u.1) 23 u.2.1) 24 u.2.2.1) 25 u.2.2.2.1) 38 u.2.2.2.2.1) 39 u.2.2.2.2.2.1) 48 u.2.2.2.2.2.2.2.2.1) 35 u.2.2.2.2.2.2.2.2.2) (va_up (va_up mf 46 u.2.2.2.2.2.2.1) 47 u.2.2.2.2.2.2.2.1) mg))) E hr hlk ((mi 22), (mi 23), (mi 24), (mi 25), nreadFault_81, nreadPlace_82, (mf 46), (mf 47), (mi 48), (mi 35)) hw83 ⟨h0, h1, h2, h4, h5, h6, (by show (mi 35).toInt ≤ (mi 35).toInt; have k_0 : ((-1) : Int32).toInt = -1 := (by decide +kernel); omega), h13.2, lf_again, (fun h => absurd h (by decide +kernel)), (Or.inl rfl)⟩ (Nat.le_of_ble_eq_true rfl) (Nat.le_of_ble_eq_true rfl) dX12_readAgain_13

set_option maxHeartbeats 4000000 in
set_option maxRecDepth 100000 in
theorem s_readAgainEnd (l : Launch) (D : va_G) (cI cJ : ClassId) (sz M : Nat) (mr : Nat → Nat) (mi : Nat → Int32) (mf : Nat → Nat → Int32) (mg : Nat → Nat → Int64)  (h0 : 0 ≤ (mi 23).toInt) (h1 : (mi 23).toInt ≤ (mi 22).toInt) (h2 : (mi 22).toInt ≤ (mi 21).toInt) (h3 : (mi 21).toInt ≤ 400) (h4 : 0 ≤ (mi 24).toInt) (h5 : (mi 24).toInt ≤ 4) (h6 : (mi 24).toInt ≤ 4 * (mi 22).toInt - 4 * (mi 23).toInt) (h7 : ((mf 26) 153).toInt = 32) (h8 : 0 ≤ (mi 6).toInt ∧ (mi 6).toInt ≤ 10) (h9 : 0 ≤ (mi 48).toInt) (h10 : 3 * (mi 48).toInt ≤ (mi 23).toInt) (h11 : 1 ≤ (mi 24).toInt) (h12 : 1 ≤ (mi 35).toInt ∧ (mi 35).toInt ≤ 4) (lf_words : (∀ j : Nat, j < 154 → (mf 26) j = w0 j)) (lf_again : AGN ((mi 24).toInt) ((mi 25).toInt) ((mi 23).toInt) ((mi 22).toInt)) : Met l yX12_readAgainEnd (Cond.code yX12_readAgainEnd cX12_readAgainEnd 1 (some .int) :: GW) ({ frames := 4, cells := 0, slots := 0, locals := 105 } : Room) (va_Pc [.ref M] (PW D cI cJ sz (MW cI cJ M mr mi mf mg) xT)) (va_Qi (fun (r : Int32) (u : Int32 × Int32 × Int32 × Int32 × Int32 × Int32 × (Nat → Int32) × (Nat → Int32) × Int32 × Int32) => (0 ≤ u.2.1.toInt) ∧ (u.2.1.toInt ≤ u.1.toInt) ∧ (u.1.toInt ≤ (mi 21).toInt) ∧ (0 ≤ u.2.2.1.toInt) ∧ (u.2.2.1.toInt ≤ 4) ∧ (u.2.2.1.toInt ≤ 4 * u.1.toInt - 4 * u.2.1.toInt) ∧ (AGN u.2.2.1.toInt u.2.2.2.1.toInt u.2.1.toInt u.1.toInt) ∧ (r = 0 → (∀ t : Nat, RSP (mf 46) (mf 47) (mi 6).toInt (((mi 48).toInt).toNat) (t + 1) → RSP u.2.2.2.2.2.2.1 u.2.2.2.2.2.2.2.1 (mi 6).toInt ((u.2.2.2.2.2.2.2.2.1.toInt).toNat) t)) ∧ ((r = 0 ∧ (mi 23).toInt + 1 ≤ u.2.1.toInt ∧ u.2.2.2.2.2.2.2.2.1.toInt = (mi 48).toInt + 1 ∧ u.2.2.2.2.2.2.2.2.2.toInt = (mi 35).toInt - 1))) (fun u => QW D cI cJ (va_A (MW cI cJ M mr mi mf mg) sz) ((fun (u : Int32 × Int32 × Int32 × Int32 × Int32 × Int32 × (Nat → Int32) × (Nat → Int32) × Int32 × Int32) => (MW cI cJ M mr (upd (upd (upd (upd (upd (upd (upd (upd mi 22 u.1) 23 u.2.1) 24 u.2.2.1) 25 u.2.2.2.1) 38 u.2.2.2.2.1) 39 u.2.2.2.2.2.1) 48 u.2.2.2.2.2.2.2.2.1) 35 u.2.2.2.2.2.2.2.2.2) (va_up (va_up mf 46 u.2.2.2.2.2.2.1) 47 u.2.2.2.2.2.2.2.1) mg)) u)) (va_A (MW cI cJ M mr mi mf mg) sz)) 0 0 (va_A (MW cI cJ M mr mi mf mg) sz) := by
  refine mk_met (y := yX12_readAgainEnd) (bytes := cX12_readAgainEnd) (maxL := 1) (avs := [.ref M]) (WS := (MW cI cJ M mr mi mf mg)) (Qf := fun A => va_Qi (fun (r : Int32) (u : Int32 × Int32 × Int32 × Int32 × Int32 × Int32 × (Nat → Int32) × (Nat → Int32) × Int32 × Int32) => (0 ≤ u.2.1.toInt) ∧ (u.2.1.toInt ≤ u.1.toInt) ∧ (u.1.toInt ≤ (mi 21).toInt) ∧ (0 ≤ u.2.2.1.toInt) ∧ (u.2.2.1.toInt ≤ 4) ∧ (u.2.2.1.toInt ≤ 4 * u.1.toInt - 4 * u.2.1.toInt) ∧ (AGN u.2.2.1.toInt u.2.2.2.1.toInt u.2.1.toInt u.1.toInt) ∧ (r = 0 → (∀ t : Nat, RSP (mf 46) (mf 47) (mi 6).toInt (((mi 48).toInt).toNat) (t + 1) → RSP u.2.2.2.2.2.2.1 u.2.2.2.2.2.2.2.1 (mi 6).toInt ((u.2.2.2.2.2.2.2.2.1.toInt).toNat) t)) ∧ ((r = 0 ∧ (mi 23).toInt + 1 ≤ u.2.1.toInt ∧ u.2.2.2.2.2.2.2.2.1.toInt = (mi 48).toInt + 1 ∧ u.2.2.2.2.2.2.2.2.2.toInt = (mi 35).toInt - 1))) (fun u => QW D cI cJ A ((fun (u : Int32 × Int32 × Int32 × Int32 × Int32 × Int32 × (Nat → Int32) × (Nat → Int32) × Int32 × Int32) => (MW cI cJ M mr (upd (upd (upd (upd (upd (upd (upd (upd mi 22 u.1) 23 u.2.1) 24 u.2.2.1) 25 u.2.2.2.1) 38 u.2.2.2.2.1) 39 u.2.2.2.2.2.1) 48 u.2.2.2.2.2.2.2.2.1) 35 u.2.2.2.2.2.2.2.2.2) (va_up (va_up mf 46 u.2.2.2.2.2.2.1) 47 u.2.2.2.2.2.2.2.1) mg)) u)) A) (by decide) (Nat.le_of_ble_eq_true rfl) ?_
  intro p e s m below meth c A ls E hr hlk hnm hX hw1 hl2
  have hl3 : lv_has ls 1 [(0, .ref M)] := hl2
  refine lv_aload_n (pc := 0) E.1 E.2.1 dX12_readAgainEnd_0 rfl (lv_at hl3 0 rfl) ?_
  refine lv_aload_n (pc := 1) E.1 E.2.1 dX12_readAgainEnd_1 rfl (lv_at hl3 0 rfl) ?_
  refine x_get (pc := 2) (T := TX12) (N := 70) (ci := 12) (v := .int (mi 35)) E hw1 inX12 0 35 q_1434 rfl rfl (by decide) rfl rfl dX12_readAgainEnd_2 ?_
  refine lv_iconst (pc := 5) (v := 1) E.1 E.2.1 dX12_readAgainEnd_5 (by decide +kernel) ?_
  refine lv_isub (pc := 6) E.1 E.2.1 dX12_readAgainEnd_6 ?_
  refine lv_topi (fun v_4 ev_4 => ?_)
  have hv_4 : v_4.toInt = (mi 35).toInt - 1 := by rw [ev_4]; exact subE rfl (by decide +kernel) (by omega)
  refine x_put (pc := 7) (T := TX12) (N := 70) (ci := 12) (ws' := (MW cI cJ M mr (upd mi 35 v_4) mf mg)) E hw1 inX12 tyX12_ok nmX12 0 35 q_1434 rfl rfl (by decide) rfl rfl rfl rfl (Nat.le_of_ble_eq_true rfl) rfl dX12_readAgainEnd_7 (fun H locs hw5 => ?_)
  refine lv_aload_n (pc := 10) E.1 E.2.1 dX12_readAgainEnd_10 rfl (lv_at hl3 0 rfl) ?_
  refine cm_v (pc := 11) hw5 (rn_M (As := []) (rest := []) E hw5 (s_reads2 l D cI cJ _ M mr (upd mi 35 v_4) mf mg (by show 0 ≤ (mi 22).toInt; omega) h2 h3 h7 (show (∀ j : Nat, j < 154 → (mf 26) j = w0 j) from lf_words)) (gdV q_1666 q_1668 q_52 q_162 q_1669) hdV_X12_reads ⟨rfl, rfl⟩ ⟨(Nat.le_of_ble_eq_true rfl), (Nat.le_of_ble_eq_true rfl)⟩ ⟨(Nat.le_of_ble_eq_true rfl), (Nat.le_of_ble_eq_true rfl)⟩ 12 rfl rfl rfl rfl hl3.1 rfl (Nat.le_of_ble_eq_true rfl) dX12_readAgainEnd_11) (fun u_6 H1 locs hp hw8 => ?_)
  obtain ⟨nspot_9, nfrom_10, ntoken_11, nvalue_12⟩ := u_6
  generalize H1 = H at hw8 ⊢
  have hw13 : WD D A s.heap (MW cI cJ M mr (upd (upd (upd (upd (upd mi 22 nspot_9) 23 nfrom_10) 24 ntoken_11) 25 nvalue_12) 35 v_4) mf mg) H locs := hw8
  obtain ⟨hp_14, hp_15, hp_16, hp_17, hp_18, hp_19, hp_20, hp_21⟩ := hp
  have hp_14 : 0 ≤ nfrom_10.toInt := hp_14
  have hp_15 : nfrom_10.toInt ≤ nspot_9.toInt := hp_15
  have hp_16 : nspot_9.toInt ≤ (mi 21).toInt := hp_16
  have hp_17 : 0 ≤ ntoken_11.toInt := hp_17
  have hp_18 : ntoken_11.toInt ≤ 4 := hp_18
  have hp_19 : ntoken_11.toInt ≤ 4 * nspot_9.toInt - 4 * nfrom_10.toInt := hp_19
  have hp_20 : (mi 22).toInt ≤ nfrom_10.toInt := hp_20
  have hp_21 : AGN ntoken_11.toInt nvalue_12.toInt nfrom_10.toInt nspot_9.toInt := hp_21
  refine lv_aload_n (pc := 14) E.1 E.2.1 dX12_readAgainEnd_14 rfl (lv_at hl3 0 rfl) ?_
  refine lv_iconst (pc := 15) (v := 3) E.1 E.2.1 dX12_readAgainEnd_15 (by decide +kernel) ?_
  refine lv_iconst (pc := 16) (v := 0) E.1 E.2.1 dX12_readAgainEnd_16 (by decide +kernel) ?_
  refine cm_v (pc := 17) hw13 (rn_M (As := [.int 3, .int 0]) (rest := []) E hw13 (s_emitsStep l D cI cJ _ M mr (upd (upd (upd (upd (upd mi 22 nspot_9) 23 nfrom_10) 24 ntoken_11) 25 nvalue_12) 35 v_4) mf mg 3 0 (by show 0 ≤ (mi 48).toInt ∧ (mi 48).toInt ≤ 139; omega)) (gdV q_1746 q_1748 q_72 q_162 q_1749) hdV_X12_emitsStep ⟨rfl, rfl⟩ ⟨(Nat.le_of_ble_eq_true rfl), (Nat.le_of_ble_eq_true rfl)⟩ ⟨(Nat.le_of_ble_eq_true rfl), (Nat.le_of_ble_eq_true rfl)⟩ 12 rfl rfl rfl rfl hl3.1 rfl (Nat.le_of_ble_eq_true rfl) dX12_readAgainEnd_17) (fun u_22 H1 locs hp hw24 => ?_)
  obtain ⟨gstepOp_25, gstepHow_26, nsteps_27⟩ := u_22
  generalize H1 = H at hw24 ⊢
  have hw28 : WD D A s.heap (MW cI cJ M mr (upd (upd (upd (upd (upd (upd mi 22 nspot_9) 23 nfrom_10) 24 ntoken_11) 25 nvalue_12) 35 v_4) 48 nsteps_27) (va_up (va_up mf 46 gstepOp_25) 47 gstepHow_26) mg) H locs := hw24
  obtain ⟨hp_29, hp_30⟩ := hp
  have hp_29 : nsteps_27.toInt = (mi 48).toInt + 1 := hp_29
  have hp_30 : EM (mf 46) (mf 47) gstepOp_25 gstepHow_26 (((mi 48).toInt).toNat) (3 : Int32) (0 : Int32) := hp_30
  refine lv_iconst (pc := 20) (v := 0) E.1 E.2.1 dX12_readAgainEnd_20 (by decide +kernel) ?_
  exact em_i (w1 := (fun (u : Int32 × Int32 × Int32 × Int32 × Int32 × Int32 × (Nat → Int32) × (Nat → Int32) × Int32 × Int32) => (MW cI cJ M mr (upd (upd (upd (upd (upd (upd (upd (upd mi 22 u.1) 23 u.2.1) 24 u.2.2.1) 25 u.2.2.2.1) 38 u.2.2.2.2.1) 39 u.2.2.2.2.2.1) 48 u.2.2.2.2.2.2.2.2.1) 35 u.2.2.2.2.2.2.2.2.2) (va_up (va_up mf 46 u.2.2.2.2.2.2.1) 47 u.2.2.2.2.2.2.2.1) mg))) E hr hlk (nspot_9, nfrom_10, ntoken_11, nvalue_12, (mi 38), (mi 39), gstepOp_25, gstepHow_26, nsteps_27, v_4) hw28 ⟨hp_14, hp_15, hp_16, hp_17, hp_18, hp_19, hp_21, (fun _ => (show (∀ t : Nat, RSP (mf 46) (mf 47) (mi 6).toInt (((mi 48).toInt).toNat) (t + 1) → RSP gstepOp_25 gstepHow_26 (mi 6).toInt ((nsteps_27.toInt).toNat) t) from (fun t q => RSP_snoc q hp_30 (Or.inr (Or.inr (Or.inr ⟨rfl, (by omega), rfl⟩))) (by omega)))), (⟨rfl, (by show (mi 23).toInt + 1 ≤ nfrom_10.toInt; omega), hp_29, (by show v_4.toInt = (mi 35).toInt - 1; omega)⟩)⟩ (Nat.le_of_ble_eq_true rfl) (Nat.le_of_ble_eq_true rfl) dX12_readAgainEnd_21

set_option maxHeartbeats 4000000 in
set_option maxRecDepth 100000 in
theorem s_isWord3 (l : Launch) (D : va_G) (cI cJ : ClassId) (sz M : Nat) (mr : Nat → Nat) (mi : Nat → Int32) (mf : Nat → Nat → Int32) (mg : Nat → Nat → Int64) (z_w : Int32)  : Met l yX12_isWord (Cond.code yX12_isWord cX12_isWord 2 (some .boolean) :: GW) ({ frames := 1, cells := 0, slots := 0, locals := 40 } : Room) (va_Pc [.ref M, .int z_w] (PW D cI cJ sz (MW cI cJ M mr mi mf mg) xT)) (va_Qi (fun (r : Int32) (u : Unit) => ((r = 1 ∧ (mi 24).toInt = 2 ∧ (mi 25).toInt = z_w.toInt) ∨ (r = 0 ∧ ¬ (mi 24).toInt = 2) ∨ (r = 0 ∧ ¬ (mi 25).toInt = z_w.toInt))) (fun u => QW D cI cJ (va_A (MW cI cJ M mr mi mf mg) sz) ((fun (u : Unit) => (MW cI cJ M mr mi mf mg)) u)) (va_A (MW cI cJ M mr mi mf mg) sz)) 0 0 (va_A (MW cI cJ M mr mi mf mg) sz) := by
  refine mk_met (y := yX12_isWord) (bytes := cX12_isWord) (maxL := 2) (avs := [.ref M, .int z_w]) (WS := (MW cI cJ M mr mi mf mg)) (Qf := fun A => va_Qi (fun (r : Int32) (u : Unit) => ((r = 1 ∧ (mi 24).toInt = 2 ∧ (mi 25).toInt = z_w.toInt) ∨ (r = 0 ∧ ¬ (mi 24).toInt = 2) ∨ (r = 0 ∧ ¬ (mi 25).toInt = z_w.toInt))) (fun u => QW D cI cJ A ((fun (u : Unit) => (MW cI cJ M mr mi mf mg)) u)) A) (by decide) (Nat.le_of_ble_eq_true rfl) ?_
  intro p e s m below meth c A ls E hr hlk hnm hX hw1 hl2
  have hl3 : lv_has ls 2 [(0, .ref M), (1, .int z_w)] := hl2
  refine lv_aload_n (pc := 0) E.1 E.2.1 dX12_isWord_0 rfl (lv_at hl3 0 rfl) ?_
  refine x_get (pc := 1) (T := TX12) (N := 70) (ci := 12) (v := .int (mi 24)) E hw1 inX12 0 24 q_1423 rfl rfl (by decide) rfl rfl dX12_isWord_1 ?_
  refine lv_iconst (pc := 4) (v := 2) E.1 E.2.1 dX12_isWord_4 (by decide +kernel) ?_
  refine lv_icmp_ne (pc := 5) (tgt := 20) E.1 E.2.1 dX12_isWord_5 (by decide) (fun c_4 => ?_) (fun c_4 => ?_)
  · skip
    have hc_4 := neE (a := (mi 24).toInt) (b := 2) rfl (by decide +kernel) c_4
    refine lv_iconst (pc := 20) (v := 0) E.1 E.2.1 dX12_isWord_20 (by decide +kernel) ?_
    exact em_z (w1 := (fun (u : Unit) => (MW cI cJ M mr mi mf mg))) E hr hlk () hw1 (Or.inr (Or.inl ⟨rfl, (by show ¬ (mi 24).toInt = 2; omega)⟩)) (by decide +kernel) (Nat.le_of_ble_eq_true rfl) (Nat.le_of_ble_eq_true rfl) dX12_isWord_21
  · skip
    have hc_4 := eqE (a := (mi 24).toInt) (b := 2) rfl (by decide +kernel) c_4
    refine lv_aload_n (pc := 8) E.1 E.2.1 dX12_isWord_8 rfl (lv_at hl3 0 rfl) ?_
    refine x_get (pc := 9) (T := TX12) (N := 70) (ci := 12) (v := .int (mi 25)) E hw1 inX12 0 25 q_1424 rfl rfl (by decide) rfl rfl dX12_isWord_9 ?_
    refine lv_iload_n (pc := 12) E.1 E.2.1 dX12_isWord_12 rfl (lv_at hl3 1 rfl) ?_
    refine lv_icmp_ne (pc := 13) (tgt := 20) E.1 E.2.1 dX12_isWord_13 (by decide) (fun c_5 => ?_) (fun c_5 => ?_)
    · skip
      have hc_5 := neE (a := (mi 25).toInt) (b := z_w.toInt) rfl rfl c_5
      refine lv_iconst (pc := 20) (v := 0) E.1 E.2.1 dX12_isWord_20 (by decide +kernel) ?_
      exact em_z (w1 := (fun (u : Unit) => (MW cI cJ M mr mi mf mg))) E hr hlk () hw1 (Or.inr (Or.inr (⟨rfl, (by show ¬ (mi 25).toInt = z_w.toInt; omega)⟩))) (by decide +kernel) (Nat.le_of_ble_eq_true rfl) (Nat.le_of_ble_eq_true rfl) dX12_isWord_21
    · skip
      have hc_5 := eqE (a := (mi 25).toInt) (b := z_w.toInt) rfl rfl c_5
      refine lv_iconst (pc := 16) (v := 1) E.1 E.2.1 dX12_isWord_16 (by decide +kernel) ?_
      refine lv_goto (pc := 17) (tgt := 21) E.1 E.2.1 dX12_isWord_17 (by decide) ?_
      exact em_z (w1 := (fun (u : Unit) => (MW cI cJ M mr mi mf mg))) E hr hlk () hw1 (Or.inl ⟨rfl, (by show (mi 24).toInt = 2; omega), (by show (mi 25).toInt = z_w.toInt; omega)⟩) (by decide +kernel) (Nat.le_of_ble_eq_true rfl) (Nat.le_of_ble_eq_true rfl) dX12_isWord_21

set_option maxHeartbeats 4000000 in
set_option maxRecDepth 100000 in
theorem s_isSign3 (l : Launch) (D : va_G) (cI cJ : ClassId) (sz M : Nat) (mr : Nat → Nat) (mi : Nat → Int32) (mf : Nat → Nat → Int32) (mg : Nat → Nat → Int64) (z_c : Int32)  : Met l yX12_isSign (Cond.code yX12_isSign cX12_isSign 2 (some .boolean) :: GW) ({ frames := 1, cells := 0, slots := 0, locals := 40 } : Room) (va_Pc [.ref M, .int z_c] (PW D cI cJ sz (MW cI cJ M mr mi mf mg) xT)) (va_Qi (fun (r : Int32) (u : Unit) => ((r = 1 ∧ (mi 24).toInt = 4 ∧ (mi 25).toInt = z_c.toInt) ∨ (r = 0 ∧ ¬ (mi 24).toInt = 4) ∨ (r = 0 ∧ ¬ (mi 25).toInt = z_c.toInt))) (fun u => QW D cI cJ (va_A (MW cI cJ M mr mi mf mg) sz) ((fun (u : Unit) => (MW cI cJ M mr mi mf mg)) u)) (va_A (MW cI cJ M mr mi mf mg) sz)) 0 0 (va_A (MW cI cJ M mr mi mf mg) sz) := by
  refine mk_met (y := yX12_isSign) (bytes := cX12_isSign) (maxL := 2) (avs := [.ref M, .int z_c]) (WS := (MW cI cJ M mr mi mf mg)) (Qf := fun A => va_Qi (fun (r : Int32) (u : Unit) => ((r = 1 ∧ (mi 24).toInt = 4 ∧ (mi 25).toInt = z_c.toInt) ∨ (r = 0 ∧ ¬ (mi 24).toInt = 4) ∨ (r = 0 ∧ ¬ (mi 25).toInt = z_c.toInt))) (fun u => QW D cI cJ A ((fun (u : Unit) => (MW cI cJ M mr mi mf mg)) u)) A) (by decide) (Nat.le_of_ble_eq_true rfl) ?_
  intro p e s m below meth c A ls E hr hlk hnm hX hw1 hl2
  have hl3 : lv_has ls 2 [(0, .ref M), (1, .int z_c)] := hl2
  refine lv_aload_n (pc := 0) E.1 E.2.1 dX12_isSign_0 rfl (lv_at hl3 0 rfl) ?_
  refine x_get (pc := 1) (T := TX12) (N := 70) (ci := 12) (v := .int (mi 24)) E hw1 inX12 0 24 q_1423 rfl rfl (by decide) rfl rfl dX12_isSign_1 ?_
  refine lv_iconst (pc := 4) (v := 4) E.1 E.2.1 dX12_isSign_4 (by decide +kernel) ?_
  refine lv_icmp_ne (pc := 5) (tgt := 20) E.1 E.2.1 dX12_isSign_5 (by decide) (fun c_4 => ?_) (fun c_4 => ?_)
  · skip
    have hc_4 := neE (a := (mi 24).toInt) (b := 4) rfl (by decide +kernel) c_4
    refine lv_iconst (pc := 20) (v := 0) E.1 E.2.1 dX12_isSign_20 (by decide +kernel) ?_
    exact em_z (w1 := (fun (u : Unit) => (MW cI cJ M mr mi mf mg))) E hr hlk () hw1 (Or.inr (Or.inl ⟨rfl, (by show ¬ (mi 24).toInt = 4; omega)⟩)) (by decide +kernel) (Nat.le_of_ble_eq_true rfl) (Nat.le_of_ble_eq_true rfl) dX12_isSign_21
  · skip
    have hc_4 := eqE (a := (mi 24).toInt) (b := 4) rfl (by decide +kernel) c_4
    refine lv_aload_n (pc := 8) E.1 E.2.1 dX12_isSign_8 rfl (lv_at hl3 0 rfl) ?_
    refine x_get (pc := 9) (T := TX12) (N := 70) (ci := 12) (v := .int (mi 25)) E hw1 inX12 0 25 q_1424 rfl rfl (by decide) rfl rfl dX12_isSign_9 ?_
    refine lv_iload_n (pc := 12) E.1 E.2.1 dX12_isSign_12 rfl (lv_at hl3 1 rfl) ?_
    refine lv_icmp_ne (pc := 13) (tgt := 20) E.1 E.2.1 dX12_isSign_13 (by decide) (fun c_5 => ?_) (fun c_5 => ?_)
    · skip
      have hc_5 := neE (a := (mi 25).toInt) (b := z_c.toInt) rfl rfl c_5
      refine lv_iconst (pc := 20) (v := 0) E.1 E.2.1 dX12_isSign_20 (by decide +kernel) ?_
      exact em_z (w1 := (fun (u : Unit) => (MW cI cJ M mr mi mf mg))) E hr hlk () hw1 (Or.inr (Or.inr (⟨rfl, (by show ¬ (mi 25).toInt = z_c.toInt; omega)⟩))) (by decide +kernel) (Nat.le_of_ble_eq_true rfl) (Nat.le_of_ble_eq_true rfl) dX12_isSign_21
    · skip
      have hc_5 := eqE (a := (mi 25).toInt) (b := z_c.toInt) rfl rfl c_5
      refine lv_iconst (pc := 16) (v := 1) E.1 E.2.1 dX12_isSign_16 (by decide +kernel) ?_
      refine lv_goto (pc := 17) (tgt := 21) E.1 E.2.1 dX12_isSign_17 (by decide) ?_
      exact em_z (w1 := (fun (u : Unit) => (MW cI cJ M mr mi mf mg))) E hr hlk () hw1 (Or.inl ⟨rfl, (by show (mi 24).toInt = 4; omega), (by show (mi 25).toInt = z_c.toInt; omega)⟩) (by decide +kernel) (Nat.le_of_ble_eq_true rfl) (Nat.le_of_ble_eq_true rfl) dX12_isSign_21

set_option maxHeartbeats 4000000 in
set_option maxRecDepth 100000 in
theorem s_isStep (l : Launch) (D : va_G) (cI cJ : ClassId) (sz M : Nat) (mr : Nat → Nat) (mi : Nat → Int32) (mf : Nat → Nat → Int32) (mg : Nat → Nat → Int64)   : Met l yX12_isStep (Cond.code yX12_isStep cX12_isStep 1 (some .boolean) :: GW) ({ frames := 2, cells := 0, slots := 0, locals := 61 } : Room) (va_Pc [.ref M] (PW D cI cJ sz (MW cI cJ M mr mi mf mg) xT)) (va_Qi (fun (r : Int32) (u : Unit) => ((r = 1 ∧ (mi 24).toInt = 2 ∧ (mi 25).toInt = 28) ∨ (r = 1 ∧ (mi 24).toInt = 2 ∧ (mi 25).toInt = 29) ∨ (r = 0 ∧ ¬ (mi 24).toInt = 2) ∨ (r = 0 ∧ ¬ (mi 25).toInt = 28 ∧ ¬ (mi 25).toInt = 29))) (fun u => QW D cI cJ (va_A (MW cI cJ M mr mi mf mg) sz) ((fun (u : Unit) => (MW cI cJ M mr mi mf mg)) u)) (va_A (MW cI cJ M mr mi mf mg) sz)) 0 0 (va_A (MW cI cJ M mr mi mf mg) sz) := by
  refine mk_met (y := yX12_isStep) (bytes := cX12_isStep) (maxL := 1) (avs := [.ref M]) (WS := (MW cI cJ M mr mi mf mg)) (Qf := fun A => va_Qi (fun (r : Int32) (u : Unit) => ((r = 1 ∧ (mi 24).toInt = 2 ∧ (mi 25).toInt = 28) ∨ (r = 1 ∧ (mi 24).toInt = 2 ∧ (mi 25).toInt = 29) ∨ (r = 0 ∧ ¬ (mi 24).toInt = 2) ∨ (r = 0 ∧ ¬ (mi 25).toInt = 28 ∧ ¬ (mi 25).toInt = 29))) (fun u => QW D cI cJ A ((fun (u : Unit) => (MW cI cJ M mr mi mf mg)) u)) A) (by decide) (Nat.le_of_ble_eq_true rfl) ?_
  intro p e s m below meth c A ls E hr hlk hnm hX hw1 hl2
  have hl3 : lv_has ls 1 [(0, .ref M)] := hl2
  refine lv_aload_n (pc := 0) E.1 E.2.1 dX12_isStep_0 rfl (lv_at hl3 0 rfl) ?_
  refine lv_bipush (pc := 1) (v := 28) E.1 E.2.1 dX12_isStep_1 (by decide +kernel) ?_
  refine cm_i (pc := 3) hw1 (rn_M (As := [.int 28]) (rest := []) E hw1 (s_isWord3 l D cI cJ _ M mr mi mf mg 28) (gdV q_1694 q_1696 q_59 q_162 q_1697) hdV_X12_isWord ⟨rfl, rfl⟩ ⟨(Nat.le_of_ble_eq_true rfl), (Nat.le_of_ble_eq_true rfl)⟩ ⟨(Nat.le_of_ble_eq_true rfl), (Nat.le_of_ble_eq_true rfl)⟩ 12 rfl rfl rfl rfl hl3.1 rfl (Nat.le_of_ble_eq_true rfl) dX12_isStep_3) (fun r_5 u_4 H1 locs hp hw6 => ?_)
  generalize H1 = H at hw6 ⊢
  have hw7 : WD D A s.heap (MW cI cJ M mr mi mf mg) H locs := hw6
  have hp_8 := hp
  rcases hp_8 with ⟨rfl, ha_9, ha_10⟩ | ⟨rfl, ha_11⟩ | ⟨rfl, ha_12⟩
  · skip
    have ha_9 : (mi 24).toInt = 2 := ha_9
    have ha_10 : (mi 25).toInt = (28 : Int32).toInt := ha_10
    rw [show (28 : Int32).toInt = 28 from by decide +kernel] at ha_10
    refine lv_if_ne (pc := 6) (tgt := 18) E.1 E.2.1 dX12_isStep_6 (by decide) (fun _ => ?_) (fun c_13 => absurd c_13 (mneE (a := 1) (b := 0) (by decide +kernel) (by decide +kernel) (by omega)))
    refine lv_iconst (pc := 18) (v := 1) E.1 E.2.1 dX12_isStep_18 (by decide +kernel) ?_
    refine lv_goto (pc := 19) (tgt := 23) E.1 E.2.1 dX12_isStep_19 (by decide) ?_
    exact em_z (w1 := (fun (u : Unit) => (MW cI cJ M mr mi mf mg))) E hr hlk () hw7 (Or.inl ⟨rfl, (by show (mi 24).toInt = 2; omega), (by show (mi 25).toInt = 28; omega)⟩) (by decide +kernel) (Nat.le_of_ble_eq_true rfl) (Nat.le_of_ble_eq_true rfl) dX12_isStep_23
  · skip
    have ha_11 : ¬ (mi 24).toInt = 2 := ha_11
    refine lv_if_ne (pc := 6) (tgt := 18) E.1 E.2.1 dX12_isStep_6 (by decide) (fun c_14 => absurd (meqE (a := 0) (b := 0) (by decide +kernel) (by decide +kernel) (by omega)) c_14) (fun _ => ?_)
    refine lv_aload_n (pc := 9) E.1 E.2.1 dX12_isStep_9 rfl (lv_at hl3 0 rfl) ?_
    refine lv_bipush (pc := 10) (v := 29) E.1 E.2.1 dX12_isStep_10 (by decide +kernel) ?_
    refine cm_i (pc := 12) hw7 (rn_M (As := [.int 29]) (rest := []) E hw7 (s_isWord3 l D cI cJ _ M mr mi mf mg 29) (gdV q_1694 q_1696 q_59 q_162 q_1697) hdV_X12_isWord ⟨rfl, rfl⟩ ⟨(Nat.le_of_ble_eq_true rfl), (Nat.le_of_ble_eq_true rfl)⟩ ⟨(Nat.le_of_ble_eq_true rfl), (Nat.le_of_ble_eq_true rfl)⟩ 12 rfl rfl rfl rfl hl3.1 rfl (Nat.le_of_ble_eq_true rfl) dX12_isStep_12) (fun r_16 u_15 H1 locs hp hw17 => ?_)
    generalize H1 = H at hw17 ⊢
    have hw18 : WD D A s.heap (MW cI cJ M mr mi mf mg) H locs := hw17
    have hp_19 := hp
    rcases hp_19 with ⟨rfl, ha_20, ha_21⟩ | ⟨rfl, ha_22⟩ | ⟨rfl, ha_23⟩
    · skip
      have ha_20 : (mi 24).toInt = 2 := ha_20
      have ha_21 : (mi 25).toInt = (29 : Int32).toInt := ha_21
      rw [show (29 : Int32).toInt = 29 from by decide +kernel] at ha_21
      exfalso; omega
    · skip
      have ha_22 : ¬ (mi 24).toInt = 2 := ha_22
      refine lv_if_eq (pc := 15) (tgt := 22) E.1 E.2.1 dX12_isStep_15 (by decide) (fun _ => ?_) (fun c_24 => absurd (meqE (a := 0) (b := 0) (by decide +kernel) (by decide +kernel) (by omega)) c_24)
      refine lv_iconst (pc := 22) (v := 0) E.1 E.2.1 dX12_isStep_22 (by decide +kernel) ?_
      exact em_z (w1 := (fun (u : Unit) => (MW cI cJ M mr mi mf mg))) E hr hlk () hw18 (Or.inr (Or.inr (Or.inl ⟨rfl, (by show ¬ (mi 24).toInt = 2; omega)⟩))) (by decide +kernel) (Nat.le_of_ble_eq_true rfl) (Nat.le_of_ble_eq_true rfl) dX12_isStep_23
    · skip
      have ha_23 : ¬ (mi 25).toInt = (29 : Int32).toInt := ha_23
      rw [show (29 : Int32).toInt = 29 from by decide +kernel] at ha_23
      refine lv_if_eq (pc := 15) (tgt := 22) E.1 E.2.1 dX12_isStep_15 (by decide) (fun _ => ?_) (fun c_25 => absurd (meqE (a := 0) (b := 0) (by decide +kernel) (by decide +kernel) (by omega)) c_25)
      refine lv_iconst (pc := 22) (v := 0) E.1 E.2.1 dX12_isStep_22 (by decide +kernel) ?_
      exact em_z (w1 := (fun (u : Unit) => (MW cI cJ M mr mi mf mg))) E hr hlk () hw18 (Or.inr (Or.inr (Or.inl ⟨rfl, (by show ¬ (mi 24).toInt = 2; omega)⟩))) (by decide +kernel) (Nat.le_of_ble_eq_true rfl) (Nat.le_of_ble_eq_true rfl) dX12_isStep_23
  · skip
    have ha_12 : ¬ (mi 25).toInt = (28 : Int32).toInt := ha_12
    rw [show (28 : Int32).toInt = 28 from by decide +kernel] at ha_12
    refine lv_if_ne (pc := 6) (tgt := 18) E.1 E.2.1 dX12_isStep_6 (by decide) (fun c_26 => absurd (meqE (a := 0) (b := 0) (by decide +kernel) (by decide +kernel) (by omega)) c_26) (fun _ => ?_)
    refine lv_aload_n (pc := 9) E.1 E.2.1 dX12_isStep_9 rfl (lv_at hl3 0 rfl) ?_
    refine lv_bipush (pc := 10) (v := 29) E.1 E.2.1 dX12_isStep_10 (by decide +kernel) ?_
    refine cm_i (pc := 12) hw7 (rn_M (As := [.int 29]) (rest := []) E hw7 (s_isWord3 l D cI cJ _ M mr mi mf mg 29) (gdV q_1694 q_1696 q_59 q_162 q_1697) hdV_X12_isWord ⟨rfl, rfl⟩ ⟨(Nat.le_of_ble_eq_true rfl), (Nat.le_of_ble_eq_true rfl)⟩ ⟨(Nat.le_of_ble_eq_true rfl), (Nat.le_of_ble_eq_true rfl)⟩ 12 rfl rfl rfl rfl hl3.1 rfl (Nat.le_of_ble_eq_true rfl) dX12_isStep_12) (fun r_28 u_27 H1 locs hp hw29 => ?_)
    generalize H1 = H at hw29 ⊢
    have hw30 : WD D A s.heap (MW cI cJ M mr mi mf mg) H locs := hw29
    have hp_31 := hp
    rcases hp_31 with ⟨rfl, ha_32, ha_33⟩ | ⟨rfl, ha_34⟩ | ⟨rfl, ha_35⟩
    · skip
      have ha_32 : (mi 24).toInt = 2 := ha_32
      have ha_33 : (mi 25).toInt = (29 : Int32).toInt := ha_33
      rw [show (29 : Int32).toInt = 29 from by decide +kernel] at ha_33
      refine lv_if_eq (pc := 15) (tgt := 22) E.1 E.2.1 dX12_isStep_15 (by decide) (fun c_36 => absurd c_36 (mneE (a := 1) (b := 0) (by decide +kernel) (by decide +kernel) (by omega))) (fun _ => ?_)
      refine lv_iconst (pc := 18) (v := 1) E.1 E.2.1 dX12_isStep_18 (by decide +kernel) ?_
      refine lv_goto (pc := 19) (tgt := 23) E.1 E.2.1 dX12_isStep_19 (by decide) ?_
      exact em_z (w1 := (fun (u : Unit) => (MW cI cJ M mr mi mf mg))) E hr hlk () hw30 (Or.inr (Or.inl ⟨rfl, (by show (mi 24).toInt = 2; omega), (by show (mi 25).toInt = 29; omega)⟩)) (by decide +kernel) (Nat.le_of_ble_eq_true rfl) (Nat.le_of_ble_eq_true rfl) dX12_isStep_23
    · skip
      have ha_34 : ¬ (mi 24).toInt = 2 := ha_34
      refine lv_if_eq (pc := 15) (tgt := 22) E.1 E.2.1 dX12_isStep_15 (by decide) (fun _ => ?_) (fun c_37 => absurd (meqE (a := 0) (b := 0) (by decide +kernel) (by decide +kernel) (by omega)) c_37)
      refine lv_iconst (pc := 22) (v := 0) E.1 E.2.1 dX12_isStep_22 (by decide +kernel) ?_
      exact em_z (w1 := (fun (u : Unit) => (MW cI cJ M mr mi mf mg))) E hr hlk () hw30 (Or.inr (Or.inr (Or.inl ⟨rfl, (by show ¬ (mi 24).toInt = 2; omega)⟩))) (by decide +kernel) (Nat.le_of_ble_eq_true rfl) (Nat.le_of_ble_eq_true rfl) dX12_isStep_23
    · skip
      have ha_35 : ¬ (mi 25).toInt = (29 : Int32).toInt := ha_35
      rw [show (29 : Int32).toInt = 29 from by decide +kernel] at ha_35
      refine lv_if_eq (pc := 15) (tgt := 22) E.1 E.2.1 dX12_isStep_15 (by decide) (fun _ => ?_) (fun c_38 => absurd (meqE (a := 0) (b := 0) (by decide +kernel) (by decide +kernel) (by omega)) c_38)
      refine lv_iconst (pc := 22) (v := 0) E.1 E.2.1 dX12_isStep_22 (by decide +kernel) ?_
      exact em_z (w1 := (fun (u : Unit) => (MW cI cJ M mr mi mf mg))) E hr hlk () hw30 (Or.inr (Or.inr (Or.inr (⟨rfl, (by show ¬ (mi 25).toInt = 28; omega), (by show ¬ (mi 25).toInt = 29; omega)⟩)))) (by decide +kernel) (Nat.le_of_ble_eq_true rfl) (Nat.le_of_ble_eq_true rfl) dX12_isStep_23

