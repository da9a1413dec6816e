set_option maxHeartbeats 4000000 in
set_option maxRecDepth 100000 in
theorem s_readNeedT (l : Launch) (D : va_G) (cI cJ : ClassId) (sz M : Nat) (mr : Nat → Nat) (mi : Nat → Int32) (mf : Nat → Nat → Int32) (mg : Nat → Nat → Int64) (z_at : Int32) (h0 : 0 ≤ (mi 23).toInt) (h1 : (mi 23).toInt ≤ (mi 22).toInt) (h2 : (mi 22).toInt ≤ (mi 21).toInt) (h3 : (mi 21).toInt ≤ 400) (h4 : 0 ≤ (mi 24).toInt) (h5 : (mi 24).toInt ≤ 4) (h6 : (mi 24).toInt ≤ 4 * (mi 22).toInt - 4 * (mi 23).toInt) (h7 : ((mf 26) 153).toInt = 32) (h8 : 0 ≤ (mi 6).toInt ∧ (mi 6).toInt ≤ 10) (h9 : 50 ≤ z_at.toInt ∧ z_at.toInt ≤ 95) (a_tape : b255 (mf 20)) (lf_words : (∀ j : Nat, j < 154 → (mf 26) j = w0 j)) (lf_again : AGN ((mi 24).toInt) ((mi 25).toInt) ((mi 23).toInt) ((mi 22).toInt)) : Met l yX12_readNeed (Cond.code yX12_readNeed cX12_readNeed 2 (some .int) :: GW) ({ frames := 5, cells := 0, slots := 0, locals := 128 } : Room) (va_Pc [.ref M, .int z_at] (PW D cI cJ sz (MW cI cJ M mr mi mf mg) xT)) (va_Qi (fun (r : Int32) (u : Int32 × Int32 × Int32 × Int32 × Int32 × Int32 × (Nat → Int32)) => (0 ≤ u.2.1.toInt) ∧ (u.2.1.toInt ≤ u.1.toInt) ∧ (u.1.toInt ≤ (mi 21).toInt) ∧ (0 ≤ u.2.2.1.toInt) ∧ (u.2.2.1.toInt ≤ 4) ∧ (u.2.2.1.toInt ≤ 4 * u.1.toInt - 4 * u.2.1.toInt) ∧ (AGN u.2.2.1.toInt u.2.2.2.1.toInt u.2.1.toInt u.1.toInt) ∧ ((∀ p : Int, TKR (mf 20) (mi 21).toInt p (mi 23).toInt (mi 22).toInt (mi 24).toInt (mi 25).toInt → RX (mf 20) (mi 21).toInt (needR (mf 20) (mi 21).toInt ((mi 6).toInt - 1) p) (r : Int32).toInt u.2.2.2.2.1.toInt u.2.2.2.2.2.1.toInt u.2.1.toInt u.1.toInt u.2.2.1.toInt u.2.2.2.1.toInt)) ∧ ((r = (-1)) ∨ (r = 0))) (fun u => QW D cI cJ (va_A (MW cI cJ M mr mi mf mg) sz) ((fun (u : Int32 × Int32 × Int32 × Int32 × Int32 × Int32 × (Nat → Int32)) => (MW cI cJ M mr (upd (upd (upd (upd (upd (upd mi 22 u.1) 23 u.2.1) 24 u.2.2.1) 25 u.2.2.2.1) 38 u.2.2.2.2.1) 39 u.2.2.2.2.2.1) (va_up mf 45 u.2.2.2.2.2.2) mg)) u)) (va_A (MW cI cJ M mr mi mf mg) sz)) 0 0 (va_A (MW cI cJ M mr mi mf mg) sz) := by
  refine mk_met (y := yX12_readNeed) (bytes := cX12_readNeed) (maxL := 2) (avs := [.ref M, .int z_at]) (WS := (MW cI cJ M mr mi mf mg)) (Qf := fun A => va_Qi (fun (r : Int32) (u : Int32 × Int32 × Int32 × Int32 × Int32 × Int32 × (Nat → Int32)) => (0 ≤ u.2.1.toInt) ∧ (u.2.1.toInt ≤ u.1.toInt) ∧ (u.1.toInt ≤ (mi 21).toInt) ∧ (0 ≤ u.2.2.1.toInt) ∧ (u.2.2.1.toInt ≤ 4) ∧ (u.2.2.1.toInt ≤ 4 * u.1.toInt - 4 * u.2.1.toInt) ∧ (AGN u.2.2.1.toInt u.2.2.2.1.toInt u.2.1.toInt u.1.toInt) ∧ ((∀ p : Int, TKR (mf 20) (mi 21).toInt p (mi 23).toInt (mi 22).toInt (mi 24).toInt (mi 25).toInt → RX (mf 20) (mi 21).toInt (needR (mf 20) (mi 21).toInt ((mi 6).toInt - 1) p) (r : Int32).toInt u.2.2.2.2.1.toInt u.2.2.2.2.2.1.toInt u.2.1.toInt u.1.toInt u.2.2.1.toInt u.2.2.2.1.toInt)) ∧ ((r = (-1)) ∨ (r = 0))) (fun u => QW D cI cJ A ((fun (u : Int32 × Int32 × Int32 × Int32 × Int32 × Int32 × (Nat → Int32)) => (MW cI cJ M mr (upd (upd (upd (upd (upd (upd mi 22 u.1) 23 u.2.1) 24 u.2.2.1) 25 u.2.2.2.1) 38 u.2.2.2.2.1) 39 u.2.2.2.2.2.1) (va_up mf 45 u.2.2.2.2.2.2) mg)) u)) A) (by decide) (Nat.le_of_ble_eq_true rfl) ?_
  intro p e s m below meth c A ls E hr hlk hnm hX hw1 hl2
  have hl3 : lv_has ls 2 [(0, .ref M), (1, .int z_at)] := hl2
  refine lv_aload_n (pc := 0) E.1 E.2.1 dX12_readNeed_0 rfl (lv_at hl3 0 rfl) ?_
  refine x_get (pc := 1) (T := TX12) (N := 70) (ci := 12) (v := .int (mi 24)) E hw1 inX12 0 24 q_1423 rfl rfl (by decide) rfl rfl dX12_readNeed_1 ?_
  refine lv_iconst (pc := 4) (v := 2) E.1 E.2.1 dX12_readNeed_4 (by decide +kernel) ?_
  refine lv_icmp_ne (pc := 5) (tgt := 23) E.1 E.2.1 dX12_readNeed_5 (by decide) (fun c_4 => ?_) (fun c_4 => ?_)
  · skip
    have hc_4 := neE (a := (mi 24).toInt) (b := 2) rfl (by decide +kernel) c_4
    refine lv_aload_n (pc := 23) E.1 E.2.1 dX12_readNeed_23 rfl (lv_at hl3 0 rfl) ?_
    refine lv_iconst (pc := 24) (v := 1) E.1 E.2.1 dX12_readNeed_24 (by decide +kernel) ?_
    refine cm_i (pc := 25) hw1 (rn_M (As := [.int 1]) (rest := []) E hw1 (s_errsT l D cI cJ _ M mr mi mf mg 1) (gdV q_1698 q_1700 q_60 q_162 q_1701) hdV_X12_errs ⟨rfl, rfl⟩ ⟨(Nat.le_of_ble_eq_true rfl), (Nat.le_of_ble_eq_true rfl)⟩ ⟨(Nat.le_of_ble_eq_true rfl), (Nat.le_of_ble_eq_true rfl)⟩ 12 rfl rfl rfl rfl hl3.1 rfl (Nat.le_of_ble_eq_true rfl) dX12_readNeed_25) (fun r_6 u_5 H1 locs hp hw7 => ?_)
    obtain ⟨nreadFault_8, nreadPlace_9⟩ := u_5
    generalize H1 = H at hw7 ⊢
    have hw10 : WD D A s.heap (MW cI cJ M mr (upd (upd mi 38 nreadFault_8) 39 nreadPlace_9) mf mg) H locs := hw7
    obtain ⟨hp_11, hp_12, hp_13⟩ := hp
    have hp_11 : nreadFault_8.toInt = (1 : Int32).toInt := hp_11
    rw [show (1 : Int32).toInt = 1 from by decide +kernel] at hp_11
    have hp_12 : nreadPlace_9.toInt = (mi 23).toInt := hp_12
    rcases hp_13 with rfl
    · skip
      exact em_i (w1 := (fun (u : Int32 × Int32 × Int32 × Int32 × Int32 × Int32 × (Nat → Int32)) => (MW cI cJ M mr (upd (upd (upd (upd (upd (upd mi 22 u.1) 23 u.2.1) 24 u.2.2.1) 25 u.2.2.2.1) 38 u.2.2.2.2.1) 39 u.2.2.2.2.2.1) (va_up mf 45 u.2.2.2.2.2.2) mg))) E hr hlk ((mi 22), (mi 23), (mi 24), (mi 25), nreadFault_8, nreadPlace_9, (mf 45)) hw10 ⟨h0, h1, h2, h4, h5, h6, lf_again, (show (∀ p : Int, TKR (mf 20) (mi 21).toInt p (mi 23).toInt (mi 22).toInt (mi 24).toInt (mi 25).toInt → RX (mf 20) (mi 21).toInt (needR (mf 20) (mi 21).toInt ((mi 6).toInt - 1) p) ((-1) : Int32).toInt nreadFault_8.toInt nreadPlace_9.toInt (mi 23).toInt (mi 22).toInt (mi 24).toInt (mi 25).toInt) from (fun p hp => by have er := rng_no (lo := 21) (hi := 24) hp (by omega); simp only [needR, er]; exact ⟨(by decide +kernel), (by have k1 : (1 : Int32).toInt = 1 := (by decide +kernel); omega), (by omega)⟩)), (Or.inl rfl)⟩ (Nat.le_of_ble_eq_true rfl) (Nat.le_of_ble_eq_true rfl) dX12_readNeed_28
  · skip
    have hc_4 := eqE (a := (mi 24).toInt) (b := 2) rfl (by decide +kernel) c_4
    refine lv_aload_n (pc := 8) E.1 E.2.1 dX12_readNeed_8 rfl (lv_at hl3 0 rfl) ?_
    refine lv_aload_n (pc := 9) E.1 E.2.1 dX12_readNeed_9 rfl (lv_at hl3 0 rfl) ?_
    refine x_get (pc := 10) (T := TX12) (N := 70) (ci := 12) (v := .int (mi 25)) E hw1 inX12 0 25 q_1424 rfl rfl (by decide) rfl rfl dX12_readNeed_10 ?_
    refine lv_bipush (pc := 13) (v := 21) E.1 E.2.1 dX12_readNeed_13 (by decide +kernel) ?_
    refine lv_bipush (pc := 15) (v := 24) E.1 E.2.1 dX12_readNeed_15 (by decide +kernel) ?_
    refine cm_i (pc := 17) hw1 (rn_M (As := [.int (mi 25), .int 21, .int 24]) (rest := []) E hw1 (s_isIn l D cI cJ _ M mr mi mf mg (mi 25) 21 24) (gdV q_1622 q_1624 q_46 q_162 q_1625) hdV_X12_isIn ⟨rfl, rfl⟩ ⟨(Nat.le_of_ble_eq_true rfl), (Nat.le_of_ble_eq_true rfl)⟩ ⟨(Nat.le_of_ble_eq_true rfl), (Nat.le_of_ble_eq_true rfl)⟩ 12 rfl rfl rfl rfl hl3.1 rfl (Nat.le_of_ble_eq_true rfl) dX12_readNeed_17) (fun r_15 u_14 H1 locs hp hw16 => ?_)
    generalize H1 = H at hw16 ⊢
    have hw17 : WD D A s.heap (MW cI cJ M mr mi mf mg) H locs := hw16
    have hp_18 := hp
    rcases hp_18 with ⟨rfl, ha_19⟩ | ⟨rfl, ha_20⟩ | ⟨rfl, ha_21, ha_22⟩
    · skip
      have ha_19 : (mi 25).toInt < (21 : Int32).toInt := ha_19
      rw [show (21 : Int32).toInt = 21 from by decide +kernel] at ha_19
      refine lv_if_ne (pc := 20) (tgt := 29) E.1 E.2.1 dX12_readNeed_20 (by decide) (fun c_23 => absurd (meqE (a := 0) (b := 0) (by decide +kernel) (by decide +kernel) (by omega)) c_23) (fun _ => ?_)
      refine lv_aload_n (pc := 23) E.1 E.2.1 dX12_readNeed_23 rfl (lv_at hl3 0 rfl) ?_
      refine lv_iconst (pc := 24) (v := 1) E.1 E.2.1 dX12_readNeed_24 (by decide +kernel) ?_
      refine cm_i (pc := 25) hw17 (rn_M (As := [.int 1]) (rest := []) E hw17 (s_errsT l D cI cJ _ M mr mi mf mg 1) (gdV q_1698 q_1700 q_60 q_162 q_1701) hdV_X12_errs ⟨rfl, rfl⟩ ⟨(Nat.le_of_ble_eq_true rfl), (Nat.le_of_ble_eq_true rfl)⟩ ⟨(Nat.le_of_ble_eq_true rfl), (Nat.le_of_ble_eq_true rfl)⟩ 12 rfl rfl rfl rfl hl3.1 rfl (Nat.le_of_ble_eq_true rfl) dX12_readNeed_25) (fun r_25 u_24 H1 locs hp hw26 => ?_)
      obtain ⟨nreadFault_27, nreadPlace_28⟩ := u_24
      generalize H1 = H at hw26 ⊢
      have hw29 : WD D A s.heap (MW cI cJ M mr (upd (upd mi 38 nreadFault_27) 39 nreadPlace_28) mf mg) H locs := hw26
      obtain ⟨hp_30, hp_31, hp_32⟩ := hp
      have hp_30 : nreadFault_27.toInt = (1 : Int32).toInt := hp_30
      rw [show (1 : Int32).toInt = 1 from by decide +kernel] at hp_30
      have hp_31 : nreadPlace_28.toInt = (mi 23).toInt := hp_31
      rcases hp_32 with rfl
      · skip
        exact em_i (w1 := (fun (u : Int32 × Int32 × Int32 × Int32 × Int32 × Int32 × (Nat → Int32)) => (MW cI cJ M mr (upd (upd (upd (upd (upd (upd mi 22 u.1) 23 u.2.1) 24 u.2.2.1) 25 u.2.2.2.1) 38 u.2.2.2.2.1) 39 u.2.2.2.2.2.1) (va_up mf 45 u.2.2.2.2.2.2) mg))) E hr hlk ((mi 22), (mi 23), (mi 24), (mi 25), nreadFault_27, nreadPlace_28, (mf 45)) hw29 ⟨h0, h1, h2, h4, h5, h6, lf_again, (show (∀ p : Int, TKR (mf 20) (mi 21).toInt p (mi 23).toInt (mi 22).toInt (mi 24).toInt (mi 25).toInt → RX (mf 20) (mi 21).toInt (needR (mf 20) (mi 21).toInt ((mi 6).toInt - 1) p) ((-1) : Int32).toInt nreadFault_27.toInt nreadPlace_28.toInt (mi 23).toInt (mi 22).toInt (mi 24).toInt (mi 25).toInt) from (fun p hp => by have er := rng_no (lo := 21) (hi := 24) hp (by omega); simp only [needR, er]; exact ⟨(by decide +kernel), (by have k1 : (1 : Int32).toInt = 1 := (by decide +kernel); omega), (by omega)⟩)), (Or.inl rfl)⟩ (Nat.le_of_ble_eq_true rfl) (Nat.le_of_ble_eq_true rfl) dX12_readNeed_28
    · skip
      have ha_20 : (24 : Int32).toInt < (mi 25).toInt := ha_20
      rw [show (24 : Int32).toInt = 24 from by decide +kernel] at ha_20
      refine lv_if_ne (pc := 20) (tgt := 29) E.1 E.2.1 dX12_readNeed_20 (by decide) (fun c_33 => absurd (meqE (a := 0) (b := 0) (by decide +kernel) (by decide +kernel) (by omega)) c_33) (fun _ => ?_)
      refine lv_aload_n (pc := 23) E.1 E.2.1 dX12_readNeed_23 rfl (lv_at hl3 0 rfl) ?_
      refine lv_iconst (pc := 24) (v := 1) E.1 E.2.1 dX12_readNeed_24 (by decide +kernel) ?_
      refine cm_i (pc := 25) hw17 (rn_M (As := [.int 1]) (rest := []) E hw17 (s_errsT l D cI cJ _ M mr mi mf mg 1) (gdV q_1698 q_1700 q_60 q_162 q_1701) hdV_X12_errs ⟨rfl, rfl⟩ ⟨(Nat.le_of_ble_eq_true rfl), (Nat.le_of_ble_eq_true rfl)⟩ ⟨(Nat.le_of_ble_eq_true rfl), (Nat.le_of_ble_eq_true rfl)⟩ 12 rfl rfl rfl rfl hl3.1 rfl (Nat.le_of_ble_eq_true rfl) dX12_readNeed_25) (fun r_35 u_34 H1 locs hp hw36 => ?_)
      obtain ⟨nreadFault_37, nreadPlace_38⟩ := u_34
      generalize H1 = H at hw36 ⊢
      have hw39 : WD D A s.heap (MW cI cJ M mr (upd (upd mi 38 nreadFault_37) 39 nreadPlace_38) mf mg) H locs := hw36
      obtain ⟨hp_40, hp_41, hp_42⟩ := hp
      have hp_40 : nreadFault_37.toInt = (1 : Int32).toInt := hp_40
      rw [show (1 : Int32).toInt = 1 from by decide +kernel] at hp_40
      have hp_41 : nreadPlace_38.toInt = (mi 23).toInt := hp_41
      rcases hp_42 with rfl
      · skip
        exact em_i (w1 := (fun (u : Int32 × Int32 × Int32 × Int32 × Int32 × Int32 × (Nat → Int32)) => (MW cI cJ M mr (upd (upd (upd (upd (upd (upd mi 22 u.1) 23 u.2.1) 24 u.2.2.1) 25 u.2.2.2.1) 38 u.2.2.2.2.1) 39 u.2.2.2.2.2.1) (va_up mf 45 u.2.2.2.2.2.2) mg))) E hr hlk ((mi 22), (mi 23), (mi 24), (mi 25), nreadFault_37, nreadPlace_38, (mf 45)) hw39 ⟨h0, h1, h2, h4, h5, h6, lf_again, (show (∀ p : Int, TKR (mf 20) (mi 21).toInt p (mi 23).toInt (mi 22).toInt (mi 24).toInt (mi 25).toInt → RX (mf 20) (mi 21).toInt (needR (mf 20) (mi 21).toInt ((mi 6).toInt - 1) p) ((-1) : Int32).toInt nreadFault_37.toInt nreadPlace_38.toInt (mi 23).toInt (mi 22).toInt (mi 24).toInt (mi 25).toInt) from (fun p hp => by have er := rng_no (lo := 21) (hi := 24) hp (by omega); simp only [needR, er]; exact ⟨(by decide +kernel), (by have k1 : (1 : Int32).toInt = 1 := (by decide +kernel); omega), (by omega)⟩)), (Or.inl rfl)⟩ (Nat.le_of_ble_eq_true rfl) (Nat.le_of_ble_eq_true rfl) dX12_readNeed_28
    · skip
      have ha_21 : (21 : Int32).toInt ≤ (mi 25).toInt := ha_21
      rw [show (21 : Int32).toInt = 21 from by decide +kernel] at ha_21
      have ha_22 : (mi 25).toInt ≤ (24 : Int32).toInt := ha_22
      rw [show (24 : Int32).toInt = 24 from by decide +kernel] at ha_22
      refine lv_if_ne (pc := 20) (tgt := 29) E.1 E.2.1 dX12_readNeed_20 (by decide) (fun _ => ?_) (fun c_43 => absurd c_43 (mneE (a := 1) (b := 0) (by decide +kernel) (by decide +kernel) (by omega)))
      refine lv_aload_n (pc := 29) E.1 E.2.1 dX12_readNeed_29 rfl (lv_at hl3 0 rfl) ?_
      refine x_get (pc := 30) (T := TX12) (N := 70) (ci := 12) (v := .ref (mr 45)) E hw17 inX12 0 45 q_1444 rfl rfl (by decide) rfl rfl dX12_readNeed_30 ?_
      refine lv_iload_n (pc := 33) E.1 E.2.1 dX12_readNeed_33 rfl (lv_at hl3 1 rfl) ?_
      refine lv_iconst (pc := 34) (v := 0) E.1 E.2.1 dX12_readNeed_34 (by decide +kernel) ?_
      refine lv_iadd (pc := 35) E.1 E.2.1 dX12_readNeed_35 ?_
      refine lv_topi (fun v_44 ev_44 => ?_)
      have hv_44 : v_44.toInt = z_at.toInt + 0 := by rw [ev_44]; exact addE rfl (by decide +kernel) (by omega)
      refine lv_aload_n (pc := 36) E.1 E.2.1 dX12_readNeed_36 rfl (lv_at hl3 0 rfl) ?_
      refine x_get (pc := 37) (T := TX12) (N := 70) (ci := 12) (v := .int (mi 25)) E hw17 inX12 0 25 q_1424 rfl rfl (by decide) rfl rfl dX12_readNeed_37 ?_
      refine lv_bipush (pc := 40) (v := 21) E.1 E.2.1 dX12_readNeed_40 (by decide +kernel) ?_
      refine lv_isub (pc := 42) E.1 E.2.1 dX12_readNeed_42 ?_
      refine lv_topi (fun v_45 ev_45 => ?_)
      have hv_45 : v_45.toInt = (mi 25).toInt - 21 := by rw [ev_45]; exact subE rfl (by decide +kernel) (by omega)
      refine x_iastG (pc := 43) (f := (mf 45)) (wf := fun g => (MW cI cJ M mr mi (va_up mf 45 g) mg)) E hw17 22 rfl (inbE (a := v_44.toInt) rfl (by omega)) (fun _ => rfl) dX12_readNeed_43 (fun g_46 H locs eg_46 hw47 => ?_)
      refine lv_aload_n (pc := 44) E.1 E.2.1 dX12_readNeed_44 rfl (lv_at hl3 0 rfl) ?_
      refine cm_v (pc := 45) hw47 (rn_M (As := []) (rest := []) E hw47 (s_readsT l D cI cJ _ M mr mi (va_up mf 45 g_46) mg (by show 0 ≤ (mi 22).toInt; omega) h2 h3 h7 a_tape (show (∀ j : Nat, j < 154 → (mf 26) j = w0 j) from lf_words)) (gdV q_1666 q_1668 q_52 q_162 q_1669) hdV_X12_reads ⟨rfl, rfl⟩ ⟨(Nat.le_of_ble_eq_true rfl), (Nat.le_of_ble_eq_true rfl)⟩ ⟨(Nat.le_of_ble_eq_true rfl), (Nat.le_of_ble_eq_true rfl)⟩ 12 rfl rfl rfl rfl hl3.1 rfl (Nat.le_of_ble_eq_true rfl) dX12_readNeed_45) (fun u_48 H1 locs hp hw50 => ?_)
      obtain ⟨nspot_51, nfrom_52, ntoken_53, nvalue_54⟩ := u_48
      generalize H1 = H at hw50 ⊢
      have hw55 : WD D A s.heap (MW cI cJ M mr (upd (upd (upd (upd mi 22 nspot_51) 23 nfrom_52) 24 ntoken_53) 25 nvalue_54) (va_up mf 45 g_46) mg) H locs := hw50
      obtain ⟨hp_56, hp_57, hp_58, hp_59, hp_60, hp_61, hp_62, hp_63, hp_64⟩ := hp
      have hp_56 : 0 ≤ nfrom_52.toInt := hp_56
      have hp_57 : nfrom_52.toInt ≤ nspot_51.toInt := hp_57
      have hp_58 : nspot_51.toInt ≤ (mi 21).toInt := hp_58
      have hp_59 : 0 ≤ ntoken_53.toInt := hp_59
      have hp_60 : ntoken_53.toInt ≤ 4 := hp_60
      have hp_61 : ntoken_53.toInt ≤ 4 * nspot_51.toInt - 4 * nfrom_52.toInt := hp_61
      have hp_62 : (mi 22).toInt ≤ nfrom_52.toInt := hp_62
      have hp_63 : AGN ntoken_53.toInt nvalue_54.toInt nfrom_52.toInt nspot_51.toInt := hp_63
      have hp_64 : TKR (mf 20) (mi 21).toInt (mi 22).toInt nfrom_52.toInt nspot_51.toInt ntoken_53.toInt nvalue_54.toInt := hp_64
      refine lv_aload_n (pc := 48) E.1 E.2.1 dX12_readNeed_48 rfl (lv_at hl3 0 rfl) ?_
      refine lv_bipush (pc := 49) (v := 25) E.1 E.2.1 dX12_readNeed_49 (by decide +kernel) ?_
      refine cm_i (pc := 51) hw55 (rn_M (As := [.int 25]) (rest := []) E hw55 (s_readWordT l D cI cJ _ M mr (upd (upd (upd (upd mi 22 nspot_51) 23 nfrom_52) 24 ntoken_53) 25 nvalue_54) (va_up mf 45 g_46) mg 25 hp_56 hp_57 hp_58 h3 hp_59 hp_60 hp_61 h7 a_tape (show (∀ j : Nat, j < 154 → (mf 26) j = w0 j) from lf_words) (show AGN ntoken_53.toInt nvalue_54.toInt nfrom_52.toInt nspot_51.toInt from hp_63)) (gdV q_1710 q_1712 q_63 q_162 q_1713) hdV_X12_readWord ⟨rfl, rfl⟩ ⟨(Nat.le_of_ble_eq_true rfl), (Nat.le_of_ble_eq_true rfl)⟩ ⟨(Nat.le_of_ble_eq_true rfl), (Nat.le_of_ble_eq_true rfl)⟩ 12 rfl rfl rfl rfl hl3.1 rfl (Nat.le_of_ble_eq_true rfl) dX12_readNeed_51) (fun r_66 u_65 H1 locs hp hw67 => ?_)
      obtain ⟨nspot_68, nfrom_69, ntoken_70, nvalue_71, nreadFault_72, nreadPlace_73⟩ := u_65
      generalize H1 = H at hw67 ⊢
      have hw74 : WD D A s.heap (MW cI cJ M mr (upd (upd (upd (upd (upd (upd mi 22 nspot_68) 23 nfrom_69) 24 ntoken_70) 25 nvalue_71) 38 nreadFault_72) 39 nreadPlace_73) (va_up mf 45 g_46) mg) H locs := hw67
      obtain ⟨hp_75, hp_76, hp_77, hp_78, hp_79, hp_80, hp_81, hp_82, hp_83⟩ := hp
      have hp_75 : 0 ≤ nfrom_69.toInt := hp_75
      have hp_76 : nfrom_69.toInt ≤ nspot_68.toInt := hp_76
      have hp_77 : nspot_68.toInt ≤ (mi 21).toInt := hp_77
      have hp_78 : 0 ≤ ntoken_70.toInt := hp_78
      have hp_79 : ntoken_70.toInt ≤ 4 := hp_79
      have hp_80 : ntoken_70.toInt ≤ 4 * nspot_68.toInt - 4 * nfrom_69.toInt := hp_80
      have hp_81 : AGN ntoken_70.toInt nvalue_71.toInt nfrom_69.toInt nspot_68.toInt := hp_81
      have hp_82 : (∀ p : Int, TKR (mf 20) (mi 21).toInt p nfrom_52.toInt nspot_51.toInt ntoken_53.toInt nvalue_54.toInt → RX (mf 20) (mi 21).toInt (wordR (mf 20) (mi 21).toInt ((25 : Int32) : Int32).toInt p) (r_66 : Int32).toInt nreadFault_72.toInt nreadPlace_73.toInt nfrom_69.toInt nspot_68.toInt ntoken_70.toInt nvalue_71.toInt) := hp_82
      rcases hp_83 with rfl | ⟨rfl, ha_84⟩
      · skip
        refine lv_iconst (pc := 54) (v := (-1)) E.1 E.2.1 dX12_readNeed_54 (by decide +kernel) ?_
        refine lv_icmp_ne (pc := 55) (tgt := 60) E.1 E.2.1 dX12_readNeed_55 (by decide) (fun c_85 => absurd (meqE (a := (-1)) (b := (-1)) (by decide +kernel) (by decide +kernel) (by omega)) c_85) (fun _ => ?_)
        refine lv_iconst (pc := 58) (v := (-1)) E.1 E.2.1 dX12_readNeed_58 (by decide +kernel) ?_
        exact em_i (w1 := (fun (u : Int32 × Int32 × Int32 × Int32 × Int32 × Int32 × (Nat → Int32)) => (MW cI cJ M mr (upd (upd (upd (upd (upd (upd mi 22 u.1) 23 u.2.1) 24 u.2.2.1) 25 u.2.2.2.1) 38 u.2.2.2.2.1) 39 u.2.2.2.2.2.1) (va_up mf 45 u.2.2.2.2.2.2) mg))) E hr hlk (nspot_68, nfrom_69, ntoken_70, nvalue_71, nreadFault_72, nreadPlace_73, g_46) hw74 ⟨hp_75, hp_76, hp_77, hp_78, hp_79, hp_80, hp_81, (show (∀ p : Int, TKR (mf 20) (mi 21).toInt p (mi 23).toInt (mi 22).toInt (mi 24).toInt (mi 25).toInt → RX (mf 20) (mi 21).toInt (needR (mf 20) (mi 21).toInt ((mi 6).toInt - 1) p) ((-1) : Int32).toInt nreadFault_72.toInt nreadPlace_73.toInt nfrom_69.toInt nspot_68.toInt ntoken_70.toInt nvalue_71.toInt) from (fun p hp => by have er := rng_ok (lo := 21) (hi := 24) hp (by omega) (by omega); have q0 := hp_82 _ hp_64; obtain ⟨e0, f0, g0, i0⟩ := RX_err q0 (by decide +kernel); simp only [needR, er, f0]; exact ⟨(by decide +kernel), g0, i0⟩)), (Or.inl rfl)⟩ (Nat.le_of_ble_eq_true rfl) (Nat.le_of_ble_eq_true rfl) dX12_readNeed_59
      · skip
        have ha_84 : nfrom_52.toInt + 1 ≤ nfrom_69.toInt := ha_84
        refine lv_iconst (pc := 54) (v := (-1)) E.1 E.2.1 dX12_readNeed_54 (by decide +kernel) ?_
        refine lv_icmp_ne (pc := 55) (tgt := 60) E.1 E.2.1 dX12_readNeed_55 (by decide) (fun _ => ?_) (fun c_86 => absurd c_86 (mneE (a := 0) (b := (-1)) (by decide +kernel) (by decide +kernel) (by omega)))
        refine lv_aload_n (pc := 60) E.1 E.2.1 dX12_readNeed_60 rfl (lv_at hl3 0 rfl) ?_
        refine x_get (pc := 61) (T := TX12) (N := 70) (ci := 12) (v := .ref (mr 45)) E hw74 inX12 0 45 q_1444 rfl rfl (by decide) rfl rfl dX12_readNeed_61 ?_
        refine lv_iload_n (pc := 64) E.1 E.2.1 dX12_readNeed_64 rfl (lv_at hl3 1 rfl) ?_
        refine lv_iconst (pc := 65) (v := 1) E.1 E.2.1 dX12_readNeed_65 (by decide +kernel) ?_
        refine lv_iadd (pc := 66) E.1 E.2.1 dX12_readNeed_66 ?_
        refine lv_topi (fun v_87 ev_87 => ?_)
        have hv_87 : v_87.toInt = z_at.toInt + 1 := by rw [ev_87]; exact addE rfl (by decide +kernel) (by omega)
        refine lv_aload_n (pc := 67) E.1 E.2.1 dX12_readNeed_67 rfl (lv_at hl3 0 rfl) ?_
        refine lv_iconst (pc := 68) (v := 0) E.1 E.2.1 dX12_readNeed_68 (by decide +kernel) ?_
        refine lv_aload_n (pc := 69) E.1 E.2.1 dX12_readNeed_69 rfl (lv_at hl3 0 rfl) ?_
        refine x_get (pc := 70) (T := TX12) (N := 70) (ci := 12) (v := .int (mi 6)) E hw74 inX12 0 6 q_1405 rfl rfl (by decide) rfl rfl dX12_readNeed_70 ?_
        refine lv_iconst (pc := 73) (v := 1) E.1 E.2.1 dX12_readNeed_73 (by decide +kernel) ?_
        refine lv_isub (pc := 74) E.1 E.2.1 dX12_readNeed_74 ?_
        refine lv_topi (fun v_88 ev_88 => ?_)
        have hv_88 : v_88.toInt = (mi 6).toInt - 1 := by rw [ev_88]; exact subE rfl (by decide +kernel) (by omega)
        refine cm_i (pc := 75) hw74 (rn_M (As := [.int 0, .int v_88]) (rest := [.int v_87, .ref (mr 45)]) E hw74 (s_readNumberT l D cI cJ _ M mr (upd (upd (upd (upd (upd (upd mi 22 nspot_68) 23 nfrom_69) 24 ntoken_70) 25 nvalue_71) 38 nreadFault_72) 39 nreadPlace_73) (va_up mf 45 g_46) mg 0 v_88 hp_75 hp_76 hp_77 h3 hp_78 hp_79 hp_80 h7 a_tape (show (∀ j : Nat, j < 154 → (mf 26) j = w0 j) from lf_words) (show AGN ntoken_70.toInt nvalue_71.toInt nfrom_69.toInt nspot_68.toInt from hp_81)) (gdV q_1706 q_1708 q_62 q_162 q_1709) hdV_X12_readNumber ⟨rfl, rfl⟩ ⟨(Nat.le_of_ble_eq_true rfl), (Nat.le_of_ble_eq_true rfl)⟩ ⟨(Nat.le_of_ble_eq_true rfl), (Nat.le_of_ble_eq_true rfl)⟩ 12 rfl rfl rfl rfl hl3.1 rfl (Nat.le_of_ble_eq_true rfl) dX12_readNeed_75) (fun r_90 u_89 H1 locs hp hw91 => ?_)
        obtain ⟨nspot_92, nfrom_93, ntoken_94, nvalue_95, nreadFault_96, nreadPlace_97⟩ := u_89
        generalize H1 = H at hw91 ⊢
        have hw98 : WD D A s.heap (MW cI cJ M mr (upd (upd (upd (upd (upd (upd mi 22 nspot_92) 23 nfrom_93) 24 ntoken_94) 25 nvalue_95) 38 nreadFault_96) 39 nreadPlace_97) (va_up mf 45 g_46) mg) H locs := hw91
        obtain ⟨hp_99, hp_100, hp_101, hp_102, hp_103, hp_104, hp_105, hp_106, hp_107⟩ := hp
        have hp_99 : 0 ≤ nfrom_93.toInt := hp_99
        have hp_100 : nfrom_93.toInt ≤ nspot_92.toInt := hp_100
        have hp_101 : nspot_92.toInt ≤ (mi 21).toInt := hp_101
        have hp_102 : 0 ≤ ntoken_94.toInt := hp_102
        have hp_103 : ntoken_94.toInt ≤ 4 := hp_103
        have hp_104 : ntoken_94.toInt ≤ 4 * nspot_92.toInt - 4 * nfrom_93.toInt := hp_104
        have hp_105 : AGN ntoken_94.toInt nvalue_95.toInt nfrom_93.toInt nspot_92.toInt := hp_105
        have hp_106 : (∀ p : Int, TKR (mf 20) (mi 21).toInt p nfrom_69.toInt nspot_68.toInt ntoken_70.toInt nvalue_71.toInt → RN (mf 20) (mi 21).toInt (numR (mf 20) (mi 21).toInt ((0 : Int32) : Int32).toInt (v_88 : Int32).toInt p) (r_90 : Int32).toInt nreadFault_96.toInt nreadPlace_97.toInt nfrom_93.toInt nspot_92.toInt ntoken_94.toInt nvalue_95.toInt) := hp_106
        rcases hp_107 with rfl | ⟨ha_108, ha_109, ha_110⟩
        · skip
          refine x_iastG (pc := 78) (f := g_46) (wf := fun g => (MW cI cJ M mr (upd (upd (upd (upd (upd (upd mi 22 nspot_92) 23 nfrom_93) 24 ntoken_94) 25 nvalue_95) 38 nreadFault_96) 39 nreadPlace_97) (va_up mf 45 g) mg)) E hw98 22 rfl (inbE (a := v_87.toInt) rfl (by omega)) (fun _ => rfl) dX12_readNeed_78 (fun g_111 H locs eg_111 hw112 => ?_)
          refine lv_aload_n (pc := 79) E.1 E.2.1 dX12_readNeed_79 rfl (lv_at hl3 0 rfl) ?_
          refine x_get (pc := 80) (T := TX12) (N := 70) (ci := 12) (v := .ref (mr 45)) E hw112 inX12 0 45 q_1444 rfl rfl (by decide) rfl rfl dX12_readNeed_80 ?_
          refine lv_iload_n (pc := 83) E.1 E.2.1 dX12_readNeed_83 rfl (lv_at hl3 1 rfl) ?_
          refine lv_iconst (pc := 84) (v := 1) E.1 E.2.1 dX12_readNeed_84 (by decide +kernel) ?_
          refine lv_iadd (pc := 85) E.1 E.2.1 dX12_readNeed_85 ?_
          refine lv_topi (fun v_113 ev_113 => ?_)
          have hv_113 : v_113.toInt = z_at.toInt + 1 := by rw [ev_113]; exact addE rfl (by decide +kernel) (by omega)
          refine x_iald (pc := 86) (f := g_111) E hw112 22 rfl (inbE (a := v_113.toInt) rfl (by omega)) dX12_readNeed_86 ?_
          refine lv_topi (fun v_114 ev_114 => ?_)
          have hsv_114 : v_114.toInt = ((-1) : Int32).toInt := by rw [ev_114, eg_111, show v_113.toNatClampNeg = v_87.toNatClampNeg from (by have q_0 := idxI (x := v_113) (by omega); have q_1 := idxI (x := v_87) (by omega); omega), pk_us]
          rw [show ((-1) : Int32).toInt = -1 from by decide +kernel] at hsv_114
          refine lv_iconst (pc := 87) (v := (-1)) E.1 E.2.1 dX12_readNeed_87 (by decide +kernel) ?_
          refine lv_icmp_eq (pc := 88) (tgt := 101) E.1 E.2.1 dX12_readNeed_88 (by decide) (fun _ => ?_) (fun c_115 => absurd (meqE (a := v_114.toInt) (b := (-1)) rfl (by decide +kernel) (by omega)) c_115)
          refine lv_iconst (pc := 101) (v := (-1)) E.1 E.2.1 dX12_readNeed_101 (by decide +kernel) ?_
          exact em_i (w1 := (fun (u : Int32 × Int32 × Int32 × Int32 × Int32 × Int32 × (Nat → Int32)) => (MW cI cJ M mr (upd (upd (upd (upd (upd (upd mi 22 u.1) 23 u.2.1) 24 u.2.2.1) 25 u.2.2.2.1) 38 u.2.2.2.2.1) 39 u.2.2.2.2.2.1) (va_up mf 45 u.2.2.2.2.2.2) mg))) E hr hlk (nspot_92, nfrom_93, ntoken_94, nvalue_95, nreadFault_96, nreadPlace_97, g_111) hw112 ⟨hp_99, hp_100, hp_101, hp_102, hp_103, hp_104, hp_105, (show (∀ p : Int, TKR (mf 20) (mi 21).toInt p (mi 23).toInt (mi 22).toInt (mi 24).toInt (mi 25).toInt → RX (mf 20) (mi 21).toInt (needR (mf 20) (mi 21).toInt ((mi 6).toInt - 1) p) ((-1) : Int32).toInt nreadFault_96.toInt nreadPlace_97.toInt nfrom_93.toInt nspot_92.toInt ntoken_94.toInt nvalue_95.toInt) from (fun p hp => by have er := rng_ok (lo := 21) (hi := 24) hp (by omega) (by omega); have q0 := hp_82 _ hp_64; obtain ⟨y0, f0, t0⟩ := RX_get q0 (show (0 : Int32).toInt ≠ -1 from by decide +kernel); have q1 := hp_106 _ t0; rw [show v_88.toInt = (mi 6).toInt - 1 from by omega] at q1; obtain ⟨e1, f1, g1, i1⟩ := RN_err q1 (by decide +kernel) (by decide +kernel); simp only [needR, er, f0, f1]; exact ⟨(by decide +kernel), g1, i1⟩)), (Or.inl rfl)⟩ (Nat.le_of_ble_eq_true rfl) (Nat.le_of_ble_eq_true rfl) dX12_readNeed_102
        · skip
          have ha_108 : (0 : Int32).toInt ≤ r_90.toInt := ha_108
          rw [show (0 : Int32).toInt = 0 from by decide +kernel] at ha_108
          have ha_109 : r_90.toInt ≤ v_88.toInt := ha_109
          have ha_110 : nfrom_69.toInt + 1 ≤ nfrom_93.toInt := ha_110
          refine x_iastG (pc := 78) (f := g_46) (wf := fun g => (MW cI cJ M mr (upd (upd (upd (upd (upd (upd mi 22 nspot_92) 23 nfrom_93) 24 ntoken_94) 25 nvalue_95) 38 nreadFault_96) 39 nreadPlace_97) (va_up mf 45 g) mg)) E hw98 22 rfl (inbE (a := v_87.toInt) rfl (by omega)) (fun _ => rfl) dX12_readNeed_78 (fun g_116 H locs eg_116 hw117 => ?_)
          refine lv_aload_n (pc := 79) E.1 E.2.1 dX12_readNeed_79 rfl (lv_at hl3 0 rfl) ?_
          refine x_get (pc := 80) (T := TX12) (N := 70) (ci := 12) (v := .ref (mr 45)) E hw117 inX12 0 45 q_1444 rfl rfl (by decide) rfl rfl dX12_readNeed_80 ?_
          refine lv_iload_n (pc := 83) E.1 E.2.1 dX12_readNeed_83 rfl (lv_at hl3 1 rfl) ?_
          refine lv_iconst (pc := 84) (v := 1) E.1 E.2.1 dX12_readNeed_84 (by decide +kernel) ?_
          refine lv_iadd (pc := 85) E.1 E.2.1 dX12_readNeed_85 ?_
          refine lv_topi (fun v_118 ev_118 => ?_)
          have hv_118 : v_118.toInt = z_at.toInt + 1 := by rw [ev_118]; exact addE rfl (by decide +kernel) (by omega)
          refine x_iald (pc := 86) (f := g_116) E hw117 22 rfl (inbE (a := v_118.toInt) rfl (by omega)) dX12_readNeed_86 ?_
          refine lv_topi (fun v_119 ev_119 => ?_)
          have hsv_119 : v_119.toInt = r_90.toInt := by rw [ev_119, eg_116, show v_118.toNatClampNeg = v_87.toNatClampNeg from (by have q_0 := idxI (x := v_118) (by omega); have q_1 := idxI (x := v_87) (by omega); omega), pk_us]
          refine lv_iconst (pc := 87) (v := (-1)) E.1 E.2.1 dX12_readNeed_87 (by decide +kernel) ?_
          refine lv_icmp_eq (pc := 88) (tgt := 101) E.1 E.2.1 dX12_readNeed_88 (by decide) (fun c_120 => absurd c_120 (mneE (a := v_119.toInt) (b := (-1)) rfl (by decide +kernel) (by omega))) (fun _ => ?_)
          refine lv_aload_n (pc := 91) E.1 E.2.1 dX12_readNeed_91 rfl (lv_at hl3 0 rfl) ?_
          refine lv_bipush (pc := 92) (v := 26) E.1 E.2.1 dX12_readNeed_92 (by decide +kernel) ?_
          refine cm_i (pc := 94) hw117 (rn_M (As := [.int 26]) (rest := []) E hw117 (s_readWordT l D cI cJ _ M mr (upd (upd (upd (upd (upd (upd mi 22 nspot_92) 23 nfrom_93) 24 ntoken_94) 25 nvalue_95) 38 nreadFault_96) 39 nreadPlace_97) (va_up mf 45 g_116) mg 26 hp_99 hp_100 hp_101 h3 hp_102 hp_103 hp_104 h7 a_tape (show (∀ j : Nat, j < 154 → (mf 26) j = w0 j) from lf_words) (show AGN ntoken_94.toInt nvalue_95.toInt nfrom_93.toInt nspot_92.toInt from hp_105)) (gdV q_1710 q_1712 q_63 q_162 q_1713) hdV_X12_readWord ⟨rfl, rfl⟩ ⟨(Nat.le_of_ble_eq_true rfl), (Nat.le_of_ble_eq_true rfl)⟩ ⟨(Nat.le_of_ble_eq_true rfl), (Nat.le_of_ble_eq_true rfl)⟩ 12 rfl rfl rfl rfl hl3.1 rfl (Nat.le_of_ble_eq_true rfl) dX12_readNeed_94) (fun r_122 u_121 H1 locs hp hw123 => ?_)
          obtain ⟨nspot_124, nfrom_125, ntoken_126, nvalue_127, nreadFault_128, nreadPlace_129⟩ := u_121
          generalize H1 = H at hw123 ⊢
          have hw130 : WD D A s.heap (MW cI cJ M mr (upd (upd (upd (upd (upd (upd mi 22 nspot_124) 23 nfrom_125) 24 ntoken_126) 25 nvalue_127) 38 nreadFault_128) 39 nreadPlace_129) (va_up mf 45 g_116) mg) H locs := hw123
          obtain ⟨hp_131, hp_132, hp_133, hp_134, hp_135, hp_136, hp_137, hp_138, hp_139⟩ := hp
          have hp_131 : 0 ≤ nfrom_125.toInt := hp_131
          have hp_132 : nfrom_125.toInt ≤ nspot_124.toInt := hp_132
          have hp_133 : nspot_124.toInt ≤ (mi 21).toInt := hp_133
          have hp_134 : 0 ≤ ntoken_126.toInt := hp_134
          have hp_135 : ntoken_126.toInt ≤ 4 := hp_135
          have hp_136 : ntoken_126.toInt ≤ 4 * nspot_124.toInt - 4 * nfrom_125.toInt := hp_136
          have hp_137 : AGN ntoken_126.toInt nvalue_127.toInt nfrom_125.toInt nspot_124.toInt := hp_137
          have hp_138 : (∀ p : Int, TKR (mf 20) (mi 21).toInt p nfrom_93.toInt nspot_92.toInt ntoken_94.toInt nvalue_95.toInt → RX (mf 20) (mi 21).toInt (wordR (mf 20) (mi 21).toInt ((26 : Int32) : Int32).toInt p) (r_122 : Int32).toInt nreadFault_128.toInt nreadPlace_129.toInt nfrom_125.toInt nspot_124.toInt ntoken_126.toInt nvalue_127.toInt) := hp_138
          rcases hp_139 with rfl | ⟨rfl, ha_140⟩
          · skip
            refine lv_iconst (pc := 97) (v := (-1)) E.1 E.2.1 dX12_readNeed_97 (by decide +kernel) ?_
            refine lv_icmp_ne (pc := 98) (tgt := 103) E.1 E.2.1 dX12_readNeed_98 (by decide) (fun c_141 => absurd (meqE (a := (-1)) (b := (-1)) (by decide +kernel) (by decide +kernel) (by omega)) c_141) (fun _ => ?_)
            refine lv_iconst (pc := 101) (v := (-1)) E.1 E.2.1 dX12_readNeed_101 (by decide +kernel) ?_
            exact em_i (w1 := (fun (u : Int32 × Int32 × Int32 × Int32 × Int32 × Int32 × (Nat → Int32)) => (MW cI cJ M mr (upd (upd (upd (upd (upd (upd mi 22 u.1) 23 u.2.1) 24 u.2.2.1) 25 u.2.2.2.1) 38 u.2.2.2.2.1) 39 u.2.2.2.2.2.1) (va_up mf 45 u.2.2.2.2.2.2) mg))) E hr hlk (nspot_124, nfrom_125, ntoken_126, nvalue_127, nreadFault_128, nreadPlace_129, g_116) hw130 ⟨hp_131, hp_132, hp_133, hp_134, hp_135, hp_136, hp_137, (show (∀ p : Int, TKR (mf 20) (mi 21).toInt p (mi 23).toInt (mi 22).toInt (mi 24).toInt (mi 25).toInt → RX (mf 20) (mi 21).toInt (needR (mf 20) (mi 21).toInt ((mi 6).toInt - 1) p) ((-1) : Int32).toInt nreadFault_128.toInt nreadPlace_129.toInt nfrom_125.toInt nspot_124.toInt ntoken_126.toInt nvalue_127.toInt) from (fun p hp => by have er := rng_ok (lo := 21) (hi := 24) hp (by omega) (by omega); have q0 := hp_82 _ hp_64; obtain ⟨y0, f0, t0⟩ := RX_get q0 (show (0 : Int32).toInt ≠ -1 from by decide +kernel); have q1 := hp_106 _ t0; rw [show v_88.toInt = (mi 6).toInt - 1 from by omega] at q1; obtain ⟨y1, f1, z1, t1⟩ := RN_get q1 (by omega); have q2 := hp_138 _ t1; obtain ⟨e2, f2, g2, i2⟩ := RX_err q2 (by decide +kernel); simp only [needR, er, f0, f1, f2]; exact ⟨(by decide +kernel), g2, i2⟩)), (Or.inl rfl)⟩ (Nat.le_of_ble_eq_true rfl) (Nat.le_of_ble_eq_true rfl) dX12_readNeed_102
          · skip
            have ha_140 : nfrom_93.toInt + 1 ≤ nfrom_125.toInt := ha_140
            refine lv_iconst (pc := 97) (v := (-1)) E.1 E.2.1 dX12_readNeed_97 (by decide +kernel) ?_
            refine lv_icmp_ne (pc := 98) (tgt := 103) E.1 E.2.1 dX12_readNeed_98 (by decide) (fun _ => ?_) (fun c_142 => absurd c_142 (mneE (a := 0) (b := (-1)) (by decide +kernel) (by decide +kernel) (by omega)))
            refine lv_aload_n (pc := 103) E.1 E.2.1 dX12_readNeed_103 rfl (lv_at hl3 0 rfl) ?_
            refine x_get (pc := 104) (T := TX12) (N := 70) (ci := 12) (v := .ref (mr 45)) E hw130 inX12 0 45 q_1444 rfl rfl (by decide) rfl rfl dX12_readNeed_104 ?_
            refine lv_iload_n (pc := 107) E.1 E.2.1 dX12_readNeed_107 rfl (lv_at hl3 1 rfl) ?_
            refine lv_iconst (pc := 108) (v := 2) E.1 E.2.1 dX12_readNeed_108 (by decide +kernel) ?_
            refine lv_iadd (pc := 109) E.1 E.2.1 dX12_readNeed_109 ?_
            refine lv_topi (fun v_143 ev_143 => ?_)
            have hv_143 : v_143.toInt = z_at.toInt + 2 := by rw [ev_143]; exact addE rfl (by decide +kernel) (by omega)
            refine lv_aload_n (pc := 110) E.1 E.2.1 dX12_readNeed_110 rfl (lv_at hl3 0 rfl) ?_
            refine lv_iconst (pc := 111) (v := 0) E.1 E.2.1 dX12_readNeed_111 (by decide +kernel) ?_
            refine lv_sipush (pc := 112) (v := 9999) E.1 E.2.1 dX12_readNeed_112 (by decide +kernel) ?_
            refine cm_i (pc := 115) hw130 (rn_M (As := [.int 0, .int 9999]) (rest := [.int v_143, .ref (mr 45)]) E hw130 (s_readNumberT l D cI cJ _ M mr (upd (upd (upd (upd (upd (upd mi 22 nspot_124) 23 nfrom_125) 24 ntoken_126) 25 nvalue_127) 38 nreadFault_128) 39 nreadPlace_129) (va_up mf 45 g_116) mg 0 9999 hp_131 hp_132 hp_133 h3 hp_134 hp_135 hp_136 h7 a_tape (show (∀ j : Nat, j < 154 → (mf 26) j = w0 j) from lf_words) (show AGN ntoken_126.toInt nvalue_127.toInt nfrom_125.toInt nspot_124.toInt from hp_137)) (gdV q_1706 q_1708 q_62 q_162 q_1709) hdV_X12_readNumber ⟨rfl, rfl⟩ ⟨(Nat.le_of_ble_eq_true rfl), (Nat.le_of_ble_eq_true rfl)⟩ ⟨(Nat.le_of_ble_eq_true rfl), (Nat.le_of_ble_eq_true rfl)⟩ 12 rfl rfl rfl rfl hl3.1 rfl (Nat.le_of_ble_eq_true rfl) dX12_readNeed_115) (fun r_145 u_144 H1 locs hp hw146 => ?_)
            obtain ⟨nspot_147, nfrom_148, ntoken_149, nvalue_150, nreadFault_151, nreadPlace_152⟩ := u_144
            generalize H1 = H at hw146 ⊢
            have hw153 : WD D A s.heap (MW cI cJ M mr (upd (upd (upd (upd (upd (upd mi 22 nspot_147) 23 nfrom_148) 24 ntoken_149) 25 nvalue_150) 38 nreadFault_151) 39 nreadPlace_152) (va_up mf 45 g_116) mg) H locs := hw146
            obtain ⟨hp_154, hp_155, hp_156, hp_157, hp_158, hp_159, hp_160, hp_161, hp_162⟩ := hp
            have hp_154 : 0 ≤ nfrom_148.toInt := hp_154
            have hp_155 : nfrom_148.toInt ≤ nspot_147.toInt := hp_155
            have hp_156 : nspot_147.toInt ≤ (mi 21).toInt := hp_156
            have hp_157 : 0 ≤ ntoken_149.toInt := hp_157
            have hp_158 : ntoken_149.toInt ≤ 4 := hp_158
            have hp_159 : ntoken_149.toInt ≤ 4 * nspot_147.toInt - 4 * nfrom_148.toInt := hp_159
            have hp_160 : AGN ntoken_149.toInt nvalue_150.toInt nfrom_148.toInt nspot_147.toInt := hp_160
            have hp_161 : (∀ p : Int, TKR (mf 20) (mi 21).toInt p nfrom_125.toInt nspot_124.toInt ntoken_126.toInt nvalue_127.toInt → RN (mf 20) (mi 21).toInt (numR (mf 20) (mi 21).toInt ((0 : Int32) : Int32).toInt ((9999 : Int32) : Int32).toInt p) (r_145 : Int32).toInt nreadFault_151.toInt nreadPlace_152.toInt nfrom_148.toInt nspot_147.toInt ntoken_149.toInt nvalue_150.toInt) := hp_161
            rcases hp_162 with rfl | ⟨ha_163, ha_164, ha_165⟩
            · skip
              refine x_iastG (pc := 118) (f := g_116) (wf := fun g => (MW cI cJ M mr (upd (upd (upd (upd (upd (upd mi 22 nspot_147) 23 nfrom_148) 24 ntoken_149) 25 nvalue_150) 38 nreadFault_151) 39 nreadPlace_152) (va_up mf 45 g) mg)) E hw153 22 rfl (inbE (a := v_143.toInt) rfl (by omega)) (fun _ => rfl) dX12_readNeed_118 (fun g_166 H locs eg_166 hw167 => ?_)
              refine lv_aload_n (pc := 119) E.1 E.2.1 dX12_readNeed_119 rfl (lv_at hl3 0 rfl) ?_
              refine x_get (pc := 120) (T := TX12) (N := 70) (ci := 12) (v := .ref (mr 45)) E hw167 inX12 0 45 q_1444 rfl rfl (by decide) rfl rfl dX12_readNeed_120 ?_
              refine lv_iload_n (pc := 123) E.1 E.2.1 dX12_readNeed_123 rfl (lv_at hl3 1 rfl) ?_
              refine lv_iconst (pc := 124) (v := 2) E.1 E.2.1 dX12_readNeed_124 (by decide +kernel) ?_
              refine lv_iadd (pc := 125) E.1 E.2.1 dX12_readNeed_125 ?_
              refine lv_topi (fun v_168 ev_168 => ?_)
              have hv_168 : v_168.toInt = z_at.toInt + 2 := by rw [ev_168]; exact addE rfl (by decide +kernel) (by omega)
              refine x_iald (pc := 126) (f := g_166) E hw167 22 rfl (inbE (a := v_168.toInt) rfl (by omega)) dX12_readNeed_126 ?_
              refine lv_topi (fun v_169 ev_169 => ?_)
              have hsv_169 : v_169.toInt = ((-1) : Int32).toInt := by rw [ev_169, eg_166, show v_168.toNatClampNeg = v_143.toNatClampNeg from (by have q_0 := idxI (x := v_168) (by omega); have q_1 := idxI (x := v_143) (by omega); omega), pk_us]
              rw [show ((-1) : Int32).toInt = -1 from by decide +kernel] at hsv_169
              refine lv_iconst (pc := 127) (v := (-1)) E.1 E.2.1 dX12_readNeed_127 (by decide +kernel) ?_
              refine lv_icmp_eq (pc := 128) (tgt := 141) E.1 E.2.1 dX12_readNeed_128 (by decide) (fun _ => ?_) (fun c_170 => absurd (meqE (a := v_169.toInt) (b := (-1)) rfl (by decide +kernel) (by omega)) c_170)
              refine lv_iconst (pc := 141) (v := (-1)) E.1 E.2.1 dX12_readNeed_141 (by decide +kernel) ?_
              exact em_i (w1 := (fun (u : Int32 × Int32 × Int32 × Int32 × Int32 × Int32 × (Nat → Int32)) => (MW cI cJ M mr (upd (upd (upd (upd (upd (upd mi 22 u.1) 23 u.2.1) 24 u.2.2.1) 25 u.2.2.2.1) 38 u.2.2.2.2.1) 39 u.2.2.2.2.2.1) (va_up mf 45 u.2.2.2.2.2.2) mg))) E hr hlk (nspot_147, nfrom_148, ntoken_149, nvalue_150, nreadFault_151, nreadPlace_152, g_166) hw167 ⟨hp_154, hp_155, hp_156, hp_157, hp_158, hp_159, hp_160, (show (∀ p : Int, TKR (mf 20) (mi 21).toInt p (mi 23).toInt (mi 22).toInt (mi 24).toInt (mi 25).toInt → RX (mf 20) (mi 21).toInt (needR (mf 20) (mi 21).toInt ((mi 6).toInt - 1) p) ((-1) : Int32).toInt nreadFault_151.toInt nreadPlace_152.toInt nfrom_148.toInt nspot_147.toInt ntoken_149.toInt nvalue_150.toInt) from (fun p hp => by have er := rng_ok (lo := 21) (hi := 24) hp (by omega) (by omega); have q0 := hp_82 _ hp_64; obtain ⟨y0, f0, t0⟩ := RX_get q0 (show (0 : Int32).toInt ≠ -1 from by decide +kernel); have q1 := hp_106 _ t0; rw [show v_88.toInt = (mi 6).toInt - 1 from by omega] at q1; obtain ⟨y1, f1, z1, t1⟩ := RN_get q1 (by omega); have q2 := hp_138 _ t1; obtain ⟨y2, f2, t2⟩ := RX_get q2 (show (0 : Int32).toInt ≠ -1 from by decide +kernel); have q3 := hp_161 _ t2; obtain ⟨e3, f3, g3, i3⟩ := RN_err q3 (by decide +kernel) (by decide +kernel); simp only [needR, er, f0, f1, f2, f3]; exact ⟨(by decide +kernel), g3, i3⟩)), (Or.inl rfl)⟩ (Nat.le_of_ble_eq_true rfl) (Nat.le_of_ble_eq_true rfl) dX12_readNeed_142
            · skip
              have ha_163 : (0 : Int32).toInt ≤ r_145.toInt := ha_163
              rw [show (0 : Int32).toInt = 0 from by decide +kernel] at ha_163
              have ha_164 : r_145.toInt ≤ (9999 : Int32).toInt := ha_164
              rw [show (9999 : Int32).toInt = 9999 from by decide +kernel] at ha_164
              have ha_165 : nfrom_125.toInt + 1 ≤ nfrom_148.toInt := ha_165
              refine x_iastG (pc := 118) (f := g_116) (wf := fun g => (MW cI cJ M mr (upd (upd (upd (upd (upd (upd mi 22 nspot_147) 23 nfrom_148) 24 ntoken_149) 25 nvalue_150) 38 nreadFault_151) 39 nreadPlace_152) (va_up mf 45 g) mg)) E hw153 22 rfl (inbE (a := v_143.toInt) rfl (by omega)) (fun _ => rfl) dX12_readNeed_118 (fun g_171 H locs eg_171 hw172 => ?_)
              refine lv_aload_n (pc := 119) E.1 E.2.1 dX12_readNeed_119 rfl (lv_at hl3 0 rfl) ?_
              refine x_get (pc := 120) (T := TX12) (N := 70) (ci := 12) (v := .ref (mr 45)) E hw172 inX12 0 45 q_1444 rfl rfl (by decide) rfl rfl dX12_readNeed_120 ?_
              refine lv_iload_n (pc := 123) E.1 E.2.1 dX12_readNeed_123 rfl (lv_at hl3 1 rfl) ?_
              refine lv_iconst (pc := 124) (v := 2) E.1 E.2.1 dX12_readNeed_124 (by decide +kernel) ?_
              refine lv_iadd (pc := 125) E.1 E.2.1 dX12_readNeed_125 ?_
              refine lv_topi (fun v_173 ev_173 => ?_)
              have hv_173 : v_173.toInt = z_at.toInt + 2 := by rw [ev_173]; exact addE rfl (by decide +kernel) (by omega)
              refine x_iald (pc := 126) (f := g_171) E hw172 22 rfl (inbE (a := v_173.toInt) rfl (by omega)) dX12_readNeed_126 ?_
              refine lv_topi (fun v_174 ev_174 => ?_)
              have hsv_174 : v_174.toInt = r_145.toInt := by rw [ev_174, eg_171, show v_173.toNatClampNeg = v_143.toNatClampNeg from (by have q_0 := idxI (x := v_173) (by omega); have q_1 := idxI (x := v_143) (by omega); omega), pk_us]
              refine lv_iconst (pc := 127) (v := (-1)) E.1 E.2.1 dX12_readNeed_127 (by decide +kernel) ?_
              refine lv_icmp_eq (pc := 128) (tgt := 141) E.1 E.2.1 dX12_readNeed_128 (by decide) (fun c_175 => absurd c_175 (mneE (a := v_174.toInt) (b := (-1)) rfl (by decide +kernel) (by omega))) (fun _ => ?_)
              refine lv_aload_n (pc := 131) E.1 E.2.1 dX12_readNeed_131 rfl (lv_at hl3 0 rfl) ?_
              refine lv_bipush (pc := 132) (v := 17) E.1 E.2.1 dX12_readNeed_132 (by decide +kernel) ?_
              refine cm_i (pc := 134) hw172 (rn_M (As := [.int 17]) (rest := []) E hw172 (s_readWordT l D cI cJ _ M mr (upd (upd (upd (upd (upd (upd mi 22 nspot_147) 23 nfrom_148) 24 ntoken_149) 25 nvalue_150) 38 nreadFault_151) 39 nreadPlace_152) (va_up mf 45 g_171) mg 17 hp_154 hp_155 hp_156 h3 hp_157 hp_158 hp_159 h7 a_tape (show (∀ j : Nat, j < 154 → (mf 26) j = w0 j) from lf_words) (show AGN ntoken_149.toInt nvalue_150.toInt nfrom_148.toInt nspot_147.toInt from hp_160)) (gdV q_1710 q_1712 q_63 q_162 q_1713) hdV_X12_readWord ⟨rfl, rfl⟩ ⟨(Nat.le_of_ble_eq_true rfl), (Nat.le_of_ble_eq_true rfl)⟩ ⟨(Nat.le_of_ble_eq_true rfl), (Nat.le_of_ble_eq_true rfl)⟩ 12 rfl rfl rfl rfl hl3.1 rfl (Nat.le_of_ble_eq_true rfl) dX12_readNeed_134) (fun r_177 u_176 H1 locs hp hw178 => ?_)
              obtain ⟨nspot_179, nfrom_180, ntoken_181, nvalue_182, nreadFault_183, nreadPlace_184⟩ := u_176
              generalize H1 = H at hw178 ⊢
              have hw185 : WD D A s.heap (MW cI cJ M mr (upd (upd (upd (upd (upd (upd mi 22 nspot_179) 23 nfrom_180) 24 ntoken_181) 25 nvalue_182) 38 nreadFault_183) 39 nreadPlace_184) (va_up mf 45 g_171) mg) H locs := hw178
              obtain ⟨hp_186, hp_187, hp_188, hp_189, hp_190, hp_191, hp_192, hp_193, hp_194⟩ := hp
              have hp_186 : 0 ≤ nfrom_180.toInt := hp_186
              have hp_187 : nfrom_180.toInt ≤ nspot_179.toInt := hp_187
              have hp_188 : nspot_179.toInt ≤ (mi 21).toInt := hp_188
              have hp_189 : 0 ≤ ntoken_181.toInt := hp_189
              have hp_190 : ntoken_181.toInt ≤ 4 := hp_190
              have hp_191 : ntoken_181.toInt ≤ 4 * nspot_179.toInt - 4 * nfrom_180.toInt := hp_191
              have hp_192 : AGN ntoken_181.toInt nvalue_182.toInt nfrom_180.toInt nspot_179.toInt := hp_192
              have hp_193 : (∀ p : Int, TKR (mf 20) (mi 21).toInt p nfrom_148.toInt nspot_147.toInt ntoken_149.toInt nvalue_150.toInt → RX (mf 20) (mi 21).toInt (wordR (mf 20) (mi 21).toInt ((17 : Int32) : Int32).toInt p) (r_177 : Int32).toInt nreadFault_183.toInt nreadPlace_184.toInt nfrom_180.toInt nspot_179.toInt ntoken_181.toInt nvalue_182.toInt) := hp_193
              rcases hp_194 with rfl | ⟨rfl, ha_195⟩
              · skip
                refine lv_iconst (pc := 137) (v := (-1)) E.1 E.2.1 dX12_readNeed_137 (by decide +kernel) ?_
                refine lv_icmp_ne (pc := 138) (tgt := 143) E.1 E.2.1 dX12_readNeed_138 (by decide) (fun c_196 => absurd (meqE (a := (-1)) (b := (-1)) (by decide +kernel) (by decide +kernel) (by omega)) c_196) (fun _ => ?_)
                refine lv_iconst (pc := 141) (v := (-1)) E.1 E.2.1 dX12_readNeed_141 (by decide +kernel) ?_
                exact em_i (w1 := (fun (u : Int32 × Int32 × Int32 × Int32 × Int32 × Int32 × (Nat → Int32)) => (MW cI cJ M mr (upd (upd (upd (upd (upd (upd mi 22 u.1) 23 u.2.1) 24 u.2.2.1) 25 u.2.2.2.1) 38 u.2.2.2.2.1) 39 u.2.2.2.2.2.1) (va_up mf 45 u.2.2.2.2.2.2) mg))) E hr hlk (nspot_179, nfrom_180, ntoken_181, nvalue_182, nreadFault_183, nreadPlace_184, g_171) hw185 ⟨hp_186, hp_187, hp_188, hp_189, hp_190, hp_191, hp_192, (show (∀ p : Int, TKR (mf 20) (mi 21).toInt p (mi 23).toInt (mi 22).toInt (mi 24).toInt (mi 25).toInt → RX (mf 20) (mi 21).toInt (needR (mf 20) (mi 21).toInt ((mi 6).toInt - 1) p) ((-1) : Int32).toInt nreadFault_183.toInt nreadPlace_184.toInt nfrom_180.toInt nspot_179.toInt ntoken_181.toInt nvalue_182.toInt) from (fun p hp => by have er := rng_ok (lo := 21) (hi := 24) hp (by omega) (by omega); have q0 := hp_82 _ hp_64; obtain ⟨y0, f0, t0⟩ := RX_get q0 (show (0 : Int32).toInt ≠ -1 from by decide +kernel); have q1 := hp_106 _ t0; rw [show v_88.toInt = (mi 6).toInt - 1 from by omega] at q1; obtain ⟨y1, f1, z1, t1⟩ := RN_get q1 (by omega); have q2 := hp_138 _ t1; obtain ⟨y2, f2, t2⟩ := RX_get q2 (show (0 : Int32).toInt ≠ -1 from by decide +kernel); have q3 := hp_161 _ t2; obtain ⟨y3, f3, z3, t3⟩ := RN_get q3 (by omega); have q4 := hp_193 _ t3; obtain ⟨e4, f4, g4, i4⟩ := RX_err q4 (by decide +kernel); simp only [needR, er, f0, f1, f2, f3, f4]; exact ⟨(by decide +kernel), g4, i4⟩)), (Or.inl rfl)⟩ (Nat.le_of_ble_eq_true rfl) (Nat.le_of_ble_eq_true rfl) dX12_readNeed_142
              · skip
                have ha_195 : nfrom_148.toInt + 1 ≤ nfrom_180.toInt := ha_195
                refine lv_iconst (pc := 137) (v := (-1)) E.1 E.2.1 dX12_readNeed_137 (by decide +kernel) ?_
                refine lv_icmp_ne (pc := 138) (tgt := 143) E.1 E.2.1 dX12_readNeed_138 (by decide) (fun _ => ?_) (fun c_197 => absurd c_197 (mneE (a := 0) (b := (-1)) (by decide +kernel) (by decide +kernel) (by omega)))
                refine lv_aload_n (pc := 143) E.1 E.2.1 dX12_readNeed_143 rfl (lv_at hl3 0 rfl) ?_
                refine x_get (pc := 144) (T := TX12) (N := 70) (ci := 12) (v := .ref (mr 45)) E hw185 inX12 0 45 q_1444 rfl rfl (by decide) rfl rfl dX12_readNeed_144 ?_
                refine lv_iload_n (pc := 147) E.1 E.2.1 dX12_readNeed_147 rfl (lv_at hl3 1 rfl) ?_
                refine lv_iconst (pc := 148) (v := 3) E.1 E.2.1 dX12_readNeed_148 (by decide +kernel) ?_
                refine lv_iadd (pc := 149) E.1 E.2.1 dX12_readNeed_149 ?_
                refine lv_topi (fun v_198 ev_198 => ?_)
                have hv_198 : v_198.toInt = z_at.toInt + 3 := by rw [ev_198]; exact addE rfl (by decide +kernel) (by omega)
                refine lv_aload_n (pc := 150) E.1 E.2.1 dX12_readNeed_150 rfl (lv_at hl3 0 rfl) ?_
                refine lv_aload_n (pc := 151) E.1 E.2.1 dX12_readNeed_151 rfl (lv_at hl3 0 rfl) ?_
                refine x_get (pc := 152) (T := TX12) (N := 70) (ci := 12) (v := .ref (mr 45)) E hw185 inX12 0 45 q_1444 rfl rfl (by decide) rfl rfl dX12_readNeed_152 ?_
                refine lv_iload_n (pc := 155) E.1 E.2.1 dX12_readNeed_155 rfl (lv_at hl3 1 rfl) ?_
                refine lv_iconst (pc := 156) (v := 2) E.1 E.2.1 dX12_readNeed_156 (by decide +kernel) ?_
                refine lv_iadd (pc := 157) E.1 E.2.1 dX12_readNeed_157 ?_
                refine lv_topi (fun v_199 ev_199 => ?_)
                have hv_199 : v_199.toInt = z_at.toInt + 2 := by rw [ev_199]; exact addE rfl (by decide +kernel) (by omega)
                refine x_iald (pc := 158) (f := g_171) E hw185 22 rfl (inbE (a := v_199.toInt) rfl (by omega)) dX12_readNeed_158 ?_
                refine lv_topi (fun v_200 ev_200 => ?_)
                have hsv_200 : v_200.toInt = r_145.toInt := by rw [ev_200, eg_171, show v_199.toNatClampNeg = v_143.toNatClampNeg from (by have q_0 := idxI (x := v_199) (by omega); have q_1 := idxI (x := v_143) (by omega); omega), pk_us]
                refine lv_sipush (pc := 159) (v := 9999) E.1 E.2.1 dX12_readNeed_159 (by decide +kernel) ?_
                refine cm_i (pc := 162) hw185 (rn_M (As := [.int v_200, .int 9999]) (rest := [.int v_198, .ref (mr 45)]) E hw185 (s_readNumberT l D cI cJ _ M mr (upd (upd (upd (upd (upd (upd mi 22 nspot_179) 23 nfrom_180) 24 ntoken_181) 25 nvalue_182) 38 nreadFault_183) 39 nreadPlace_184) (va_up mf 45 g_171) mg v_200 9999 hp_186 hp_187 hp_188 h3 hp_189 hp_190 hp_191 h7 a_tape (show (∀ j : Nat, j < 154 → (mf 26) j = w0 j) from lf_words) (show AGN ntoken_181.toInt nvalue_182.toInt nfrom_180.toInt nspot_179.toInt from hp_192)) (gdV q_1706 q_1708 q_62 q_162 q_1709) hdV_X12_readNumber ⟨rfl, rfl⟩ ⟨(Nat.le_of_ble_eq_true rfl), (Nat.le_of_ble_eq_true rfl)⟩ ⟨(Nat.le_of_ble_eq_true rfl), (Nat.le_of_ble_eq_true rfl)⟩ 12 rfl rfl rfl rfl hl3.1 rfl (Nat.le_of_ble_eq_true rfl) dX12_readNeed_162) (fun r_202 u_201 H1 locs hp hw203 => ?_)
                obtain ⟨nspot_204, nfrom_205, ntoken_206, nvalue_207, nreadFault_208, nreadPlace_209⟩ := u_201
                generalize H1 = H at hw203 ⊢
                have hw210 : WD D A s.heap (MW cI cJ M mr (upd (upd (upd (upd (upd (upd mi 22 nspot_204) 23 nfrom_205) 24 ntoken_206) 25 nvalue_207) 38 nreadFault_208) 39 nreadPlace_209) (va_up mf 45 g_171) mg) H locs := hw203
                obtain ⟨hp_211, hp_212, hp_213, hp_214, hp_215, hp_216, hp_217, hp_218, hp_219⟩ := hp
                have hp_211 : 0 ≤ nfrom_205.toInt := hp_211
                have hp_212 : nfrom_205.toInt ≤ nspot_204.toInt := hp_212
                have hp_213 : nspot_204.toInt ≤ (mi 21).toInt := hp_213
                have hp_214 : 0 ≤ ntoken_206.toInt := hp_214
                have hp_215 : ntoken_206.toInt ≤ 4 := hp_215
                have hp_216 : ntoken_206.toInt ≤ 4 * nspot_204.toInt - 4 * nfrom_205.toInt := hp_216
                have hp_217 : AGN ntoken_206.toInt nvalue_207.toInt nfrom_205.toInt nspot_204.toInt := hp_217
                have hp_218 : (∀ p : Int, TKR (mf 20) (mi 21).toInt p nfrom_180.toInt nspot_179.toInt ntoken_181.toInt nvalue_182.toInt → RN (mf 20) (mi 21).toInt (numR (mf 20) (mi 21).toInt (v_200 : Int32).toInt ((9999 : Int32) : Int32).toInt p) (r_202 : Int32).toInt nreadFault_208.toInt nreadPlace_209.toInt nfrom_205.toInt nspot_204.toInt ntoken_206.toInt nvalue_207.toInt) := hp_218
                rcases hp_219 with rfl | ⟨ha_220, ha_221, ha_222⟩
                · skip
                  refine x_iastG (pc := 165) (f := g_171) (wf := fun g => (MW cI cJ M mr (upd (upd (upd (upd (upd (upd mi 22 nspot_204) 23 nfrom_205) 24 ntoken_206) 25 nvalue_207) 38 nreadFault_208) 39 nreadPlace_209) (va_up mf 45 g) mg)) E hw210 22 rfl (inbE (a := v_198.toInt) rfl (by omega)) (fun _ => rfl) dX12_readNeed_165 (fun g_223 H locs eg_223 hw224 => ?_)
                  refine lv_aload_n (pc := 166) E.1 E.2.1 dX12_readNeed_166 rfl (lv_at hl3 0 rfl) ?_
                  refine x_get (pc := 167) (T := TX12) (N := 70) (ci := 12) (v := .ref (mr 45)) E hw224 inX12 0 45 q_1444 rfl rfl (by decide) rfl rfl dX12_readNeed_167 ?_
                  refine lv_iload_n (pc := 170) E.1 E.2.1 dX12_readNeed_170 rfl (lv_at hl3 1 rfl) ?_
                  refine lv_iconst (pc := 171) (v := 3) E.1 E.2.1 dX12_readNeed_171 (by decide +kernel) ?_
                  refine lv_iadd (pc := 172) E.1 E.2.1 dX12_readNeed_172 ?_
                  refine lv_topi (fun v_225 ev_225 => ?_)
                  have hv_225 : v_225.toInt = z_at.toInt + 3 := by rw [ev_225]; exact addE rfl (by decide +kernel) (by omega)
                  refine x_iald (pc := 173) (f := g_223) E hw224 22 rfl (inbE (a := v_225.toInt) rfl (by omega)) dX12_readNeed_173 ?_
                  refine lv_topi (fun v_226 ev_226 => ?_)
                  have hsv_226 : v_226.toInt = ((-1) : Int32).toInt := by rw [ev_226, eg_223, show v_225.toNatClampNeg = v_198.toNatClampNeg from (by have q_0 := idxI (x := v_225) (by omega); have q_1 := idxI (x := v_198) (by omega); omega), pk_us]
                  rw [show ((-1) : Int32).toInt = -1 from by decide +kernel] at hsv_226
                  refine lv_iconst (pc := 174) (v := (-1)) E.1 E.2.1 dX12_readNeed_174 (by decide +kernel) ?_
                  refine lv_icmp_eq (pc := 175) (tgt := 188) E.1 E.2.1 dX12_readNeed_175 (by decide) (fun _ => ?_) (fun c_227 => absurd (meqE (a := v_226.toInt) (b := (-1)) rfl (by decide +kernel) (by omega)) c_227)
                  refine lv_iconst (pc := 188) (v := (-1)) E.1 E.2.1 dX12_readNeed_188 (by decide +kernel) ?_
                  exact em_i (w1 := (fun (u : Int32 × Int32 × Int32 × Int32 × Int32 × Int32 × (Nat → Int32)) => (MW cI cJ M mr (upd (upd (upd (upd (upd (upd mi 22 u.1) 23 u.2.1) 24 u.2.2.1) 25 u.2.2.2.1) 38 u.2.2.2.2.1) 39 u.2.2.2.2.2.1) (va_up mf 45 u.2.2.2.2.2.2) mg))) E hr hlk (nspot_204, nfrom_205, ntoken_206, nvalue_207, nreadFault_208, nreadPlace_209, g_223) hw224 ⟨hp_211, hp_212, hp_213, hp_214, hp_215, hp_216, hp_217, (show (∀ p : Int, TKR (mf 20) (mi 21).toInt p (mi 23).toInt (mi 22).toInt (mi 24).toInt (mi 25).toInt → RX (mf 20) (mi 21).toInt (needR (mf 20) (mi 21).toInt ((mi 6).toInt - 1) p) ((-1) : Int32).toInt nreadFault_208.toInt nreadPlace_209.toInt nfrom_205.toInt nspot_204.toInt ntoken_206.toInt nvalue_207.toInt) from (fun p hp => by have er := rng_ok (lo := 21) (hi := 24) hp (by omega) (by omega); have q0 := hp_82 _ hp_64; obtain ⟨y0, f0, t0⟩ := RX_get q0 (show (0 : Int32).toInt ≠ -1 from by decide +kernel); have q1 := hp_106 _ t0; rw [show v_88.toInt = (mi 6).toInt - 1 from by omega] at q1; obtain ⟨y1, f1, z1, t1⟩ := RN_get q1 (by omega); have q2 := hp_138 _ t1; obtain ⟨y2, f2, t2⟩ := RX_get q2 (show (0 : Int32).toInt ≠ -1 from by decide +kernel); have q3 := hp_161 _ t2; obtain ⟨y3, f3, z3, t3⟩ := RN_get q3 (by omega); have q4 := hp_193 _ t3; obtain ⟨y4, f4, t4⟩ := RX_get q4 (show (0 : Int32).toInt ≠ -1 from by decide +kernel); have q5 := hp_218 _ t4; rw [show v_200.toInt = y3.1 from by omega] at q5; obtain ⟨e5, f5, g5, i5⟩ := RN_err q5 (by have z9 := num_lo f3; have k0 : (0 : Int32).toInt = 0 := (by decide +kernel); omega) (by decide +kernel); simp only [needR, er, f0, f1, f2, f3, f4, f5]; exact ⟨(by decide +kernel), g5, i5⟩)), (Or.inl rfl)⟩ (Nat.le_of_ble_eq_true rfl) (Nat.le_of_ble_eq_true rfl) dX12_readNeed_189
                · skip
                  have ha_220 : v_200.toInt ≤ r_202.toInt := ha_220
                  have ha_221 : r_202.toInt ≤ (9999 : Int32).toInt := ha_221
                  rw [show (9999 : Int32).toInt = 9999 from by decide +kernel] at ha_221
                  have ha_222 : nfrom_180.toInt + 1 ≤ nfrom_205.toInt := ha_222
                  refine x_iastG (pc := 165) (f := g_171) (wf := fun g => (MW cI cJ M mr (upd (upd (upd (upd (upd (upd mi 22 nspot_204) 23 nfrom_205) 24 ntoken_206) 25 nvalue_207) 38 nreadFault_208) 39 nreadPlace_209) (va_up mf 45 g) mg)) E hw210 22 rfl (inbE (a := v_198.toInt) rfl (by omega)) (fun _ => rfl) dX12_readNeed_165 (fun g_228 H locs eg_228 hw229 => ?_)
                  refine lv_aload_n (pc := 166) E.1 E.2.1 dX12_readNeed_166 rfl (lv_at hl3 0 rfl) ?_
                  refine x_get (pc := 167) (T := TX12) (N := 70) (ci := 12) (v := .ref (mr 45)) E hw229 inX12 0 45 q_1444 rfl rfl (by decide) rfl rfl dX12_readNeed_167 ?_
                  refine lv_iload_n (pc := 170) E.1 E.2.1 dX12_readNeed_170 rfl (lv_at hl3 1 rfl) ?_
                  refine lv_iconst (pc := 171) (v := 3) E.1 E.2.1 dX12_readNeed_171 (by decide +kernel) ?_
                  refine lv_iadd (pc := 172) E.1 E.2.1 dX12_readNeed_172 ?_
                  refine lv_topi (fun v_230 ev_230 => ?_)
                  have hv_230 : v_230.toInt = z_at.toInt + 3 := by rw [ev_230]; exact addE rfl (by decide +kernel) (by omega)
                  refine x_iald (pc := 173) (f := g_228) E hw229 22 rfl (inbE (a := v_230.toInt) rfl (by omega)) dX12_readNeed_173 ?_
                  refine lv_topi (fun v_231 ev_231 => ?_)
                  have hsv_231 : v_231.toInt = r_202.toInt := by rw [ev_231, eg_228, show v_230.toNatClampNeg = v_198.toNatClampNeg from (by have q_0 := idxI (x := v_230) (by omega); have q_1 := idxI (x := v_198) (by omega); omega), pk_us]
                  refine lv_iconst (pc := 174) (v := (-1)) E.1 E.2.1 dX12_readNeed_174 (by decide +kernel) ?_
                  refine lv_icmp_eq (pc := 175) (tgt := 188) E.1 E.2.1 dX12_readNeed_175 (by decide) (fun c_232 => absurd c_232 (mneE (a := v_231.toInt) (b := (-1)) rfl (by decide +kernel) (by omega))) (fun _ => ?_)
                  refine lv_aload_n (pc := 178) E.1 E.2.1 dX12_readNeed_178 rfl (lv_at hl3 0 rfl) ?_
                  refine lv_bipush (pc := 179) (v := 27) E.1 E.2.1 dX12_readNeed_179 (by decide +kernel) ?_
                  refine cm_i (pc := 181) hw229 (rn_M (As := [.int 27]) (rest := []) E hw229 (s_readWordT l D cI cJ _ M mr (upd (upd (upd (upd (upd (upd mi 22 nspot_204) 23 nfrom_205) 24 ntoken_206) 25 nvalue_207) 38 nreadFault_208) 39 nreadPlace_209) (va_up mf 45 g_228) mg 27 hp_211 hp_212 hp_213 h3 hp_214 hp_215 hp_216 h7 a_tape (show (∀ j : Nat, j < 154 → (mf 26) j = w0 j) from lf_words) (show AGN ntoken_206.toInt nvalue_207.toInt nfrom_205.toInt nspot_204.toInt from hp_217)) (gdV q_1710 q_1712 q_63 q_162 q_1713) hdV_X12_readWord ⟨rfl, rfl⟩ ⟨(Nat.le_of_ble_eq_true rfl), (Nat.le_of_ble_eq_true rfl)⟩ ⟨(Nat.le_of_ble_eq_true rfl), (Nat.le_of_ble_eq_true rfl)⟩ 12 rfl rfl rfl rfl hl3.1 rfl (Nat.le_of_ble_eq_true rfl) dX12_readNeed_181) (fun r_234 u_233 H1 locs hp hw235 => ?_)
                  obtain ⟨nspot_236, nfrom_237, ntoken_238, nvalue_239, nreadFault_240, nreadPlace_241⟩ := u_233
                  generalize H1 = H at hw235 ⊢
                  have hw242 : WD D A s.heap (MW cI cJ M mr (upd (upd (upd (upd (upd (upd mi 22 nspot_236) 23 nfrom_237) 24 ntoken_238) 25 nvalue_239) 38 nreadFault_240) 39 nreadPlace_241) (va_up mf 45 g_228) mg) H locs := hw235
                  obtain ⟨hp_243, hp_244, hp_245, hp_246, hp_247, hp_248, hp_249, hp_250, hp_251⟩ := hp
                  have hp_243 : 0 ≤ nfrom_237.toInt := hp_243
                  have hp_244 : nfrom_237.toInt ≤ nspot_236.toInt := hp_244
                  have hp_245 : nspot_236.toInt ≤ (mi 21).toInt := hp_245
                  have hp_246 : 0 ≤ ntoken_238.toInt := hp_246
                  have hp_247 : ntoken_238.toInt ≤ 4 := hp_247
                  have hp_248 : ntoken_238.toInt ≤ 4 * nspot_236.toInt - 4 * nfrom_237.toInt := hp_248
                  have hp_249 : AGN ntoken_238.toInt nvalue_239.toInt nfrom_237.toInt nspot_236.toInt := hp_249
                  have hp_250 : (∀ p : Int, TKR (mf 20) (mi 21).toInt p nfrom_205.toInt nspot_204.toInt ntoken_206.toInt nvalue_207.toInt → RX (mf 20) (mi 21).toInt (wordR (mf 20) (mi 21).toInt ((27 : Int32) : Int32).toInt p) (r_234 : Int32).toInt nreadFault_240.toInt nreadPlace_241.toInt nfrom_237.toInt nspot_236.toInt ntoken_238.toInt nvalue_239.toInt) := hp_250
                  rcases hp_251 with rfl | ⟨rfl, ha_252⟩
                  · skip
                    refine lv_iconst (pc := 184) (v := (-1)) E.1 E.2.1 dX12_readNeed_184 (by decide +kernel) ?_
                    refine lv_icmp_ne (pc := 185) (tgt := 190) E.1 E.2.1 dX12_readNeed_185 (by decide) (fun c_253 => absurd (meqE (a := (-1)) (b := (-1)) (by decide +kernel) (by decide +kernel) (by omega)) c_253) (fun _ => ?_)
                    refine lv_iconst (pc := 188) (v := (-1)) E.1 E.2.1 dX12_readNeed_188 (by decide +kernel) ?_
                    exact em_i (w1 := (fun (u : Int32 × Int32 × Int32 × Int32 × Int32 × Int32 × (Nat → Int32)) => (MW cI cJ M mr (upd (upd (upd (upd (upd (upd mi 22 u.1) 23 u.2.1) 24 u.2.2.1) 25 u.2.2.2.1) 38 u.2.2.2.2.1) 39 u.2.2.2.2.2.1) (va_up mf 45 u.2.2.2.2.2.2) mg))) E hr hlk (nspot_236, nfrom_237, ntoken_238, nvalue_239, nreadFault_240, nreadPlace_241, g_228) hw242 ⟨hp_243, hp_244, hp_245, hp_246, hp_247, hp_248, hp_249, (show (∀ p : Int, TKR (mf 20) (mi 21).toInt p (mi 23).toInt (mi 22).toInt (mi 24).toInt (mi 25).toInt → RX (mf 20) (mi 21).toInt (needR (mf 20) (mi 21).toInt ((mi 6).toInt - 1) p) ((-1) : Int32).toInt nreadFault_240.toInt nreadPlace_241.toInt nfrom_237.toInt nspot_236.toInt ntoken_238.toInt nvalue_239.toInt) from (fun p hp => by have er := rng_ok (lo := 21) (hi := 24) hp (by omega) (by omega); have q0 := hp_82 _ hp_64; obtain ⟨y0, f0, t0⟩ := RX_get q0 (show (0 : Int32).toInt ≠ -1 from by decide +kernel); have q1 := hp_106 _ t0; rw [show v_88.toInt = (mi 6).toInt - 1 from by omega] at q1; obtain ⟨y1, f1, z1, t1⟩ := RN_get q1 (by omega); have q2 := hp_138 _ t1; obtain ⟨y2, f2, t2⟩ := RX_get q2 (show (0 : Int32).toInt ≠ -1 from by decide +kernel); have q3 := hp_161 _ t2; obtain ⟨y3, f3, z3, t3⟩ := RN_get q3 (by omega); have q4 := hp_193 _ t3; obtain ⟨y4, f4, t4⟩ := RX_get q4 (show (0 : Int32).toInt ≠ -1 from by decide +kernel); have q5 := hp_218 _ t4; rw [show v_200.toInt = y3.1 from by omega] at q5; obtain ⟨y5, f5, z5, t5⟩ := RN_get q5 (by omega); have q6 := hp_250 _ t5; obtain ⟨e6, f6, g6, i6⟩ := RX_err q6 (by decide +kernel); simp only [needR, er, f0, f1, f2, f3, f4, f5, f6]; exact ⟨(by decide +kernel), g6, i6⟩)), (Or.inl rfl)⟩ (Nat.le_of_ble_eq_true rfl) (Nat.le_of_ble_eq_true rfl) dX12_readNeed_189
                  · skip
                    have ha_252 : nfrom_205.toInt + 1 ≤ nfrom_237.toInt := ha_252
                    refine lv_iconst (pc := 184) (v := (-1)) E.1 E.2.1 dX12_readNeed_184 (by decide +kernel) ?_
                    refine lv_icmp_ne (pc := 185) (tgt := 190) E.1 E.2.1 dX12_readNeed_185 (by decide) (fun _ => ?_) (fun c_254 => absurd c_254 (mneE (a := 0) (b := (-1)) (by decide +kernel) (by decide +kernel) (by omega)))
                    refine lv_aload_n (pc := 190) E.1 E.2.1 dX12_readNeed_190 rfl (lv_at hl3 0 rfl) ?_
                    refine x_get (pc := 191) (T := TX12) (N := 70) (ci := 12) (v := .ref (mr 45)) E hw242 inX12 0 45 q_1444 rfl rfl (by decide) rfl rfl dX12_readNeed_191 ?_
                    refine lv_iload_n (pc := 194) E.1 E.2.1 dX12_readNeed_194 rfl (lv_at hl3 1 rfl) ?_
                    refine lv_iconst (pc := 195) (v := 4) E.1 E.2.1 dX12_readNeed_195 (by decide +kernel) ?_
                    refine lv_iadd (pc := 196) E.1 E.2.1 dX12_readNeed_196 ?_
                    refine lv_topi (fun v_255 ev_255 => ?_)
                    have hv_255 : v_255.toInt = z_at.toInt + 4 := by rw [ev_255]; exact addE rfl (by decide +kernel) (by omega)
                    refine lv_aload_n (pc := 197) E.1 E.2.1 dX12_readNeed_197 rfl (lv_at hl3 0 rfl) ?_
                    refine lv_iconst (pc := 198) (v := 1) E.1 E.2.1 dX12_readNeed_198 (by decide +kernel) ?_
                    refine lv_bipush (pc := 199) (v := 99) E.1 E.2.1 dX12_readNeed_199 (by decide +kernel) ?_
                    refine cm_i (pc := 201) hw242 (rn_M (As := [.int 1, .int 99]) (rest := [.int v_255, .ref (mr 45)]) E hw242 (s_readNumberT l D cI cJ _ M mr (upd (upd (upd (upd (upd (upd mi 22 nspot_236) 23 nfrom_237) 24 ntoken_238) 25 nvalue_239) 38 nreadFault_240) 39 nreadPlace_241) (va_up mf 45 g_228) mg 1 99 hp_243 hp_244 hp_245 h3 hp_246 hp_247 hp_248 h7 a_tape (show (∀ j : Nat, j < 154 → (mf 26) j = w0 j) from lf_words) (show AGN ntoken_238.toInt nvalue_239.toInt nfrom_237.toInt nspot_236.toInt from hp_249)) (gdV q_1706 q_1708 q_62 q_162 q_1709) hdV_X12_readNumber ⟨rfl, rfl⟩ ⟨(Nat.le_of_ble_eq_true rfl), (Nat.le_of_ble_eq_true rfl)⟩ ⟨(Nat.le_of_ble_eq_true rfl), (Nat.le_of_ble_eq_true rfl)⟩ 12 rfl rfl rfl rfl hl3.1 rfl (Nat.le_of_ble_eq_true rfl) dX12_readNeed_201) (fun r_257 u_256 H1 locs hp hw258 => ?_)
                    obtain ⟨nspot_259, nfrom_260, ntoken_261, nvalue_262, nreadFault_263, nreadPlace_264⟩ := u_256
                    generalize H1 = H at hw258 ⊢
                    have hw265 : WD D A s.heap (MW cI cJ M mr (upd (upd (upd (upd (upd (upd mi 22 nspot_259) 23 nfrom_260) 24 ntoken_261) 25 nvalue_262) 38 nreadFault_263) 39 nreadPlace_264) (va_up mf 45 g_228) mg) H locs := hw258
                    obtain ⟨hp_266, hp_267, hp_268, hp_269, hp_270, hp_271, hp_272, hp_273, hp_274⟩ := hp
                    have hp_266 : 0 ≤ nfrom_260.toInt := hp_266
                    have hp_267 : nfrom_260.toInt ≤ nspot_259.toInt := hp_267
                    have hp_268 : nspot_259.toInt ≤ (mi 21).toInt := hp_268
                    have hp_269 : 0 ≤ ntoken_261.toInt := hp_269
                    have hp_270 : ntoken_261.toInt ≤ 4 := hp_270
                    have hp_271 : ntoken_261.toInt ≤ 4 * nspot_259.toInt - 4 * nfrom_260.toInt := hp_271
                    have hp_272 : AGN ntoken_261.toInt nvalue_262.toInt nfrom_260.toInt nspot_259.toInt := hp_272
                    have hp_273 : (∀ p : Int, TKR (mf 20) (mi 21).toInt p nfrom_237.toInt nspot_236.toInt ntoken_238.toInt nvalue_239.toInt → RN (mf 20) (mi 21).toInt (numR (mf 20) (mi 21).toInt ((1 : Int32) : Int32).toInt ((99 : Int32) : Int32).toInt p) (r_257 : Int32).toInt nreadFault_263.toInt nreadPlace_264.toInt nfrom_260.toInt nspot_259.toInt ntoken_261.toInt nvalue_262.toInt) := hp_273
                    rcases hp_274 with rfl | ⟨ha_275, ha_276, ha_277⟩
                    · skip
                      refine x_iastG (pc := 204) (f := g_228) (wf := fun g => (MW cI cJ M mr (upd (upd (upd (upd (upd (upd mi 22 nspot_259) 23 nfrom_260) 24 ntoken_261) 25 nvalue_262) 38 nreadFault_263) 39 nreadPlace_264) (va_up mf 45 g) mg)) E hw265 22 rfl (inbE (a := v_255.toInt) rfl (by omega)) (fun _ => rfl) dX12_readNeed_204 (fun g_278 H locs eg_278 hw279 => ?_)
                      refine lv_aload_n (pc := 205) E.1 E.2.1 dX12_readNeed_205 rfl (lv_at hl3 0 rfl) ?_
                      refine x_get (pc := 206) (T := TX12) (N := 70) (ci := 12) (v := .ref (mr 45)) E hw279 inX12 0 45 q_1444 rfl rfl (by decide) rfl rfl dX12_readNeed_206 ?_
                      refine lv_iload_n (pc := 209) E.1 E.2.1 dX12_readNeed_209 rfl (lv_at hl3 1 rfl) ?_
                      refine lv_iconst (pc := 210) (v := 4) E.1 E.2.1 dX12_readNeed_210 (by decide +kernel) ?_
                      refine lv_iadd (pc := 211) E.1 E.2.1 dX12_readNeed_211 ?_
                      refine lv_topi (fun v_280 ev_280 => ?_)
                      have hv_280 : v_280.toInt = z_at.toInt + 4 := by rw [ev_280]; exact addE rfl (by decide +kernel) (by omega)
                      refine x_iald (pc := 212) (f := g_278) E hw279 22 rfl (inbE (a := v_280.toInt) rfl (by omega)) dX12_readNeed_212 ?_
                      refine lv_topi (fun v_281 ev_281 => ?_)
                      have hsv_281 : v_281.toInt = ((-1) : Int32).toInt := by rw [ev_281, eg_278, show v_280.toNatClampNeg = v_255.toNatClampNeg from (by have q_0 := idxI (x := v_280) (by omega); have q_1 := idxI (x := v_255) (by omega); omega), pk_us]
                      rw [show ((-1) : Int32).toInt = -1 from by decide +kernel] at hsv_281
                      refine lv_iconst (pc := 213) (v := (-1)) E.1 E.2.1 dX12_readNeed_213 (by decide +kernel) ?_
                      refine lv_icmp_ne (pc := 214) (tgt := 221) E.1 E.2.1 dX12_readNeed_214 (by decide) (fun c_282 => absurd (meqE (a := v_281.toInt) (b := (-1)) rfl (by decide +kernel) (by omega)) c_282) (fun _ => ?_)
                      refine lv_iconst (pc := 217) (v := (-1)) E.1 E.2.1 dX12_readNeed_217 (by decide +kernel) ?_
                      refine lv_goto (pc := 218) (tgt := 227) E.1 E.2.1 dX12_readNeed_218 (by decide) ?_
                      exact em_i (w1 := (fun (u : Int32 × Int32 × Int32 × Int32 × Int32 × Int32 × (Nat → Int32)) => (MW cI cJ M mr (upd (upd (upd (upd (upd (upd mi 22 u.1) 23 u.2.1) 24 u.2.2.1) 25 u.2.2.2.1) 38 u.2.2.2.2.1) 39 u.2.2.2.2.2.1) (va_up mf 45 u.2.2.2.2.2.2) mg))) E hr hlk (nspot_259, nfrom_260, ntoken_261, nvalue_262, nreadFault_263, nreadPlace_264, g_278) hw279 ⟨hp_266, hp_267, hp_268, hp_269, hp_270, hp_271, hp_272, (show (∀ p : Int, TKR (mf 20) (mi 21).toInt p (mi 23).toInt (mi 22).toInt (mi 24).toInt (mi 25).toInt → RX (mf 20) (mi 21).toInt (needR (mf 20) (mi 21).toInt ((mi 6).toInt - 1) p) ((-1) : Int32).toInt nreadFault_263.toInt nreadPlace_264.toInt nfrom_260.toInt nspot_259.toInt ntoken_261.toInt nvalue_262.toInt) from (fun p hp => by have er := rng_ok (lo := 21) (hi := 24) hp (by omega) (by omega); have q0 := hp_82 _ hp_64; obtain ⟨y0, f0, t0⟩ := RX_get q0 (show (0 : Int32).toInt ≠ -1 from by decide +kernel); have q1 := hp_106 _ t0; rw [show v_88.toInt = (mi 6).toInt - 1 from by omega] at q1; obtain ⟨y1, f1, z1, t1⟩ := RN_get q1 (by omega); have q2 := hp_138 _ t1; obtain ⟨y2, f2, t2⟩ := RX_get q2 (show (0 : Int32).toInt ≠ -1 from by decide +kernel); have q3 := hp_161 _ t2; obtain ⟨y3, f3, z3, t3⟩ := RN_get q3 (by omega); have q4 := hp_193 _ t3; obtain ⟨y4, f4, t4⟩ := RX_get q4 (show (0 : Int32).toInt ≠ -1 from by decide +kernel); have q5 := hp_218 _ t4; rw [show v_200.toInt = y3.1 from by omega] at q5; obtain ⟨y5, f5, z5, t5⟩ := RN_get q5 (by omega); have q6 := hp_250 _ t5; obtain ⟨y6, f6, t6⟩ := RX_get q6 (show (0 : Int32).toInt ≠ -1 from by decide +kernel); have q7 := hp_273 _ t6; obtain ⟨e7, f7, g7, i7⟩ := RN_err q7 (by decide +kernel) (by decide +kernel); simp only [needR, er, f0, f1, f2, f3, f4, f5, f6, f7]; exact ⟨(by decide +kernel), g7, i7⟩)), (Or.inl rfl)⟩ (Nat.le_of_ble_eq_true rfl) (Nat.le_of_ble_eq_true rfl) dX12_readNeed_227
                    · skip
                      have ha_275 : (1 : Int32).toInt ≤ r_257.toInt := ha_275
                      rw [show (1 : Int32).toInt = 1 from by decide +kernel] at ha_275
                      have ha_276 : r_257.toInt ≤ (99 : Int32).toInt := ha_276
                      rw [show (99 : Int32).toInt = 99 from by decide +kernel] at ha_276
                      have ha_277 : nfrom_237.toInt + 1 ≤ nfrom_260.toInt := ha_277
                      refine x_iastG (pc := 204) (f := g_228) (wf := fun g => (MW cI cJ M mr (upd (upd (upd (upd (upd (upd mi 22 nspot_259) 23 nfrom_260) 24 ntoken_261) 25 nvalue_262) 38 nreadFault_263) 39 nreadPlace_264) (va_up mf 45 g) mg)) E hw265 22 rfl (inbE (a := v_255.toInt) rfl (by omega)) (fun _ => rfl) dX12_readNeed_204 (fun g_283 H locs eg_283 hw284 => ?_)
                      refine lv_aload_n (pc := 205) E.1 E.2.1 dX12_readNeed_205 rfl (lv_at hl3 0 rfl) ?_
                      refine x_get (pc := 206) (T := TX12) (N := 70) (ci := 12) (v := .ref (mr 45)) E hw284 inX12 0 45 q_1444 rfl rfl (by decide) rfl rfl dX12_readNeed_206 ?_
                      refine lv_iload_n (pc := 209) E.1 E.2.1 dX12_readNeed_209 rfl (lv_at hl3 1 rfl) ?_
                      refine lv_iconst (pc := 210) (v := 4) E.1 E.2.1 dX12_readNeed_210 (by decide +kernel) ?_
                      refine lv_iadd (pc := 211) E.1 E.2.1 dX12_readNeed_211 ?_
                      refine lv_topi (fun v_285 ev_285 => ?_)
                      have hv_285 : v_285.toInt = z_at.toInt + 4 := by rw [ev_285]; exact addE rfl (by decide +kernel) (by omega)
                      refine x_iald (pc := 212) (f := g_283) E hw284 22 rfl (inbE (a := v_285.toInt) rfl (by omega)) dX12_readNeed_212 ?_
                      refine lv_topi (fun v_286 ev_286 => ?_)
                      have hsv_286 : v_286.toInt = r_257.toInt := by rw [ev_286, eg_283, show v_285.toNatClampNeg = v_255.toNatClampNeg from (by have q_0 := idxI (x := v_285) (by omega); have q_1 := idxI (x := v_255) (by omega); omega), pk_us]
                      refine lv_iconst (pc := 213) (v := (-1)) E.1 E.2.1 dX12_readNeed_213 (by decide +kernel) ?_
                      refine lv_icmp_ne (pc := 214) (tgt := 221) E.1 E.2.1 dX12_readNeed_214 (by decide) (fun _ => ?_) (fun c_287 => absurd c_287 (mneE (a := v_286.toInt) (b := (-1)) rfl (by decide +kernel) (by omega)))
                      refine lv_aload_n (pc := 221) E.1 E.2.1 dX12_readNeed_221 rfl (lv_at hl3 0 rfl) ?_
                      refine lv_bipush (pc := 222) (v := 59) E.1 E.2.1 dX12_readNeed_222 (by decide +kernel) ?_
                      refine cm_i (pc := 224) hw284 (rn_M (As := [.int 59]) (rest := []) E hw284 (s_readMarkT l D cI cJ _ M mr (upd (upd (upd (upd (upd (upd mi 22 nspot_259) 23 nfrom_260) 24 ntoken_261) 25 nvalue_262) 38 nreadFault_263) 39 nreadPlace_264) (va_up mf 45 g_283) mg 59 hp_266 hp_267 hp_268 h3 hp_269 hp_270 hp_271 h7 a_tape (show (∀ j : Nat, j < 154 → (mf 26) j = w0 j) from lf_words) (show AGN ntoken_261.toInt nvalue_262.toInt nfrom_260.toInt nspot_259.toInt from hp_272)) (gdV q_1714 q_1716 q_64 q_162 q_1717) hdV_X12_readMark ⟨rfl, rfl⟩ ⟨(Nat.le_of_ble_eq_true rfl), (Nat.le_of_ble_eq_true rfl)⟩ ⟨(Nat.le_of_ble_eq_true rfl), (Nat.le_of_ble_eq_true rfl)⟩ 12 rfl rfl rfl rfl hl3.1 rfl (Nat.le_of_ble_eq_true rfl) dX12_readNeed_224) (fun r_289 u_288 H1 locs hp hw290 => ?_)
                      obtain ⟨nspot_291, nfrom_292, ntoken_293, nvalue_294, nreadFault_295, nreadPlace_296⟩ := u_288
                      generalize H1 = H at hw290 ⊢
                      have hw297 : WD D A s.heap (MW cI cJ M mr (upd (upd (upd (upd (upd (upd mi 22 nspot_291) 23 nfrom_292) 24 ntoken_293) 25 nvalue_294) 38 nreadFault_295) 39 nreadPlace_296) (va_up mf 45 g_283) mg) H locs := hw290
                      obtain ⟨hp_298, hp_299, hp_300, hp_301, hp_302, hp_303, hp_304, hp_305, hp_306⟩ := hp
                      have hp_298 : 0 ≤ nfrom_292.toInt := hp_298
                      have hp_299 : nfrom_292.toInt ≤ nspot_291.toInt := hp_299
                      have hp_300 : nspot_291.toInt ≤ (mi 21).toInt := hp_300
                      have hp_301 : 0 ≤ ntoken_293.toInt := hp_301
                      have hp_302 : ntoken_293.toInt ≤ 4 := hp_302
                      have hp_303 : ntoken_293.toInt ≤ 4 * nspot_291.toInt - 4 * nfrom_292.toInt := hp_303
                      have hp_304 : AGN ntoken_293.toInt nvalue_294.toInt nfrom_292.toInt nspot_291.toInt := hp_304
                      have hp_305 : (∀ p : Int, TKR (mf 20) (mi 21).toInt p nfrom_260.toInt nspot_259.toInt ntoken_261.toInt nvalue_262.toInt → RX (mf 20) (mi 21).toInt (markR (mf 20) (mi 21).toInt ((59 : Int32) : Int32).toInt p) (r_289 : Int32).toInt nreadFault_295.toInt nreadPlace_296.toInt nfrom_292.toInt nspot_291.toInt ntoken_293.toInt nvalue_294.toInt) := hp_305
                      rcases hp_306 with rfl | ⟨rfl, ha_307⟩
                      · skip
                        exact em_i (w1 := (fun (u : Int32 × Int32 × Int32 × Int32 × Int32 × Int32 × (Nat → Int32)) => (MW cI cJ M mr (upd (upd (upd (upd (upd (upd mi 22 u.1) 23 u.2.1) 24 u.2.2.1) 25 u.2.2.2.1) 38 u.2.2.2.2.1) 39 u.2.2.2.2.2.1) (va_up mf 45 u.2.2.2.2.2.2) mg))) E hr hlk (nspot_291, nfrom_292, ntoken_293, nvalue_294, nreadFault_295, nreadPlace_296, g_283) hw297 ⟨hp_298, hp_299, hp_300, hp_301, hp_302, hp_303, hp_304, (show (∀ p : Int, TKR (mf 20) (mi 21).toInt p (mi 23).toInt (mi 22).toInt (mi 24).toInt (mi 25).toInt → RX (mf 20) (mi 21).toInt (needR (mf 20) (mi 21).toInt ((mi 6).toInt - 1) p) ((-1) : Int32).toInt nreadFault_295.toInt nreadPlace_296.toInt nfrom_292.toInt nspot_291.toInt ntoken_293.toInt nvalue_294.toInt) from (fun p hp => by have er := rng_ok (lo := 21) (hi := 24) hp (by omega) (by omega); have q0 := hp_82 _ hp_64; obtain ⟨y0, f0, t0⟩ := RX_get q0 (show (0 : Int32).toInt ≠ -1 from by decide +kernel); have q1 := hp_106 _ t0; rw [show v_88.toInt = (mi 6).toInt - 1 from by omega] at q1; obtain ⟨y1, f1, z1, t1⟩ := RN_get q1 (by omega); have q2 := hp_138 _ t1; obtain ⟨y2, f2, t2⟩ := RX_get q2 (show (0 : Int32).toInt ≠ -1 from by decide +kernel); have q3 := hp_161 _ t2; obtain ⟨y3, f3, z3, t3⟩ := RN_get q3 (by omega); have q4 := hp_193 _ t3; obtain ⟨y4, f4, t4⟩ := RX_get q4 (show (0 : Int32).toInt ≠ -1 from by decide +kernel); have q5 := hp_218 _ t4; rw [show v_200.toInt = y3.1 from by omega] at q5; obtain ⟨y5, f5, z5, t5⟩ := RN_get q5 (by omega); have q6 := hp_250 _ t5; obtain ⟨y6, f6, t6⟩ := RX_get q6 (show (0 : Int32).toInt ≠ -1 from by decide +kernel); have q7 := hp_273 _ t6; obtain ⟨y7, f7, z7, t7⟩ := RN_get q7 (by omega); have q8 := hp_305 _ t7; simp only [needR, er, f0, f1, f2, f3, f4, f5, f6, f7]; exact q8)), (Or.inl rfl)⟩ (Nat.le_of_ble_eq_true rfl) (Nat.le_of_ble_eq_true rfl) dX12_readNeed_227
                      · skip
                        have ha_307 : nfrom_260.toInt + 1 ≤ nfrom_292.toInt := ha_307
                        exact em_i (w1 := (fun (u : Int32 × Int32 × Int32 × Int32 × Int32 × Int32 × (Nat → Int32)) => (MW cI cJ M mr (upd (upd (upd (upd (upd (upd mi 22 u.1) 23 u.2.1) 24 u.2.2.1) 25 u.2.2.2.1) 38 u.2.2.2.2.1) 39 u.2.2.2.2.2.1) (va_up mf 45 u.2.2.2.2.2.2) mg))) E hr hlk (nspot_291, nfrom_292, ntoken_293, nvalue_294, nreadFault_295, nreadPlace_296, g_283) hw297 ⟨hp_298, hp_299, hp_300, hp_301, hp_302, hp_303, hp_304, (show (∀ p : Int, TKR (mf 20) (mi 21).toInt p (mi 23).toInt (mi 22).toInt (mi 24).toInt (mi 25).toInt → RX (mf 20) (mi 21).toInt (needR (mf 20) (mi 21).toInt ((mi 6).toInt - 1) p) (0 : Int32).toInt nreadFault_295.toInt nreadPlace_296.toInt nfrom_292.toInt nspot_291.toInt ntoken_293.toInt nvalue_294.toInt) from (fun p hp => by have er := rng_ok (lo := 21) (hi := 24) hp (by omega) (by omega); have q0 := hp_82 _ hp_64; obtain ⟨y0, f0, t0⟩ := RX_get q0 (show (0 : Int32).toInt ≠ -1 from by decide +kernel); have q1 := hp_106 _ t0; rw [show v_88.toInt = (mi 6).toInt - 1 from by omega] at q1; obtain ⟨y1, f1, z1, t1⟩ := RN_get q1 (by omega); have q2 := hp_138 _ t1; obtain ⟨y2, f2, t2⟩ := RX_get q2 (show (0 : Int32).toInt ≠ -1 from by decide +kernel); have q3 := hp_161 _ t2; obtain ⟨y3, f3, z3, t3⟩ := RN_get q3 (by omega); have q4 := hp_193 _ t3; obtain ⟨y4, f4, t4⟩ := RX_get q4 (show (0 : Int32).toInt ≠ -1 from by decide +kernel); have q5 := hp_218 _ t4; rw [show v_200.toInt = y3.1 from by omega] at q5; obtain ⟨y5, f5, z5, t5⟩ := RN_get q5 (by omega); have q6 := hp_250 _ t5; obtain ⟨y6, f6, t6⟩ := RX_get q6 (show (0 : Int32).toInt ≠ -1 from by decide +kernel); have q7 := hp_273 _ t6; obtain ⟨y7, f7, z7, t7⟩ := RN_get q7 (by omega); have q8 := hp_305 _ t7; simp only [needR, er, f0, f1, f2, f3, f4, f5, f6, f7]; exact q8)), (Or.inr (rfl))⟩ (Nat.le_of_ble_eq_true rfl) (Nat.le_of_ble_eq_true rfl) dX12_readNeed_227
