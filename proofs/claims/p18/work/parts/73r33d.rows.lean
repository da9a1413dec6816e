theorem tcEax73r33d_ {x y : Int32} (h : x.toInt = y.toInt) : x.toNatClampNeg = y.toNatClampNeg := by rw [Int32.toInt_inj.mp h]
theorem ax73r33d_0 {x0 : Int} (h0 : 50 ≤ x0 ∧ x0 ≤ 95) : -2147483648 ≤ x0 + 1 ∧ x0 + 1 ≤ 2147483647 := by omega
theorem ax73r33d_1 {x0 : Int} (h0 : 0 ≤ x0 ∧ x0 ≤ 10) : -2147483648 ≤ x0 - 1 ∧ x0 - 1 ≤ 2147483647 := by omega
theorem ax73r33d_2 {x0 x1 : Int} (h0 : x0 = x1 + 1) (h1 : 50 ≤ x1 ∧ x1 ≤ 95) : 0 ≤ x0 ∧ x0 < ((100 : Nat) : Int) := by omega
theorem ax73r33d_3 {x0 x1 x2 : Int} (h0 : x0 = x1 + 1) (h1 : x2 = x1 + 1) : x2 = x0 := by omega
theorem ax73r33d_4 {x0 : Int} (h0 : x0 = -1) : x0 = (-1) := by omega
theorem ax73r33d_5 {x0 x1 : Int} (h0 : x0 = x1) (h1 : 0 ≤ x1) : ¬ x0 = (-1) := by omega
theorem ax73r33d_6 {x0 : Int} (h0 : 50 ≤ x0 ∧ x0 ≤ 95) : -2147483648 ≤ x0 + 2 ∧ x0 + 2 ≤ 2147483647 := by omega
theorem ax73r33d_7 {x0 x1 : Int} (h0 : x0 = x1 + 2) (h1 : 50 ≤ x1 ∧ x1 ≤ 95) : 0 ≤ x0 ∧ x0 < ((100 : Nat) : Int) := by omega
theorem ax73r33d_8 {x0 x1 x2 : Int} (h0 : x0 = x1 + 2) (h1 : x2 = x1 + 2) : x2 = x0 := by omega
theorem ax73r33d_9 {x0 : Int} (h0 : 50 ≤ x0 ∧ x0 ≤ 95) : -2147483648 ≤ x0 + 3 ∧ x0 + 3 ≤ 2147483647 := by omega
theorem ax73r33d_10 {x0 x1 : Int} (h0 : x0 = x1 + 3) (h1 : 50 ≤ x1 ∧ x1 ≤ 95) : 0 ≤ x0 ∧ x0 < ((100 : Nat) : Int) := by omega
theorem ax73r33d_11 {x0 x1 x2 : Int} (h0 : x0 = x1 + 3) (h1 : x2 = x1 + 3) : x2 = x0 := by omega
theorem ax73r33d_12 {x0 : Int} (h0 : 50 ≤ x0 ∧ x0 ≤ 95) : -2147483648 ≤ x0 + 4 ∧ x0 + 4 ≤ 2147483647 := by omega
theorem ax73r33d_13 {x0 x1 : Int} (h0 : x0 = x1 + 4) (h1 : 50 ≤ x1 ∧ x1 ≤ 95) : 0 ≤ x0 ∧ x0 < ((100 : Nat) : Int) := by omega
theorem ax73r33d_14 {x0 x1 x2 : Int} (h0 : x0 = x1 + 4) (h1 : x2 = x1 + 4) : x2 = x0 := by omega
theorem ax73r33d_15 {x0 x1 : Int} (h0 : x0 = x1) (h1 : 1 ≤ x1) : ¬ x0 = (-1) := by omega
theorem ax73r33d_16 {x0 x1 : Int} (h0 : x0 ≤ x1) (h1 : 0 ≤ x0) : 0 ≤ x1 := by omega
theorem ax73r33d_17 {x0 : Int} (h0 : 0 ≤ x0) (h1 : x0 ≤ 10) : -2147483648 ≤ 5 * x0 ∧ 5 * x0 ≤ 2147483647 := by omega
theorem ax73r33d_18 {x0 x1 : Int} (h0 : x0 = 5 * x1) (h1 : 0 ≤ x1) (h2 : x1 ≤ 10) : -2147483648 ≤ 50 + x0 ∧ 50 + x0 ≤ 2147483647 := by omega
theorem ax73r33d_19 {x0 : Int} (h0 : 0 ≤ x0) (h1 : x0 ≤ 10) : -2147483648 ≤ x0 + 1 ∧ x0 + 1 ≤ 2147483647 := by omega
theorem ax73r33d_20 {x0 x1 : Int} (h0 : x0 = x1 + 1) (h1 : 0 ≤ x1) : 0 ≤ x0 := by omega
theorem ax73r33d_21 {x0 : Int} (h0 : 0 ≤ x0) : ¬ x0 = (-1) := by omega
theorem ax73r33d_22 {x0 x1 x2 x3 : Int} (h0 : 0 ≤ x0) (h1 : 3 * x0 ≤ x1) (h2 : x1 ≤ x2) (h3 : x2 ≤ x3) (h4 : x3 ≤ 400) : 0 ≤ x0 ∧ x0 ≤ 139 := by omega
theorem ax73r33d_23 {x0 x1 x2 x3 x4 x5 : Int} (h0 : x0 ≤ 4 * x1 - 4 * x2) (h1 : x3 + 1 ≤ x4) (h2 : x0 = 2) (h3 : x1 ≤ x5) (h4 : x5 + 1 ≤ x3) : x2 + 3 ≤ x4 := by omega
theorem ax73r33d_24 {x0 : Int} (h0 : 1 ≤ x0) : ¬ x0 = (-1) := by omega
set_option maxHeartbeats 4000000 in
set_option maxRecDepth 100000 in
theorem s_readNeed (l : Launch) (D : va_G) (cI cJ : ClassId) (sz M : Nat) (mr : Nat → Nat) (mi : Nat → Int32) (mf : Nat → Nat → Int32) (mg : Nat → Nat → Int64) (z_at : Int32) (h0 : 0 ≤ (mi 23).toInt) (h1 : (mi 23).toInt ≤ (mi 22).toInt) (h2 : (mi 22).toInt ≤ (mi 21).toInt) (h3 : (mi 21).toInt ≤ 400) (h4 : 0 ≤ (mi 24).toInt) (h5 : (mi 24).toInt ≤ 4) (h6 : (mi 24).toInt ≤ 4 * (mi 22).toInt - 4 * (mi 23).toInt) (h7 : ((mf 26) 153).toInt = 32) (h8 : 0 ≤ (mi 6).toInt ∧ (mi 6).toInt ≤ 10) (h9 : 50 ≤ z_at.toInt ∧ z_at.toInt ≤ 95) (lf_words : (∀ j : Nat, j < 154 → (mf 26) j = w0 j)) (lf_again : AGN ((mi 24).toInt) ((mi 25).toInt) ((mi 23).toInt) ((mi 22).toInt)) : Met l yX12_readNeed (Cond.code yX12_readNeed cX12_readNeed 2 (some .int) :: GW) ({ frames := 5, cells := 0, slots := 0, locals := 128 } : Room) (va_Pc [.ref M, .int z_at] (PW D cI cJ sz (MW cI cJ M mr mi mf mg) xT)) (va_Qi (fun (r : Int32) (u : Int32 × Int32 × Int32 × Int32 × Int32 × Int32 × (Nat → Int32)) => (0 ≤ u.2.1.toInt) ∧ (u.2.1.toInt ≤ u.1.toInt) ∧ (u.1.toInt ≤ (mi 21).toInt) ∧ (0 ≤ u.2.2.1.toInt) ∧ (u.2.2.1.toInt ≤ 4) ∧ (u.2.2.1.toInt ≤ 4 * u.1.toInt - 4 * u.2.1.toInt) ∧ (AGN u.2.2.1.toInt u.2.2.2.1.toInt u.2.1.toInt u.1.toInt) ∧ ((r = (-1)) ∨ (r = 0 ∧ (mi 23).toInt + 1 ≤ u.2.1.toInt))) (fun u => QW D cI cJ (va_A (MW cI cJ M mr mi mf mg) sz) ((fun (u : Int32 × Int32 × Int32 × Int32 × Int32 × Int32 × (Nat → Int32)) => (MW cI cJ M mr (upd (upd (upd (upd (upd (upd mi 22 u.1) 23 u.2.1) 24 u.2.2.1) 25 u.2.2.2.1) 38 u.2.2.2.2.1) 39 u.2.2.2.2.2.1) (va_up mf 45 u.2.2.2.2.2.2) mg)) u)) (va_A (MW cI cJ M mr mi mf mg) sz)) 0 0 (va_A (MW cI cJ M mr mi mf mg) sz) := by
  refine mk_met (y := yX12_readNeed) (bytes := cX12_readNeed) (maxL := 2) (avs := [.ref M, .int z_at]) (WS := (MW cI cJ M mr mi mf mg)) (Qf := fun A => va_Qi (fun (r : Int32) (u : Int32 × Int32 × Int32 × Int32 × Int32 × Int32 × (Nat → Int32)) => (0 ≤ u.2.1.toInt) ∧ (u.2.1.toInt ≤ u.1.toInt) ∧ (u.1.toInt ≤ (mi 21).toInt) ∧ (0 ≤ u.2.2.1.toInt) ∧ (u.2.2.1.toInt ≤ 4) ∧ (u.2.2.1.toInt ≤ 4 * u.1.toInt - 4 * u.2.1.toInt) ∧ (AGN u.2.2.1.toInt u.2.2.2.1.toInt u.2.1.toInt u.1.toInt) ∧ ((r = (-1)) ∨ (r = 0 ∧ (mi 23).toInt + 1 ≤ u.2.1.toInt))) (fun u => QW D cI cJ A ((fun (u : Int32 × Int32 × Int32 × Int32 × Int32 × Int32 × (Nat → Int32)) => (MW cI cJ M mr (upd (upd (upd (upd (upd (upd mi 22 u.1) 23 u.2.1) 24 u.2.2.1) 25 u.2.2.2.1) 38 u.2.2.2.2.1) 39 u.2.2.2.2.2.1) (va_up mf 45 u.2.2.2.2.2.2) mg)) u)) A) (by decide) (Nat.le_of_ble_eq_true rfl) ?_
  intro p e s m below meth c A ls E hr hlk hnm hX hw1 hl2
  have hl3 : lv_has ls 2 [(0, .ref M), (1, .int z_at)] := hl2
  refine lv_aload_n (pc := 0) E.1 E.2.1 dX12_readNeed_0 rfl (lv_at hl3 0 rfl) ?_
  refine x_get (pc := 1) (T := TX12) (N := 70) (ci := 12) (v := .int (mi 24)) E hw1 inX12 0 24 q_1423 rfl rfl (by decide) rfl rfl dX12_readNeed_1 ?_
  refine lv_iconst (pc := 4) (v := 2) E.1 E.2.1 dX12_readNeed_4 (by decide +kernel) ?_
  refine lv_icmp_ne (pc := 5) (tgt := 23) E.1 E.2.1 dX12_readNeed_5 (by decide) (fun c_4 => ?_) (fun c_4 => ?_)
  · skip
    have hc_4 := neE (a := (mi 24).toInt) (b := 2) rfl (by decide +kernel) c_4
    refine lv_aload_n (pc := 23) E.1 E.2.1 dX12_readNeed_23 rfl (lv_at hl3 0 rfl) ?_
    refine lv_iconst (pc := 24) (v := 1) E.1 E.2.1 dX12_readNeed_24 (by decide +kernel) ?_
    refine cm_i (pc := 25) hw1 (rn_M (As := [.int 1]) (rest := []) E hw1 (s_errs2 l D cI cJ _ M mr mi mf mg 1) (gdV q_1698 q_1700 q_60 q_162 q_1701) hdV_X12_errs ⟨rfl, rfl⟩ ⟨(Nat.le_of_ble_eq_true rfl), (Nat.le_of_ble_eq_true rfl)⟩ ⟨(Nat.le_of_ble_eq_true rfl), (Nat.le_of_ble_eq_true rfl)⟩ 12 rfl rfl rfl rfl hl3.1 rfl (Nat.le_of_ble_eq_true rfl) dX12_readNeed_25) (fun r_6 u_5 H1 locs hp hw7 => ?_)
    obtain ⟨nreadFault_8, nreadPlace_9⟩ := u_5
    generalize H1 = H at hw7 ⊢
    have hw10 : WD D A s.heap (MW cI cJ M mr (upd (upd mi 38 nreadFault_8) 39 nreadPlace_9) mf mg) H locs := hw7
    have hp_11 := hp
    rcases hp_11 with rfl
    · skip
      exact em_i (w1 := (fun (u : Int32 × Int32 × Int32 × Int32 × Int32 × Int32 × (Nat → Int32)) => (MW cI cJ M mr (upd (upd (upd (upd (upd (upd mi 22 u.1) 23 u.2.1) 24 u.2.2.1) 25 u.2.2.2.1) 38 u.2.2.2.2.1) 39 u.2.2.2.2.2.1) (va_up mf 45 u.2.2.2.2.2.2) mg))) E hr hlk ((mi 22), (mi 23), (mi 24), (mi 25), nreadFault_8, nreadPlace_9, (mf 45)) hw10 ⟨h0, h1, h2, h4, h5, h6, lf_again, (Or.inl rfl)⟩ (Nat.le_of_ble_eq_true rfl) (Nat.le_of_ble_eq_true rfl) dX12_readNeed_28
  · skip
    have hc_4 := eqE (a := (mi 24).toInt) (b := 2) rfl (by decide +kernel) c_4
    refine lv_aload_n (pc := 8) E.1 E.2.1 dX12_readNeed_8 rfl (lv_at hl3 0 rfl) ?_
    refine lv_aload_n (pc := 9) E.1 E.2.1 dX12_readNeed_9 rfl (lv_at hl3 0 rfl) ?_
    refine x_get (pc := 10) (T := TX12) (N := 70) (ci := 12) (v := .int (mi 25)) E hw1 inX12 0 25 q_1424 rfl rfl (by decide) rfl rfl dX12_readNeed_10 ?_
    refine lv_bipush (pc := 13) (v := 21) E.1 E.2.1 dX12_readNeed_13 (by decide +kernel) ?_
    refine lv_bipush (pc := 15) (v := 24) E.1 E.2.1 dX12_readNeed_15 (by decide +kernel) ?_
    refine cm_i (pc := 17) hw1 (rn_M (As := [.int (mi 25), .int 21, .int 24]) (rest := []) E hw1 (s_isIn l D cI cJ _ M mr mi mf mg (mi 25) 21 24) (gdV q_1622 q_1624 q_46 q_162 q_1625) hdV_X12_isIn ⟨rfl, rfl⟩ ⟨(Nat.le_of_ble_eq_true rfl), (Nat.le_of_ble_eq_true rfl)⟩ ⟨(Nat.le_of_ble_eq_true rfl), (Nat.le_of_ble_eq_true rfl)⟩ 12 rfl rfl rfl rfl hl3.1 rfl (Nat.le_of_ble_eq_true rfl) dX12_readNeed_17) (fun r_13 u_12 H1 locs hp hw14 => ?_)
    generalize H1 = H at hw14 ⊢
    have hw15 : WD D A s.heap (MW cI cJ M mr mi mf mg) H locs := hw14
    have hp_16 := hp
    rcases hp_16 with ⟨rfl, ha_17⟩ | ⟨rfl, ha_18⟩ | ⟨rfl, ha_19, ha_20⟩
    · skip
      have ha_17 : (mi 25).toInt < (21 : Int32).toInt := ha_17
      rw [show (21 : Int32).toInt = 21 from by decide +kernel] at ha_17
      refine lv_if_ne (pc := 20) (tgt := 29) E.1 E.2.1 dX12_readNeed_20 (by decide) (fun c_21 => absurd (meqE (a := 0) (b := 0) (by decide +kernel) (by decide +kernel) (by omega)) c_21) (fun _ => ?_)
      refine lv_aload_n (pc := 23) E.1 E.2.1 dX12_readNeed_23 rfl (lv_at hl3 0 rfl) ?_
      refine lv_iconst (pc := 24) (v := 1) E.1 E.2.1 dX12_readNeed_24 (by decide +kernel) ?_
      refine cm_i (pc := 25) hw15 (rn_M (As := [.int 1]) (rest := []) E hw15 (s_errs2 l D cI cJ _ M mr mi mf mg 1) (gdV q_1698 q_1700 q_60 q_162 q_1701) hdV_X12_errs ⟨rfl, rfl⟩ ⟨(Nat.le_of_ble_eq_true rfl), (Nat.le_of_ble_eq_true rfl)⟩ ⟨(Nat.le_of_ble_eq_true rfl), (Nat.le_of_ble_eq_true rfl)⟩ 12 rfl rfl rfl rfl hl3.1 rfl (Nat.le_of_ble_eq_true rfl) dX12_readNeed_25) (fun r_23 u_22 H1 locs hp hw24 => ?_)
      obtain ⟨nreadFault_25, nreadPlace_26⟩ := u_22
      generalize H1 = H at hw24 ⊢
      have hw27 : WD D A s.heap (MW cI cJ M mr (upd (upd mi 38 nreadFault_25) 39 nreadPlace_26) mf mg) H locs := hw24
      have hp_28 := hp
      rcases hp_28 with rfl
      · skip
        exact em_i (w1 := (fun (u : Int32 × Int32 × Int32 × Int32 × Int32 × Int32 × (Nat → Int32)) => (MW cI cJ M mr (upd (upd (upd (upd (upd (upd mi 22 u.1) 23 u.2.1) 24 u.2.2.1) 25 u.2.2.2.1) 38 u.2.2.2.2.1) 39 u.2.2.2.2.2.1) (va_up mf 45 u.2.2.2.2.2.2) mg))) E hr hlk ((mi 22), (mi 23), (mi 24), (mi 25), nreadFault_25, nreadPlace_26, (mf 45)) hw27 ⟨h0, h1, h2, h4, h5, h6, lf_again, (Or.inl rfl)⟩ (Nat.le_of_ble_eq_true rfl) (Nat.le_of_ble_eq_true rfl) dX12_readNeed_28
    · skip
      have ha_18 : (24 : Int32).toInt < (mi 25).toInt := ha_18
      rw [show (24 : Int32).toInt = 24 from by decide +kernel] at ha_18
      refine lv_if_ne (pc := 20) (tgt := 29) E.1 E.2.1 dX12_readNeed_20 (by decide) (fun c_29 => absurd (meqE (a := 0) (b := 0) (by decide +kernel) (by decide +kernel) (by omega)) c_29) (fun _ => ?_)
      refine lv_aload_n (pc := 23) E.1 E.2.1 dX12_readNeed_23 rfl (lv_at hl3 0 rfl) ?_
      refine lv_iconst (pc := 24) (v := 1) E.1 E.2.1 dX12_readNeed_24 (by decide +kernel) ?_
      refine cm_i (pc := 25) hw15 (rn_M (As := [.int 1]) (rest := []) E hw15 (s_errs2 l D cI cJ _ M mr mi mf mg 1) (gdV q_1698 q_1700 q_60 q_162 q_1701) hdV_X12_errs ⟨rfl, rfl⟩ ⟨(Nat.le_of_ble_eq_true rfl), (Nat.le_of_ble_eq_true rfl)⟩ ⟨(Nat.le_of_ble_eq_true rfl), (Nat.le_of_ble_eq_true rfl)⟩ 12 rfl rfl rfl rfl hl3.1 rfl (Nat.le_of_ble_eq_true rfl) dX12_readNeed_25) (fun r_31 u_30 H1 locs hp hw32 => ?_)
      obtain ⟨nreadFault_33, nreadPlace_34⟩ := u_30
      generalize H1 = H at hw32 ⊢
      have hw35 : WD D A s.heap (MW cI cJ M mr (upd (upd mi 38 nreadFault_33) 39 nreadPlace_34) mf mg) H locs := hw32
      have hp_36 := hp
      rcases hp_36 with rfl
      · skip
        exact em_i (w1 := (fun (u : Int32 × Int32 × Int32 × Int32 × Int32 × Int32 × (Nat → Int32)) => (MW cI cJ M mr (upd (upd (upd (upd (upd (upd mi 22 u.1) 23 u.2.1) 24 u.2.2.1) 25 u.2.2.2.1) 38 u.2.2.2.2.1) 39 u.2.2.2.2.2.1) (va_up mf 45 u.2.2.2.2.2.2) mg))) E hr hlk ((mi 22), (mi 23), (mi 24), (mi 25), nreadFault_33, nreadPlace_34, (mf 45)) hw35 ⟨h0, h1, h2, h4, h5, h6, lf_again, (Or.inl rfl)⟩ (Nat.le_of_ble_eq_true rfl) (Nat.le_of_ble_eq_true rfl) dX12_readNeed_28
    · skip
      have ha_19 : (21 : Int32).toInt ≤ (mi 25).toInt := ha_19
      rw [show (21 : Int32).toInt = 21 from by decide +kernel] at ha_19
      have ha_20 : (mi 25).toInt ≤ (24 : Int32).toInt := ha_20
      rw [show (24 : Int32).toInt = 24 from by decide +kernel] at ha_20
      refine lv_if_ne (pc := 20) (tgt := 29) E.1 E.2.1 dX12_readNeed_20 (by decide) (fun _ => ?_) (fun c_37 => absurd c_37 (mneE (a := 1) (b := 0) (by decide +kernel) (by decide +kernel) (by omega)))
      refine lv_aload_n (pc := 29) E.1 E.2.1 dX12_readNeed_29 rfl (lv_at hl3 0 rfl) ?_
      refine x_get (pc := 30) (T := TX12) (N := 70) (ci := 12) (v := .ref (mr 45)) E hw15 inX12 0 45 q_1444 rfl rfl (by decide) rfl rfl dX12_readNeed_30 ?_
      refine lv_iload_n (pc := 33) E.1 E.2.1 dX12_readNeed_33 rfl (lv_at hl3 1 rfl) ?_
      refine lv_iconst (pc := 34) (v := 0) E.1 E.2.1 dX12_readNeed_34 (by decide +kernel) ?_
      refine lv_iadd (pc := 35) E.1 E.2.1 dX12_readNeed_35 ?_
      refine lv_topi (fun v_38 ev_38 => ?_)
      have hv_38 : v_38.toInt = z_at.toInt + 0 := by rw [ev_38]; exact addE rfl (by decide +kernel) (by omega)
      refine lv_aload_n (pc := 36) E.1 E.2.1 dX12_readNeed_36 rfl (lv_at hl3 0 rfl) ?_
      refine x_get (pc := 37) (T := TX12) (N := 70) (ci := 12) (v := .int (mi 25)) E hw15 inX12 0 25 q_1424 rfl rfl (by decide) rfl rfl dX12_readNeed_37 ?_
      refine lv_bipush (pc := 40) (v := 21) E.1 E.2.1 dX12_readNeed_40 (by decide +kernel) ?_
      refine lv_isub (pc := 42) E.1 E.2.1 dX12_readNeed_42 ?_
      refine lv_topi (fun v_39 ev_39 => ?_)
      have hv_39 : v_39.toInt = (mi 25).toInt - 21 := by rw [ev_39]; exact subE rfl (by decide +kernel) (by omega)
      refine x_iastG (pc := 43) (f := (mf 45)) (wf := fun g => (MW cI cJ M mr mi (va_up mf 45 g) mg)) E hw15 22 rfl (inbE (a := v_38.toInt) rfl (by omega)) (fun _ => rfl) dX12_readNeed_43 (fun g_40 H locs eg_40 hw41 => ?_)
      refine lv_aload_n (pc := 44) E.1 E.2.1 dX12_readNeed_44 rfl (lv_at hl3 0 rfl) ?_
      refine cm_v (pc := 45) hw41 (rn_M (As := []) (rest := []) E hw41 (s_reads2 l D cI cJ _ M mr mi (va_up mf 45 g_40) mg (by show 0 ≤ (mi 22).toInt; omega) h2 h3 h7 (show (∀ j : Nat, j < 154 → (mf 26) j = w0 j) from lf_words)) (gdV q_1666 q_1668 q_52 q_162 q_1669) hdV_X12_reads ⟨rfl, rfl⟩ ⟨(Nat.le_of_ble_eq_true rfl), (Nat.le_of_ble_eq_true rfl)⟩ ⟨(Nat.le_of_ble_eq_true rfl), (Nat.le_of_ble_eq_true rfl)⟩ 12 rfl rfl rfl rfl hl3.1 rfl (Nat.le_of_ble_eq_true rfl) dX12_readNeed_45) (fun u_42 H1 locs hp hw44 => ?_)
      obtain ⟨nspot_45, nfrom_46, ntoken_47, nvalue_48⟩ := u_42
      generalize H1 = H at hw44 ⊢
      have hw49 : WD D A s.heap (MW cI cJ M mr (upd (upd (upd (upd mi 22 nspot_45) 23 nfrom_46) 24 ntoken_47) 25 nvalue_48) (va_up mf 45 g_40) mg) H locs := hw44
      obtain ⟨hp_50, hp_51, hp_52, hp_53, hp_54, hp_55, hp_56, hp_57⟩ := hp
      have hp_50 : 0 ≤ nfrom_46.toInt := hp_50
      have hp_51 : nfrom_46.toInt ≤ nspot_45.toInt := hp_51
      have hp_52 : nspot_45.toInt ≤ (mi 21).toInt := hp_52
      have hp_53 : 0 ≤ ntoken_47.toInt := hp_53
      have hp_54 : ntoken_47.toInt ≤ 4 := hp_54
      have hp_55 : ntoken_47.toInt ≤ 4 * nspot_45.toInt - 4 * nfrom_46.toInt := hp_55
      have hp_56 : (mi 22).toInt ≤ nfrom_46.toInt := hp_56
      have hp_57 : AGN ntoken_47.toInt nvalue_48.toInt nfrom_46.toInt nspot_45.toInt := hp_57
      refine lv_aload_n (pc := 48) E.1 E.2.1 dX12_readNeed_48 rfl (lv_at hl3 0 rfl) ?_
      refine lv_bipush (pc := 49) (v := 25) E.1 E.2.1 dX12_readNeed_49 (by decide +kernel) ?_
      refine cm_i (pc := 51) hw49 (rn_M (As := [.int 25]) (rest := []) E hw49 (s_readWord l D cI cJ _ M mr (upd (upd (upd (upd mi 22 nspot_45) 23 nfrom_46) 24 ntoken_47) 25 nvalue_48) (va_up mf 45 g_40) mg 25 hp_50 hp_51 hp_52 h3 hp_53 hp_54 hp_55 h7 (show (∀ j : Nat, j < 154 → (mf 26) j = w0 j) from lf_words) (show AGN ntoken_47.toInt nvalue_48.toInt nfrom_46.toInt nspot_45.toInt from hp_57)) (gdV q_1710 q_1712 q_63 q_162 q_1713) hdV_X12_readWord ⟨rfl, rfl⟩ ⟨(Nat.le_of_ble_eq_true rfl), (Nat.le_of_ble_eq_true rfl)⟩ ⟨(Nat.le_of_ble_eq_true rfl), (Nat.le_of_ble_eq_true rfl)⟩ 12 rfl rfl rfl rfl hl3.1 rfl (Nat.le_of_ble_eq_true rfl) dX12_readNeed_51) (fun r_59 u_58 H1 locs hp hw60 => ?_)
      obtain ⟨nspot_61, nfrom_62, ntoken_63, nvalue_64, nreadFault_65, nreadPlace_66⟩ := u_58
      generalize H1 = H at hw60 ⊢
      have hw67 : WD D A s.heap (MW cI cJ M mr (upd (upd (upd (upd (upd (upd mi 22 nspot_61) 23 nfrom_62) 24 ntoken_63) 25 nvalue_64) 38 nreadFault_65) 39 nreadPlace_66) (va_up mf 45 g_40) mg) H locs := hw60
      obtain ⟨hp_68, hp_69, hp_70, hp_71, hp_72, hp_73, hp_74, hp_75⟩ := hp
      have hp_68 : 0 ≤ nfrom_62.toInt := hp_68
      have hp_69 : nfrom_62.toInt ≤ nspot_61.toInt := hp_69
      have hp_70 : nspot_61.toInt ≤ (mi 21).toInt := hp_70
      have hp_71 : 0 ≤ ntoken_63.toInt := hp_71
      have hp_72 : ntoken_63.toInt ≤ 4 := hp_72
      have hp_73 : ntoken_63.toInt ≤ 4 * nspot_61.toInt - 4 * nfrom_62.toInt := hp_73
      have hp_74 : AGN ntoken_63.toInt nvalue_64.toInt nfrom_62.toInt nspot_61.toInt := hp_74
      rcases hp_75 with rfl | ⟨rfl, ha_76⟩
      · skip
        refine lv_iconst (pc := 54) (v := (-1)) E.1 E.2.1 dX12_readNeed_54 (by decide +kernel) ?_
        refine lv_icmp_ne (pc := 55) (tgt := 60) E.1 E.2.1 dX12_readNeed_55 (by decide) (fun c_77 => absurd (meqE (a := (-1)) (b := (-1)) (by decide +kernel) (by decide +kernel) (by decide +kernel)) c_77) (fun _ => ?_)
        refine lv_iconst (pc := 58) (v := (-1)) E.1 E.2.1 dX12_readNeed_58 (by decide +kernel) ?_
        exact em_i (w1 := (fun (u : Int32 × Int32 × Int32 × Int32 × Int32 × Int32 × (Nat → Int32)) => (MW cI cJ M mr (upd (upd (upd (upd (upd (upd mi 22 u.1) 23 u.2.1) 24 u.2.2.1) 25 u.2.2.2.1) 38 u.2.2.2.2.1) 39 u.2.2.2.2.2.1) (va_up mf 45 u.2.2.2.2.2.2) mg))) E hr hlk (nspot_61, nfrom_62, ntoken_63, nvalue_64, nreadFault_65, nreadPlace_66, g_40) hw67 ⟨hp_68, hp_69, hp_70, hp_71, hp_72, hp_73, hp_74, (Or.inl rfl)⟩ (Nat.le_of_ble_eq_true rfl) (Nat.le_of_ble_eq_true rfl) dX12_readNeed_59
      · skip
        have ha_76 : nfrom_46.toInt + 1 ≤ nfrom_62.toInt := ha_76
        refine lv_iconst (pc := 54) (v := (-1)) E.1 E.2.1 dX12_readNeed_54 (by decide +kernel) ?_
        refine lv_icmp_ne (pc := 55) (tgt := 60) E.1 E.2.1 dX12_readNeed_55 (by decide) (fun _ => ?_) (fun c_78 => absurd c_78 (mneE (a := 0) (b := (-1)) (by decide +kernel) (by decide +kernel) (by decide +kernel)))
        refine lv_aload_n (pc := 60) E.1 E.2.1 dX12_readNeed_60 rfl (lv_at hl3 0 rfl) ?_
        refine x_get (pc := 61) (T := TX12) (N := 70) (ci := 12) (v := .ref (mr 45)) E hw67 inX12 0 45 q_1444 rfl rfl (by decide) rfl rfl dX12_readNeed_61 ?_
        refine lv_iload_n (pc := 64) E.1 E.2.1 dX12_readNeed_64 rfl (lv_at hl3 1 rfl) ?_
        refine lv_iconst (pc := 65) (v := 1) E.1 E.2.1 dX12_readNeed_65 (by decide +kernel) ?_
        refine lv_iadd (pc := 66) E.1 E.2.1 dX12_readNeed_66 ?_
        refine lv_topi (fun v_79 ev_79 => ?_)
        have hv_79 : v_79.toInt = z_at.toInt + 1 := by rw [ev_79]; exact addE rfl (by decide +kernel) (ax73r33d_0 h9)
        refine lv_aload_n (pc := 67) E.1 E.2.1 dX12_readNeed_67 rfl (lv_at hl3 0 rfl) ?_
        refine lv_iconst (pc := 68) (v := 0) E.1 E.2.1 dX12_readNeed_68 (by decide +kernel) ?_
        refine lv_aload_n (pc := 69) E.1 E.2.1 dX12_readNeed_69 rfl (lv_at hl3 0 rfl) ?_
        refine x_get (pc := 70) (T := TX12) (N := 70) (ci := 12) (v := .int (mi 6)) E hw67 inX12 0 6 q_1405 rfl rfl (by decide) rfl rfl dX12_readNeed_70 ?_
        refine lv_iconst (pc := 73) (v := 1) E.1 E.2.1 dX12_readNeed_73 (by decide +kernel) ?_
        refine lv_isub (pc := 74) E.1 E.2.1 dX12_readNeed_74 ?_
        refine lv_topi (fun v_80 ev_80 => ?_)
        have hv_80 : v_80.toInt = (mi 6).toInt - 1 := by rw [ev_80]; exact subE rfl (by decide +kernel) (ax73r33d_1 h8)
        refine cm_i (pc := 75) hw67 (rn_M (As := [.int 0, .int v_80]) (rest := [.int v_79, .ref (mr 45)]) E hw67 (s_readNumber l D cI cJ _ M mr (upd (upd (upd (upd (upd (upd mi 22 nspot_61) 23 nfrom_62) 24 ntoken_63) 25 nvalue_64) 38 nreadFault_65) 39 nreadPlace_66) (va_up mf 45 g_40) mg 0 v_80 hp_68 hp_69 hp_70 h3 hp_71 hp_72 hp_73 h7 (show (∀ j : Nat, j < 154 → (mf 26) j = w0 j) from lf_words) (show AGN ntoken_63.toInt nvalue_64.toInt nfrom_62.toInt nspot_61.toInt from hp_74)) (gdV q_1706 q_1708 q_62 q_162 q_1709) hdV_X12_readNumber ⟨rfl, rfl⟩ ⟨(Nat.le_of_ble_eq_true rfl), (Nat.le_of_ble_eq_true rfl)⟩ ⟨(Nat.le_of_ble_eq_true rfl), (Nat.le_of_ble_eq_true rfl)⟩ 12 rfl rfl rfl rfl hl3.1 rfl (Nat.le_of_ble_eq_true rfl) dX12_readNeed_75) (fun r_82 u_81 H1 locs hp hw83 => ?_)
        obtain ⟨nspot_84, nfrom_85, ntoken_86, nvalue_87, nreadFault_88, nreadPlace_89⟩ := u_81
        generalize H1 = H at hw83 ⊢
        have hw90 : WD D A s.heap (MW cI cJ M mr (upd (upd (upd (upd (upd (upd mi 22 nspot_84) 23 nfrom_85) 24 ntoken_86) 25 nvalue_87) 38 nreadFault_88) 39 nreadPlace_89) (va_up mf 45 g_40) mg) H locs := hw83
        obtain ⟨hp_91, hp_92, hp_93, hp_94, hp_95, hp_96, hp_97, hp_98⟩ := hp
        have hp_91 : 0 ≤ nfrom_85.toInt := hp_91
        have hp_92 : nfrom_85.toInt ≤ nspot_84.toInt := hp_92
        have hp_93 : nspot_84.toInt ≤ (mi 21).toInt := hp_93
        have hp_94 : 0 ≤ ntoken_86.toInt := hp_94
        have hp_95 : ntoken_86.toInt ≤ 4 := hp_95
        have hp_96 : ntoken_86.toInt ≤ 4 * nspot_84.toInt - 4 * nfrom_85.toInt := hp_96
        have hp_97 : AGN ntoken_86.toInt nvalue_87.toInt nfrom_85.toInt nspot_84.toInt := hp_97
        rcases hp_98 with rfl | ⟨ha_99, ha_100, ha_101⟩
        · skip
          refine x_iastG (pc := 78) (f := g_40) (wf := fun g => (MW cI cJ M mr (upd (upd (upd (upd (upd (upd mi 22 nspot_84) 23 nfrom_85) 24 ntoken_86) 25 nvalue_87) 38 nreadFault_88) 39 nreadPlace_89) (va_up mf 45 g) mg)) E hw90 22 rfl (inbE (a := v_79.toInt) rfl (ax73r33d_2 hv_79 h9)) (fun _ => rfl) dX12_readNeed_78 (fun g_102 H locs eg_102 hw103 => ?_)
          refine lv_aload_n (pc := 79) E.1 E.2.1 dX12_readNeed_79 rfl (lv_at hl3 0 rfl) ?_
          refine x_get (pc := 80) (T := TX12) (N := 70) (ci := 12) (v := .ref (mr 45)) E hw103 inX12 0 45 q_1444 rfl rfl (by decide) rfl rfl dX12_readNeed_80 ?_
          refine lv_iload_n (pc := 83) E.1 E.2.1 dX12_readNeed_83 rfl (lv_at hl3 1 rfl) ?_
          refine lv_iconst (pc := 84) (v := 1) E.1 E.2.1 dX12_readNeed_84 (by decide +kernel) ?_
          refine lv_iadd (pc := 85) E.1 E.2.1 dX12_readNeed_85 ?_
          refine lv_topi (fun v_104 ev_104 => ?_)
          have hv_104 : v_104.toInt = z_at.toInt + 1 := by rw [ev_104]; exact addE rfl (by decide +kernel) (ax73r33d_0 h9)
          refine x_iald (pc := 86) (f := g_102) E hw103 22 rfl (inbE (a := v_104.toInt) rfl (ax73r33d_2 hv_104 h9)) dX12_readNeed_86 ?_
          refine lv_topi (fun v_105 ev_105 => ?_)
          have hsv_105 : v_105.toInt = ((-1) : Int32).toInt := by rw [ev_105, eg_102, show v_104.toNatClampNeg = v_79.toNatClampNeg from (tcEax73r33d_ (ax73r33d_3 hv_79 hv_104)), pk_us]
          rw [show ((-1) : Int32).toInt = -1 from by decide +kernel] at hsv_105
          refine lv_iconst (pc := 87) (v := (-1)) E.1 E.2.1 dX12_readNeed_87 (by decide +kernel) ?_
          refine lv_icmp_eq (pc := 88) (tgt := 101) E.1 E.2.1 dX12_readNeed_88 (by decide) (fun _ => ?_) (fun c_106 => absurd (meqE (a := v_105.toInt) (b := (-1)) rfl (by decide +kernel) (ax73r33d_4 hsv_105)) c_106)
          refine lv_iconst (pc := 101) (v := (-1)) E.1 E.2.1 dX12_readNeed_101 (by decide +kernel) ?_
          exact em_i (w1 := (fun (u : Int32 × Int32 × Int32 × Int32 × Int32 × Int32 × (Nat → Int32)) => (MW cI cJ M mr (upd (upd (upd (upd (upd (upd mi 22 u.1) 23 u.2.1) 24 u.2.2.1) 25 u.2.2.2.1) 38 u.2.2.2.2.1) 39 u.2.2.2.2.2.1) (va_up mf 45 u.2.2.2.2.2.2) mg))) E hr hlk (nspot_84, nfrom_85, ntoken_86, nvalue_87, nreadFault_88, nreadPlace_89, g_102) hw103 ⟨hp_91, hp_92, hp_93, hp_94, hp_95, hp_96, hp_97, (Or.inl rfl)⟩ (Nat.le_of_ble_eq_true rfl) (Nat.le_of_ble_eq_true rfl) dX12_readNeed_102
        · skip
          have ha_99 : (0 : Int32).toInt ≤ r_82.toInt := ha_99
          rw [show (0 : Int32).toInt = 0 from by decide +kernel] at ha_99
          have ha_100 : r_82.toInt ≤ v_80.toInt := ha_100
          have ha_101 : nfrom_62.toInt + 1 ≤ nfrom_85.toInt := ha_101
          refine x_iastG (pc := 78) (f := g_40) (wf := fun g => (MW cI cJ M mr (upd (upd (upd (upd (upd (upd mi 22 nspot_84) 23 nfrom_85) 24 ntoken_86) 25 nvalue_87) 38 nreadFault_88) 39 nreadPlace_89) (va_up mf 45 g) mg)) E hw90 22 rfl (inbE (a := v_79.toInt) rfl (ax73r33d_2 hv_79 h9)) (fun _ => rfl) dX12_readNeed_78 (fun g_107 H locs eg_107 hw108 => ?_)
          refine lv_aload_n (pc := 79) E.1 E.2.1 dX12_readNeed_79 rfl (lv_at hl3 0 rfl) ?_
          refine x_get (pc := 80) (T := TX12) (N := 70) (ci := 12) (v := .ref (mr 45)) E hw108 inX12 0 45 q_1444 rfl rfl (by decide) rfl rfl dX12_readNeed_80 ?_
          refine lv_iload_n (pc := 83) E.1 E.2.1 dX12_readNeed_83 rfl (lv_at hl3 1 rfl) ?_
          refine lv_iconst (pc := 84) (v := 1) E.1 E.2.1 dX12_readNeed_84 (by decide +kernel) ?_
          refine lv_iadd (pc := 85) E.1 E.2.1 dX12_readNeed_85 ?_
          refine lv_topi (fun v_109 ev_109 => ?_)
          have hv_109 : v_109.toInt = z_at.toInt + 1 := by rw [ev_109]; exact addE rfl (by decide +kernel) (ax73r33d_0 h9)
          refine x_iald (pc := 86) (f := g_107) E hw108 22 rfl (inbE (a := v_109.toInt) rfl (ax73r33d_2 hv_109 h9)) dX12_readNeed_86 ?_
          refine lv_topi (fun v_110 ev_110 => ?_)
          have hsv_110 : v_110.toInt = r_82.toInt := by rw [ev_110, eg_107, show v_109.toNatClampNeg = v_79.toNatClampNeg from (tcEax73r33d_ (ax73r33d_3 hv_79 hv_109)), pk_us]
          refine lv_iconst (pc := 87) (v := (-1)) E.1 E.2.1 dX12_readNeed_87 (by decide +kernel) ?_
          refine lv_icmp_eq (pc := 88) (tgt := 101) E.1 E.2.1 dX12_readNeed_88 (by decide) (fun c_111 => absurd c_111 (mneE (a := v_110.toInt) (b := (-1)) rfl (by decide +kernel) (ax73r33d_5 hsv_110 ha_99))) (fun _ => ?_)
          refine lv_aload_n (pc := 91) E.1 E.2.1 dX12_readNeed_91 rfl (lv_at hl3 0 rfl) ?_
          refine lv_bipush (pc := 92) (v := 26) E.1 E.2.1 dX12_readNeed_92 (by decide +kernel) ?_
          refine cm_i (pc := 94) hw108 (rn_M (As := [.int 26]) (rest := []) E hw108 (s_readWord l D cI cJ _ M mr (upd (upd (upd (upd (upd (upd mi 22 nspot_84) 23 nfrom_85) 24 ntoken_86) 25 nvalue_87) 38 nreadFault_88) 39 nreadPlace_89) (va_up mf 45 g_107) mg 26 hp_91 hp_92 hp_93 h3 hp_94 hp_95 hp_96 h7 (show (∀ j : Nat, j < 154 → (mf 26) j = w0 j) from lf_words) (show AGN ntoken_86.toInt nvalue_87.toInt nfrom_85.toInt nspot_84.toInt from hp_97)) (gdV q_1710 q_1712 q_63 q_162 q_1713) hdV_X12_readWord ⟨rfl, rfl⟩ ⟨(Nat.le_of_ble_eq_true rfl), (Nat.le_of_ble_eq_true rfl)⟩ ⟨(Nat.le_of_ble_eq_true rfl), (Nat.le_of_ble_eq_true rfl)⟩ 12 rfl rfl rfl rfl hl3.1 rfl (Nat.le_of_ble_eq_true rfl) dX12_readNeed_94) (fun r_113 u_112 H1 locs hp hw114 => ?_)
          obtain ⟨nspot_115, nfrom_116, ntoken_117, nvalue_118, nreadFault_119, nreadPlace_120⟩ := u_112
          generalize H1 = H at hw114 ⊢
          have hw121 : WD D A s.heap (MW cI cJ M mr (upd (upd (upd (upd (upd (upd mi 22 nspot_115) 23 nfrom_116) 24 ntoken_117) 25 nvalue_118) 38 nreadFault_119) 39 nreadPlace_120) (va_up mf 45 g_107) mg) H locs := hw114
          obtain ⟨hp_122, hp_123, hp_124, hp_125, hp_126, hp_127, hp_128, hp_129⟩ := hp
          have hp_122 : 0 ≤ nfrom_116.toInt := hp_122
          have hp_123 : nfrom_116.toInt ≤ nspot_115.toInt := hp_123
          have hp_124 : nspot_115.toInt ≤ (mi 21).toInt := hp_124
          have hp_125 : 0 ≤ ntoken_117.toInt := hp_125
          have hp_126 : ntoken_117.toInt ≤ 4 := hp_126
          have hp_127 : ntoken_117.toInt ≤ 4 * nspot_115.toInt - 4 * nfrom_116.toInt := hp_127
          have hp_128 : AGN ntoken_117.toInt nvalue_118.toInt nfrom_116.toInt nspot_115.toInt := hp_128
          rcases hp_129 with rfl | ⟨rfl, ha_130⟩
          · skip
            refine lv_iconst (pc := 97) (v := (-1)) E.1 E.2.1 dX12_readNeed_97 (by decide +kernel) ?_
            refine lv_icmp_ne (pc := 98) (tgt := 103) E.1 E.2.1 dX12_readNeed_98 (by decide) (fun c_131 => absurd (meqE (a := (-1)) (b := (-1)) (by decide +kernel) (by decide +kernel) (by decide +kernel)) c_131) (fun _ => ?_)
            refine lv_iconst (pc := 101) (v := (-1)) E.1 E.2.1 dX12_readNeed_101 (by decide +kernel) ?_
            exact em_i (w1 := (fun (u : Int32 × Int32 × Int32 × Int32 × Int32 × Int32 × (Nat → Int32)) => (MW cI cJ M mr (upd (upd (upd (upd (upd (upd mi 22 u.1) 23 u.2.1) 24 u.2.2.1) 25 u.2.2.2.1) 38 u.2.2.2.2.1) 39 u.2.2.2.2.2.1) (va_up mf 45 u.2.2.2.2.2.2) mg))) E hr hlk (nspot_115, nfrom_116, ntoken_117, nvalue_118, nreadFault_119, nreadPlace_120, g_107) hw121 ⟨hp_122, hp_123, hp_124, hp_125, hp_126, hp_127, hp_128, (Or.inl rfl)⟩ (Nat.le_of_ble_eq_true rfl) (Nat.le_of_ble_eq_true rfl) dX12_readNeed_102
          · skip
            have ha_130 : nfrom_85.toInt + 1 ≤ nfrom_116.toInt := ha_130
            refine lv_iconst (pc := 97) (v := (-1)) E.1 E.2.1 dX12_readNeed_97 (by decide +kernel) ?_
            refine lv_icmp_ne (pc := 98) (tgt := 103) E.1 E.2.1 dX12_readNeed_98 (by decide) (fun _ => ?_) (fun c_132 => absurd c_132 (mneE (a := 0) (b := (-1)) (by decide +kernel) (by decide +kernel) (by decide +kernel)))
            refine lv_aload_n (pc := 103) E.1 E.2.1 dX12_readNeed_103 rfl (lv_at hl3 0 rfl) ?_
            refine x_get (pc := 104) (T := TX12) (N := 70) (ci := 12) (v := .ref (mr 45)) E hw121 inX12 0 45 q_1444 rfl rfl (by decide) rfl rfl dX12_readNeed_104 ?_
            refine lv_iload_n (pc := 107) E.1 E.2.1 dX12_readNeed_107 rfl (lv_at hl3 1 rfl) ?_
            refine lv_iconst (pc := 108) (v := 2) E.1 E.2.1 dX12_readNeed_108 (by decide +kernel) ?_
            refine lv_iadd (pc := 109) E.1 E.2.1 dX12_readNeed_109 ?_
            refine lv_topi (fun v_133 ev_133 => ?_)
            have hv_133 : v_133.toInt = z_at.toInt + 2 := by rw [ev_133]; exact addE rfl (by decide +kernel) (ax73r33d_6 h9)
            refine lv_aload_n (pc := 110) E.1 E.2.1 dX12_readNeed_110 rfl (lv_at hl3 0 rfl) ?_
            refine lv_iconst (pc := 111) (v := 0) E.1 E.2.1 dX12_readNeed_111 (by decide +kernel) ?_
            refine lv_sipush (pc := 112) (v := 9999) E.1 E.2.1 dX12_readNeed_112 (by decide +kernel) ?_
            refine cm_i (pc := 115) hw121 (rn_M (As := [.int 0, .int 9999]) (rest := [.int v_133, .ref (mr 45)]) E hw121 (s_readNumber l D cI cJ _ M mr (upd (upd (upd (upd (upd (upd mi 22 nspot_115) 23 nfrom_116) 24 ntoken_117) 25 nvalue_118) 38 nreadFault_119) 39 nreadPlace_120) (va_up mf 45 g_107) mg 0 9999 hp_122 hp_123 hp_124 h3 hp_125 hp_126 hp_127 h7 (show (∀ j : Nat, j < 154 → (mf 26) j = w0 j) from lf_words) (show AGN ntoken_117.toInt nvalue_118.toInt nfrom_116.toInt nspot_115.toInt from hp_128)) (gdV q_1706 q_1708 q_62 q_162 q_1709) hdV_X12_readNumber ⟨rfl, rfl⟩ ⟨(Nat.le_of_ble_eq_true rfl), (Nat.le_of_ble_eq_true rfl)⟩ ⟨(Nat.le_of_ble_eq_true rfl), (Nat.le_of_ble_eq_true rfl)⟩ 12 rfl rfl rfl rfl hl3.1 rfl (Nat.le_of_ble_eq_true rfl) dX12_readNeed_115) (fun r_135 u_134 H1 locs hp hw136 => ?_)
            obtain ⟨nspot_137, nfrom_138, ntoken_139, nvalue_140, nreadFault_141, nreadPlace_142⟩ := u_134
            generalize H1 = H at hw136 ⊢
            have hw143 : WD D A s.heap (MW cI cJ M mr (upd (upd (upd (upd (upd (upd mi 22 nspot_137) 23 nfrom_138) 24 ntoken_139) 25 nvalue_140) 38 nreadFault_141) 39 nreadPlace_142) (va_up mf 45 g_107) mg) H locs := hw136
            obtain ⟨hp_144, hp_145, hp_146, hp_147, hp_148, hp_149, hp_150, hp_151⟩ := hp
            have hp_144 : 0 ≤ nfrom_138.toInt := hp_144
            have hp_145 : nfrom_138.toInt ≤ nspot_137.toInt := hp_145
            have hp_146 : nspot_137.toInt ≤ (mi 21).toInt := hp_146
            have hp_147 : 0 ≤ ntoken_139.toInt := hp_147
            have hp_148 : ntoken_139.toInt ≤ 4 := hp_148
            have hp_149 : ntoken_139.toInt ≤ 4 * nspot_137.toInt - 4 * nfrom_138.toInt := hp_149
            have hp_150 : AGN ntoken_139.toInt nvalue_140.toInt nfrom_138.toInt nspot_137.toInt := hp_150
            rcases hp_151 with rfl | ⟨ha_152, ha_153, ha_154⟩
            · skip
              refine x_iastG (pc := 118) (f := g_107) (wf := fun g => (MW cI cJ M mr (upd (upd (upd (upd (upd (upd mi 22 nspot_137) 23 nfrom_138) 24 ntoken_139) 25 nvalue_140) 38 nreadFault_141) 39 nreadPlace_142) (va_up mf 45 g) mg)) E hw143 22 rfl (inbE (a := v_133.toInt) rfl (ax73r33d_7 hv_133 h9)) (fun _ => rfl) dX12_readNeed_118 (fun g_155 H locs eg_155 hw156 => ?_)
              refine lv_aload_n (pc := 119) E.1 E.2.1 dX12_readNeed_119 rfl (lv_at hl3 0 rfl) ?_
              refine x_get (pc := 120) (T := TX12) (N := 70) (ci := 12) (v := .ref (mr 45)) E hw156 inX12 0 45 q_1444 rfl rfl (by decide) rfl rfl dX12_readNeed_120 ?_
              refine lv_iload_n (pc := 123) E.1 E.2.1 dX12_readNeed_123 rfl (lv_at hl3 1 rfl) ?_
              refine lv_iconst (pc := 124) (v := 2) E.1 E.2.1 dX12_readNeed_124 (by decide +kernel) ?_
              refine lv_iadd (pc := 125) E.1 E.2.1 dX12_readNeed_125 ?_
              refine lv_topi (fun v_157 ev_157 => ?_)
              have hv_157 : v_157.toInt = z_at.toInt + 2 := by rw [ev_157]; exact addE rfl (by decide +kernel) (ax73r33d_6 h9)
              refine x_iald (pc := 126) (f := g_155) E hw156 22 rfl (inbE (a := v_157.toInt) rfl (ax73r33d_7 hv_157 h9)) dX12_readNeed_126 ?_
              refine lv_topi (fun v_158 ev_158 => ?_)
              have hsv_158 : v_158.toInt = ((-1) : Int32).toInt := by rw [ev_158, eg_155, show v_157.toNatClampNeg = v_133.toNatClampNeg from (tcEax73r33d_ (ax73r33d_8 hv_133 hv_157)), pk_us]
              rw [show ((-1) : Int32).toInt = -1 from by decide +kernel] at hsv_158
              refine lv_iconst (pc := 127) (v := (-1)) E.1 E.2.1 dX12_readNeed_127 (by decide +kernel) ?_
              refine lv_icmp_eq (pc := 128) (tgt := 141) E.1 E.2.1 dX12_readNeed_128 (by decide) (fun _ => ?_) (fun c_159 => absurd (meqE (a := v_158.toInt) (b := (-1)) rfl (by decide +kernel) (ax73r33d_4 hsv_158)) c_159)
              refine lv_iconst (pc := 141) (v := (-1)) E.1 E.2.1 dX12_readNeed_141 (by decide +kernel) ?_
              exact em_i (w1 := (fun (u : Int32 × Int32 × Int32 × Int32 × Int32 × Int32 × (Nat → Int32)) => (MW cI cJ M mr (upd (upd (upd (upd (upd (upd mi 22 u.1) 23 u.2.1) 24 u.2.2.1) 25 u.2.2.2.1) 38 u.2.2.2.2.1) 39 u.2.2.2.2.2.1) (va_up mf 45 u.2.2.2.2.2.2) mg))) E hr hlk (nspot_137, nfrom_138, ntoken_139, nvalue_140, nreadFault_141, nreadPlace_142, g_155) hw156 ⟨hp_144, hp_145, hp_146, hp_147, hp_148, hp_149, hp_150, (Or.inl rfl)⟩ (Nat.le_of_ble_eq_true rfl) (Nat.le_of_ble_eq_true rfl) dX12_readNeed_142
            · skip
              have ha_152 : (0 : Int32).toInt ≤ r_135.toInt := ha_152
              rw [show (0 : Int32).toInt = 0 from by decide +kernel] at ha_152
              have ha_153 : r_135.toInt ≤ (9999 : Int32).toInt := ha_153
              rw [show (9999 : Int32).toInt = 9999 from by decide +kernel] at ha_153
              have ha_154 : nfrom_116.toInt + 1 ≤ nfrom_138.toInt := ha_154
              refine x_iastG (pc := 118) (f := g_107) (wf := fun g => (MW cI cJ M mr (upd (upd (upd (upd (upd (upd mi 22 nspot_137) 23 nfrom_138) 24 ntoken_139) 25 nvalue_140) 38 nreadFault_141) 39 nreadPlace_142) (va_up mf 45 g) mg)) E hw143 22 rfl (inbE (a := v_133.toInt) rfl (ax73r33d_7 hv_133 h9)) (fun _ => rfl) dX12_readNeed_118 (fun g_160 H locs eg_160 hw161 => ?_)
              refine lv_aload_n (pc := 119) E.1 E.2.1 dX12_readNeed_119 rfl (lv_at hl3 0 rfl) ?_
              refine x_get (pc := 120) (T := TX12) (N := 70) (ci := 12) (v := .ref (mr 45)) E hw161 inX12 0 45 q_1444 rfl rfl (by decide) rfl rfl dX12_readNeed_120 ?_
              refine lv_iload_n (pc := 123) E.1 E.2.1 dX12_readNeed_123 rfl (lv_at hl3 1 rfl) ?_
              refine lv_iconst (pc := 124) (v := 2) E.1 E.2.1 dX12_readNeed_124 (by decide +kernel) ?_
              refine lv_iadd (pc := 125) E.1 E.2.1 dX12_readNeed_125 ?_
              refine lv_topi (fun v_162 ev_162 => ?_)
              have hv_162 : v_162.toInt = z_at.toInt + 2 := by rw [ev_162]; exact addE rfl (by decide +kernel) (ax73r33d_6 h9)
              refine x_iald (pc := 126) (f := g_160) E hw161 22 rfl (inbE (a := v_162.toInt) rfl (ax73r33d_7 hv_162 h9)) dX12_readNeed_126 ?_
              refine lv_topi (fun v_163 ev_163 => ?_)
              have hsv_163 : v_163.toInt = r_135.toInt := by rw [ev_163, eg_160, show v_162.toNatClampNeg = v_133.toNatClampNeg from (tcEax73r33d_ (ax73r33d_8 hv_133 hv_162)), pk_us]
              refine lv_iconst (pc := 127) (v := (-1)) E.1 E.2.1 dX12_readNeed_127 (by decide +kernel) ?_
              refine lv_icmp_eq (pc := 128) (tgt := 141) E.1 E.2.1 dX12_readNeed_128 (by decide) (fun c_164 => absurd c_164 (mneE (a := v_163.toInt) (b := (-1)) rfl (by decide +kernel) (ax73r33d_5 hsv_163 ha_152))) (fun _ => ?_)
              refine lv_aload_n (pc := 131) E.1 E.2.1 dX12_readNeed_131 rfl (lv_at hl3 0 rfl) ?_
              refine lv_bipush (pc := 132) (v := 17) E.1 E.2.1 dX12_readNeed_132 (by decide +kernel) ?_
              refine cm_i (pc := 134) hw161 (rn_M (As := [.int 17]) (rest := []) E hw161 (s_readWord l D cI cJ _ M mr (upd (upd (upd (upd (upd (upd mi 22 nspot_137) 23 nfrom_138) 24 ntoken_139) 25 nvalue_140) 38 nreadFault_141) 39 nreadPlace_142) (va_up mf 45 g_160) mg 17 hp_144 hp_145 hp_146 h3 hp_147 hp_148 hp_149 h7 (show (∀ j : Nat, j < 154 → (mf 26) j = w0 j) from lf_words) (show AGN ntoken_139.toInt nvalue_140.toInt nfrom_138.toInt nspot_137.toInt from hp_150)) (gdV q_1710 q_1712 q_63 q_162 q_1713) hdV_X12_readWord ⟨rfl, rfl⟩ ⟨(Nat.le_of_ble_eq_true rfl), (Nat.le_of_ble_eq_true rfl)⟩ ⟨(Nat.le_of_ble_eq_true rfl), (Nat.le_of_ble_eq_true rfl)⟩ 12 rfl rfl rfl rfl hl3.1 rfl (Nat.le_of_ble_eq_true rfl) dX12_readNeed_134) (fun r_166 u_165 H1 locs hp hw167 => ?_)
              obtain ⟨nspot_168, nfrom_169, ntoken_170, nvalue_171, nreadFault_172, nreadPlace_173⟩ := u_165
              generalize H1 = H at hw167 ⊢
              have hw174 : WD D A s.heap (MW cI cJ M mr (upd (upd (upd (upd (upd (upd mi 22 nspot_168) 23 nfrom_169) 24 ntoken_170) 25 nvalue_171) 38 nreadFault_172) 39 nreadPlace_173) (va_up mf 45 g_160) mg) H locs := hw167
              obtain ⟨hp_175, hp_176, hp_177, hp_178, hp_179, hp_180, hp_181, hp_182⟩ := hp
              have hp_175 : 0 ≤ nfrom_169.toInt := hp_175
              have hp_176 : nfrom_169.toInt ≤ nspot_168.toInt := hp_176
              have hp_177 : nspot_168.toInt ≤ (mi 21).toInt := hp_177
              have hp_178 : 0 ≤ ntoken_170.toInt := hp_178
              have hp_179 : ntoken_170.toInt ≤ 4 := hp_179
              have hp_180 : ntoken_170.toInt ≤ 4 * nspot_168.toInt - 4 * nfrom_169.toInt := hp_180
              have hp_181 : AGN ntoken_170.toInt nvalue_171.toInt nfrom_169.toInt nspot_168.toInt := hp_181
              rcases hp_182 with rfl | ⟨rfl, ha_183⟩
              · skip
                refine lv_iconst (pc := 137) (v := (-1)) E.1 E.2.1 dX12_readNeed_137 (by decide +kernel) ?_
                refine lv_icmp_ne (pc := 138) (tgt := 143) E.1 E.2.1 dX12_readNeed_138 (by decide) (fun c_184 => absurd (meqE (a := (-1)) (b := (-1)) (by decide +kernel) (by decide +kernel) (by decide +kernel)) c_184) (fun _ => ?_)
                refine lv_iconst (pc := 141) (v := (-1)) E.1 E.2.1 dX12_readNeed_141 (by decide +kernel) ?_
                exact em_i (w1 := (fun (u : Int32 × Int32 × Int32 × Int32 × Int32 × Int32 × (Nat → Int32)) => (MW cI cJ M mr (upd (upd (upd (upd (upd (upd mi 22 u.1) 23 u.2.1) 24 u.2.2.1) 25 u.2.2.2.1) 38 u.2.2.2.2.1) 39 u.2.2.2.2.2.1) (va_up mf 45 u.2.2.2.2.2.2) mg))) E hr hlk (nspot_168, nfrom_169, ntoken_170, nvalue_171, nreadFault_172, nreadPlace_173, g_160) hw174 ⟨hp_175, hp_176, hp_177, hp_178, hp_179, hp_180, hp_181, (Or.inl rfl)⟩ (Nat.le_of_ble_eq_true rfl) (Nat.le_of_ble_eq_true rfl) dX12_readNeed_142
              · skip
                have ha_183 : nfrom_138.toInt + 1 ≤ nfrom_169.toInt := ha_183
                refine lv_iconst (pc := 137) (v := (-1)) E.1 E.2.1 dX12_readNeed_137 (by decide +kernel) ?_
                refine lv_icmp_ne (pc := 138) (tgt := 143) E.1 E.2.1 dX12_readNeed_138 (by decide) (fun _ => ?_) (fun c_185 => absurd c_185 (mneE (a := 0) (b := (-1)) (by decide +kernel) (by decide +kernel) (by decide +kernel)))
                refine lv_aload_n (pc := 143) E.1 E.2.1 dX12_readNeed_143 rfl (lv_at hl3 0 rfl) ?_
                refine x_get (pc := 144) (T := TX12) (N := 70) (ci := 12) (v := .ref (mr 45)) E hw174 inX12 0 45 q_1444 rfl rfl (by decide) rfl rfl dX12_readNeed_144 ?_
                refine lv_iload_n (pc := 147) E.1 E.2.1 dX12_readNeed_147 rfl (lv_at hl3 1 rfl) ?_
                refine lv_iconst (pc := 148) (v := 3) E.1 E.2.1 dX12_readNeed_148 (by decide +kernel) ?_
                refine lv_iadd (pc := 149) E.1 E.2.1 dX12_readNeed_149 ?_
                refine lv_topi (fun v_186 ev_186 => ?_)
                have hv_186 : v_186.toInt = z_at.toInt + 3 := by rw [ev_186]; exact addE rfl (by decide +kernel) (ax73r33d_9 h9)
                refine lv_aload_n (pc := 150) E.1 E.2.1 dX12_readNeed_150 rfl (lv_at hl3 0 rfl) ?_
                refine lv_aload_n (pc := 151) E.1 E.2.1 dX12_readNeed_151 rfl (lv_at hl3 0 rfl) ?_
                refine x_get (pc := 152) (T := TX12) (N := 70) (ci := 12) (v := .ref (mr 45)) E hw174 inX12 0 45 q_1444 rfl rfl (by decide) rfl rfl dX12_readNeed_152 ?_
                refine lv_iload_n (pc := 155) E.1 E.2.1 dX12_readNeed_155 rfl (lv_at hl3 1 rfl) ?_
                refine lv_iconst (pc := 156) (v := 2) E.1 E.2.1 dX12_readNeed_156 (by decide +kernel) ?_
                refine lv_iadd (pc := 157) E.1 E.2.1 dX12_readNeed_157 ?_
                refine lv_topi (fun v_187 ev_187 => ?_)
                have hv_187 : v_187.toInt = z_at.toInt + 2 := by rw [ev_187]; exact addE rfl (by decide +kernel) (ax73r33d_6 h9)
                refine x_iald (pc := 158) (f := g_160) E hw174 22 rfl (inbE (a := v_187.toInt) rfl (ax73r33d_7 hv_187 h9)) dX12_readNeed_158 ?_
                refine lv_topi (fun v_188 ev_188 => ?_)
                have hsv_188 : v_188.toInt = r_135.toInt := by rw [ev_188, eg_160, show v_187.toNatClampNeg = v_133.toNatClampNeg from (tcEax73r33d_ (ax73r33d_8 hv_133 hv_187)), pk_us]
                refine lv_sipush (pc := 159) (v := 9999) E.1 E.2.1 dX12_readNeed_159 (by decide +kernel) ?_
                refine cm_i (pc := 162) hw174 (rn_M (As := [.int v_188, .int 9999]) (rest := [.int v_186, .ref (mr 45)]) E hw174 (s_readNumber l D cI cJ _ M mr (upd (upd (upd (upd (upd (upd mi 22 nspot_168) 23 nfrom_169) 24 ntoken_170) 25 nvalue_171) 38 nreadFault_172) 39 nreadPlace_173) (va_up mf 45 g_160) mg v_188 9999 hp_175 hp_176 hp_177 h3 hp_178 hp_179 hp_180 h7 (show (∀ j : Nat, j < 154 → (mf 26) j = w0 j) from lf_words) (show AGN ntoken_170.toInt nvalue_171.toInt nfrom_169.toInt nspot_168.toInt from hp_181)) (gdV q_1706 q_1708 q_62 q_162 q_1709) hdV_X12_readNumber ⟨rfl, rfl⟩ ⟨(Nat.le_of_ble_eq_true rfl), (Nat.le_of_ble_eq_true rfl)⟩ ⟨(Nat.le_of_ble_eq_true rfl), (Nat.le_of_ble_eq_true rfl)⟩ 12 rfl rfl rfl rfl hl3.1 rfl (Nat.le_of_ble_eq_true rfl) dX12_readNeed_162) (fun r_190 u_189 H1 locs hp hw191 => ?_)
                obtain ⟨nspot_192, nfrom_193, ntoken_194, nvalue_195, nreadFault_196, nreadPlace_197⟩ := u_189
                generalize H1 = H at hw191 ⊢
                have hw198 : WD D A s.heap (MW cI cJ M mr (upd (upd (upd (upd (upd (upd mi 22 nspot_192) 23 nfrom_193) 24 ntoken_194) 25 nvalue_195) 38 nreadFault_196) 39 nreadPlace_197) (va_up mf 45 g_160) mg) H locs := hw191
                obtain ⟨hp_199, hp_200, hp_201, hp_202, hp_203, hp_204, hp_205, hp_206⟩ := hp
                have hp_199 : 0 ≤ nfrom_193.toInt := hp_199
                have hp_200 : nfrom_193.toInt ≤ nspot_192.toInt := hp_200
                have hp_201 : nspot_192.toInt ≤ (mi 21).toInt := hp_201
                have hp_202 : 0 ≤ ntoken_194.toInt := hp_202
                have hp_203 : ntoken_194.toInt ≤ 4 := hp_203
                have hp_204 : ntoken_194.toInt ≤ 4 * nspot_192.toInt - 4 * nfrom_193.toInt := hp_204
                have hp_205 : AGN ntoken_194.toInt nvalue_195.toInt nfrom_193.toInt nspot_192.toInt := hp_205
                rcases hp_206 with rfl | ⟨ha_207, ha_208, ha_209⟩
                · skip
                  refine x_iastG (pc := 165) (f := g_160) (wf := fun g => (MW cI cJ M mr (upd (upd (upd (upd (upd (upd mi 22 nspot_192) 23 nfrom_193) 24 ntoken_194) 25 nvalue_195) 38 nreadFault_196) 39 nreadPlace_197) (va_up mf 45 g) mg)) E hw198 22 rfl (inbE (a := v_186.toInt) rfl (ax73r33d_10 hv_186 h9)) (fun _ => rfl) dX12_readNeed_165 (fun g_210 H locs eg_210 hw211 => ?_)
                  refine lv_aload_n (pc := 166) E.1 E.2.1 dX12_readNeed_166 rfl (lv_at hl3 0 rfl) ?_
                  refine x_get (pc := 167) (T := TX12) (N := 70) (ci := 12) (v := .ref (mr 45)) E hw211 inX12 0 45 q_1444 rfl rfl (by decide) rfl rfl dX12_readNeed_167 ?_
                  refine lv_iload_n (pc := 170) E.1 E.2.1 dX12_readNeed_170 rfl (lv_at hl3 1 rfl) ?_
                  refine lv_iconst (pc := 171) (v := 3) E.1 E.2.1 dX12_readNeed_171 (by decide +kernel) ?_
                  refine lv_iadd (pc := 172) E.1 E.2.1 dX12_readNeed_172 ?_
                  refine lv_topi (fun v_212 ev_212 => ?_)
                  have hv_212 : v_212.toInt = z_at.toInt + 3 := by rw [ev_212]; exact addE rfl (by decide +kernel) (ax73r33d_9 h9)
                  refine x_iald (pc := 173) (f := g_210) E hw211 22 rfl (inbE (a := v_212.toInt) rfl (ax73r33d_10 hv_212 h9)) dX12_readNeed_173 ?_
                  refine lv_topi (fun v_213 ev_213 => ?_)
                  have hsv_213 : v_213.toInt = ((-1) : Int32).toInt := by rw [ev_213, eg_210, show v_212.toNatClampNeg = v_186.toNatClampNeg from (tcEax73r33d_ (ax73r33d_11 hv_186 hv_212)), pk_us]
                  rw [show ((-1) : Int32).toInt = -1 from by decide +kernel] at hsv_213
                  refine lv_iconst (pc := 174) (v := (-1)) E.1 E.2.1 dX12_readNeed_174 (by decide +kernel) ?_
                  refine lv_icmp_eq (pc := 175) (tgt := 188) E.1 E.2.1 dX12_readNeed_175 (by decide) (fun _ => ?_) (fun c_214 => absurd (meqE (a := v_213.toInt) (b := (-1)) rfl (by decide +kernel) (ax73r33d_4 hsv_213)) c_214)
                  refine lv_iconst (pc := 188) (v := (-1)) E.1 E.2.1 dX12_readNeed_188 (by decide +kernel) ?_
                  exact em_i (w1 := (fun (u : Int32 × Int32 × Int32 × Int32 × Int32 × Int32 × (Nat → Int32)) => (MW cI cJ M mr (upd (upd (upd (upd (upd (upd mi 22 u.1) 23 u.2.1) 24 u.2.2.1) 25 u.2.2.2.1) 38 u.2.2.2.2.1) 39 u.2.2.2.2.2.1) (va_up mf 45 u.2.2.2.2.2.2) mg))) E hr hlk (nspot_192, nfrom_193, ntoken_194, nvalue_195, nreadFault_196, nreadPlace_197, g_210) hw211 ⟨hp_199, hp_200, hp_201, hp_202, hp_203, hp_204, hp_205, (Or.inl rfl)⟩ (Nat.le_of_ble_eq_true rfl) (Nat.le_of_ble_eq_true rfl) dX12_readNeed_189
                · skip
                  have ha_207 : v_188.toInt ≤ r_190.toInt := ha_207
                  have ha_208 : r_190.toInt ≤ (9999 : Int32).toInt := ha_208
                  rw [show (9999 : Int32).toInt = 9999 from by decide +kernel] at ha_208
                  have ha_209 : nfrom_169.toInt + 1 ≤ nfrom_193.toInt := ha_209
                  refine x_iastG (pc := 165) (f := g_160) (wf := fun g => (MW cI cJ M mr (upd (upd (upd (upd (upd (upd mi 22 nspot_192) 23 nfrom_193) 24 ntoken_194) 25 nvalue_195) 38 nreadFault_196) 39 nreadPlace_197) (va_up mf 45 g) mg)) E hw198 22 rfl (inbE (a := v_186.toInt) rfl (ax73r33d_10 hv_186 h9)) (fun _ => rfl) dX12_readNeed_165 (fun g_215 H locs eg_215 hw216 => ?_)
                  refine lv_aload_n (pc := 166) E.1 E.2.1 dX12_readNeed_166 rfl (lv_at hl3 0 rfl) ?_
                  refine x_get (pc := 167) (T := TX12) (N := 70) (ci := 12) (v := .ref (mr 45)) E hw216 inX12 0 45 q_1444 rfl rfl (by decide) rfl rfl dX12_readNeed_167 ?_
                  refine lv_iload_n (pc := 170) E.1 E.2.1 dX12_readNeed_170 rfl (lv_at hl3 1 rfl) ?_
                  refine lv_iconst (pc := 171) (v := 3) E.1 E.2.1 dX12_readNeed_171 (by decide +kernel) ?_
                  refine lv_iadd (pc := 172) E.1 E.2.1 dX12_readNeed_172 ?_
                  refine lv_topi (fun v_217 ev_217 => ?_)
                  have hv_217 : v_217.toInt = z_at.toInt + 3 := by rw [ev_217]; exact addE rfl (by decide +kernel) (ax73r33d_9 h9)
                  refine x_iald (pc := 173) (f := g_215) E hw216 22 rfl (inbE (a := v_217.toInt) rfl (ax73r33d_10 hv_217 h9)) dX12_readNeed_173 ?_
                  refine lv_topi (fun v_218 ev_218 => ?_)
                  have hsv_218 : v_218.toInt = r_190.toInt := by rw [ev_218, eg_215, show v_217.toNatClampNeg = v_186.toNatClampNeg from (tcEax73r33d_ (ax73r33d_11 hv_186 hv_217)), pk_us]
                  refine lv_iconst (pc := 174) (v := (-1)) E.1 E.2.1 dX12_readNeed_174 (by decide +kernel) ?_
                  refine lv_icmp_eq (pc := 175) (tgt := 188) E.1 E.2.1 dX12_readNeed_175 (by decide) (fun c_219 => absurd c_219 (mneE (a := v_218.toInt) (b := (-1)) rfl (by decide +kernel) (by omega))) (fun _ => ?_)
                  refine lv_aload_n (pc := 178) E.1 E.2.1 dX12_readNeed_178 rfl (lv_at hl3 0 rfl) ?_
                  refine lv_bipush (pc := 179) (v := 27) E.1 E.2.1 dX12_readNeed_179 (by decide +kernel) ?_
                  refine cm_i (pc := 181) hw216 (rn_M (As := [.int 27]) (rest := []) E hw216 (s_readWord l D cI cJ _ M mr (upd (upd (upd (upd (upd (upd mi 22 nspot_192) 23 nfrom_193) 24 ntoken_194) 25 nvalue_195) 38 nreadFault_196) 39 nreadPlace_197) (va_up mf 45 g_215) mg 27 hp_199 hp_200 hp_201 h3 hp_202 hp_203 hp_204 h7 (show (∀ j : Nat, j < 154 → (mf 26) j = w0 j) from lf_words) (show AGN ntoken_194.toInt nvalue_195.toInt nfrom_193.toInt nspot_192.toInt from hp_205)) (gdV q_1710 q_1712 q_63 q_162 q_1713) hdV_X12_readWord ⟨rfl, rfl⟩ ⟨(Nat.le_of_ble_eq_true rfl), (Nat.le_of_ble_eq_true rfl)⟩ ⟨(Nat.le_of_ble_eq_true rfl), (Nat.le_of_ble_eq_true rfl)⟩ 12 rfl rfl rfl rfl hl3.1 rfl (Nat.le_of_ble_eq_true rfl) dX12_readNeed_181) (fun r_221 u_220 H1 locs hp hw222 => ?_)
                  obtain ⟨nspot_223, nfrom_224, ntoken_225, nvalue_226, nreadFault_227, nreadPlace_228⟩ := u_220
                  generalize H1 = H at hw222 ⊢
                  have hw229 : WD D A s.heap (MW cI cJ M mr (upd (upd (upd (upd (upd (upd mi 22 nspot_223) 23 nfrom_224) 24 ntoken_225) 25 nvalue_226) 38 nreadFault_227) 39 nreadPlace_228) (va_up mf 45 g_215) mg) H locs := hw222
                  obtain ⟨hp_230, hp_231, hp_232, hp_233, hp_234, hp_235, hp_236, hp_237⟩ := hp
                  have hp_230 : 0 ≤ nfrom_224.toInt := hp_230
                  have hp_231 : nfrom_224.toInt ≤ nspot_223.toInt := hp_231
                  have hp_232 : nspot_223.toInt ≤ (mi 21).toInt := hp_232
                  have hp_233 : 0 ≤ ntoken_225.toInt := hp_233
                  have hp_234 : ntoken_225.toInt ≤ 4 := hp_234
                  have hp_235 : ntoken_225.toInt ≤ 4 * nspot_223.toInt - 4 * nfrom_224.toInt := hp_235
                  have hp_236 : AGN ntoken_225.toInt nvalue_226.toInt nfrom_224.toInt nspot_223.toInt := hp_236
                  rcases hp_237 with rfl | ⟨rfl, ha_238⟩
                  · skip
                    refine lv_iconst (pc := 184) (v := (-1)) E.1 E.2.1 dX12_readNeed_184 (by decide +kernel) ?_
                    refine lv_icmp_ne (pc := 185) (tgt := 190) E.1 E.2.1 dX12_readNeed_185 (by decide) (fun c_239 => absurd (meqE (a := (-1)) (b := (-1)) (by decide +kernel) (by decide +kernel) (by decide +kernel)) c_239) (fun _ => ?_)
                    refine lv_iconst (pc := 188) (v := (-1)) E.1 E.2.1 dX12_readNeed_188 (by decide +kernel) ?_
                    exact em_i (w1 := (fun (u : Int32 × Int32 × Int32 × Int32 × Int32 × Int32 × (Nat → Int32)) => (MW cI cJ M mr (upd (upd (upd (upd (upd (upd mi 22 u.1) 23 u.2.1) 24 u.2.2.1) 25 u.2.2.2.1) 38 u.2.2.2.2.1) 39 u.2.2.2.2.2.1) (va_up mf 45 u.2.2.2.2.2.2) mg))) E hr hlk (nspot_223, nfrom_224, ntoken_225, nvalue_226, nreadFault_227, nreadPlace_228, g_215) hw229 ⟨hp_230, hp_231, hp_232, hp_233, hp_234, hp_235, hp_236, (Or.inl rfl)⟩ (Nat.le_of_ble_eq_true rfl) (Nat.le_of_ble_eq_true rfl) dX12_readNeed_189
                  · skip
                    have ha_238 : nfrom_193.toInt + 1 ≤ nfrom_224.toInt := ha_238
                    refine lv_iconst (pc := 184) (v := (-1)) E.1 E.2.1 dX12_readNeed_184 (by decide +kernel) ?_
                    refine lv_icmp_ne (pc := 185) (tgt := 190) E.1 E.2.1 dX12_readNeed_185 (by decide) (fun _ => ?_) (fun c_240 => absurd c_240 (mneE (a := 0) (b := (-1)) (by decide +kernel) (by decide +kernel) (by decide +kernel)))
                    refine lv_aload_n (pc := 190) E.1 E.2.1 dX12_readNeed_190 rfl (lv_at hl3 0 rfl) ?_
                    refine x_get (pc := 191) (T := TX12) (N := 70) (ci := 12) (v := .ref (mr 45)) E hw229 inX12 0 45 q_1444 rfl rfl (by decide) rfl rfl dX12_readNeed_191 ?_
                    refine lv_iload_n (pc := 194) E.1 E.2.1 dX12_readNeed_194 rfl (lv_at hl3 1 rfl) ?_
                    refine lv_iconst (pc := 195) (v := 4) E.1 E.2.1 dX12_readNeed_195 (by decide +kernel) ?_
                    refine lv_iadd (pc := 196) E.1 E.2.1 dX12_readNeed_196 ?_
                    refine lv_topi (fun v_241 ev_241 => ?_)
                    have hv_241 : v_241.toInt = z_at.toInt + 4 := by rw [ev_241]; exact addE rfl (by decide +kernel) (ax73r33d_12 h9)
                    refine lv_aload_n (pc := 197) E.1 E.2.1 dX12_readNeed_197 rfl (lv_at hl3 0 rfl) ?_
                    refine lv_iconst (pc := 198) (v := 1) E.1 E.2.1 dX12_readNeed_198 (by decide +kernel) ?_
                    refine lv_bipush (pc := 199) (v := 99) E.1 E.2.1 dX12_readNeed_199 (by decide +kernel) ?_
                    refine cm_i (pc := 201) hw229 (rn_M (As := [.int 1, .int 99]) (rest := [.int v_241, .ref (mr 45)]) E hw229 (s_readNumber l D cI cJ _ M mr (upd (upd (upd (upd (upd (upd mi 22 nspot_223) 23 nfrom_224) 24 ntoken_225) 25 nvalue_226) 38 nreadFault_227) 39 nreadPlace_228) (va_up mf 45 g_215) mg 1 99 hp_230 hp_231 hp_232 h3 hp_233 hp_234 hp_235 h7 (show (∀ j : Nat, j < 154 → (mf 26) j = w0 j) from lf_words) (show AGN ntoken_225.toInt nvalue_226.toInt nfrom_224.toInt nspot_223.toInt from hp_236)) (gdV q_1706 q_1708 q_62 q_162 q_1709) hdV_X12_readNumber ⟨rfl, rfl⟩ ⟨(Nat.le_of_ble_eq_true rfl), (Nat.le_of_ble_eq_true rfl)⟩ ⟨(Nat.le_of_ble_eq_true rfl), (Nat.le_of_ble_eq_true rfl)⟩ 12 rfl rfl rfl rfl hl3.1 rfl (Nat.le_of_ble_eq_true rfl) dX12_readNeed_201) (fun r_243 u_242 H1 locs hp hw244 => ?_)
                    obtain ⟨nspot_245, nfrom_246, ntoken_247, nvalue_248, nreadFault_249, nreadPlace_250⟩ := u_242
                    generalize H1 = H at hw244 ⊢
                    have hw251 : WD D A s.heap (MW cI cJ M mr (upd (upd (upd (upd (upd (upd mi 22 nspot_245) 23 nfrom_246) 24 ntoken_247) 25 nvalue_248) 38 nreadFault_249) 39 nreadPlace_250) (va_up mf 45 g_215) mg) H locs := hw244
                    obtain ⟨hp_252, hp_253, hp_254, hp_255, hp_256, hp_257, hp_258, hp_259⟩ := hp
                    have hp_252 : 0 ≤ nfrom_246.toInt := hp_252
                    have hp_253 : nfrom_246.toInt ≤ nspot_245.toInt := hp_253
                    have hp_254 : nspot_245.toInt ≤ (mi 21).toInt := hp_254
                    have hp_255 : 0 ≤ ntoken_247.toInt := hp_255
                    have hp_256 : ntoken_247.toInt ≤ 4 := hp_256
                    have hp_257 : ntoken_247.toInt ≤ 4 * nspot_245.toInt - 4 * nfrom_246.toInt := hp_257
                    have hp_258 : AGN ntoken_247.toInt nvalue_248.toInt nfrom_246.toInt nspot_245.toInt := hp_258
                    rcases hp_259 with rfl | ⟨ha_260, ha_261, ha_262⟩
                    · skip
                      refine x_iastG (pc := 204) (f := g_215) (wf := fun g => (MW cI cJ M mr (upd (upd (upd (upd (upd (upd mi 22 nspot_245) 23 nfrom_246) 24 ntoken_247) 25 nvalue_248) 38 nreadFault_249) 39 nreadPlace_250) (va_up mf 45 g) mg)) E hw251 22 rfl (inbE (a := v_241.toInt) rfl (ax73r33d_13 hv_241 h9)) (fun _ => rfl) dX12_readNeed_204 (fun g_263 H locs eg_263 hw264 => ?_)
                      refine lv_aload_n (pc := 205) E.1 E.2.1 dX12_readNeed_205 rfl (lv_at hl3 0 rfl) ?_
                      refine x_get (pc := 206) (T := TX12) (N := 70) (ci := 12) (v := .ref (mr 45)) E hw264 inX12 0 45 q_1444 rfl rfl (by decide) rfl rfl dX12_readNeed_206 ?_
                      refine lv_iload_n (pc := 209) E.1 E.2.1 dX12_readNeed_209 rfl (lv_at hl3 1 rfl) ?_
                      refine lv_iconst (pc := 210) (v := 4) E.1 E.2.1 dX12_readNeed_210 (by decide +kernel) ?_
                      refine lv_iadd (pc := 211) E.1 E.2.1 dX12_readNeed_211 ?_
                      refine lv_topi (fun v_265 ev_265 => ?_)
                      have hv_265 : v_265.toInt = z_at.toInt + 4 := by rw [ev_265]; exact addE rfl (by decide +kernel) (ax73r33d_12 h9)
                      refine x_iald (pc := 212) (f := g_263) E hw264 22 rfl (inbE (a := v_265.toInt) rfl (ax73r33d_13 hv_265 h9)) dX12_readNeed_212 ?_
                      refine lv_topi (fun v_266 ev_266 => ?_)
                      have hsv_266 : v_266.toInt = ((-1) : Int32).toInt := by rw [ev_266, eg_263, show v_265.toNatClampNeg = v_241.toNatClampNeg from (tcEax73r33d_ (ax73r33d_14 hv_241 hv_265)), pk_us]
                      rw [show ((-1) : Int32).toInt = -1 from by decide +kernel] at hsv_266
                      refine lv_iconst (pc := 213) (v := (-1)) E.1 E.2.1 dX12_readNeed_213 (by decide +kernel) ?_
                      refine lv_icmp_ne (pc := 214) (tgt := 221) E.1 E.2.1 dX12_readNeed_214 (by decide) (fun c_267 => absurd (meqE (a := v_266.toInt) (b := (-1)) rfl (by decide +kernel) (ax73r33d_4 hsv_266)) c_267) (fun _ => ?_)
                      refine lv_iconst (pc := 217) (v := (-1)) E.1 E.2.1 dX12_readNeed_217 (by decide +kernel) ?_
                      refine lv_goto (pc := 218) (tgt := 227) E.1 E.2.1 dX12_readNeed_218 (by decide) ?_
                      exact em_i (w1 := (fun (u : Int32 × Int32 × Int32 × Int32 × Int32 × Int32 × (Nat → Int32)) => (MW cI cJ M mr (upd (upd (upd (upd (upd (upd mi 22 u.1) 23 u.2.1) 24 u.2.2.1) 25 u.2.2.2.1) 38 u.2.2.2.2.1) 39 u.2.2.2.2.2.1) (va_up mf 45 u.2.2.2.2.2.2) mg))) E hr hlk (nspot_245, nfrom_246, ntoken_247, nvalue_248, nreadFault_249, nreadPlace_250, g_263) hw264 ⟨hp_252, hp_253, hp_254, hp_255, hp_256, hp_257, hp_258, (Or.inl rfl)⟩ (Nat.le_of_ble_eq_true rfl) (Nat.le_of_ble_eq_true rfl) dX12_readNeed_227
                    · skip
                      have ha_260 : (1 : Int32).toInt ≤ r_243.toInt := ha_260
                      rw [show (1 : Int32).toInt = 1 from by decide +kernel] at ha_260
                      have ha_261 : r_243.toInt ≤ (99 : Int32).toInt := ha_261
                      rw [show (99 : Int32).toInt = 99 from by decide +kernel] at ha_261
                      have ha_262 : nfrom_224.toInt + 1 ≤ nfrom_246.toInt := ha_262
                      refine x_iastG (pc := 204) (f := g_215) (wf := fun g => (MW cI cJ M mr (upd (upd (upd (upd (upd (upd mi 22 nspot_245) 23 nfrom_246) 24 ntoken_247) 25 nvalue_248) 38 nreadFault_249) 39 nreadPlace_250) (va_up mf 45 g) mg)) E hw251 22 rfl (inbE (a := v_241.toInt) rfl (ax73r33d_13 hv_241 h9)) (fun _ => rfl) dX12_readNeed_204 (fun g_268 H locs eg_268 hw269 => ?_)
                      refine lv_aload_n (pc := 205) E.1 E.2.1 dX12_readNeed_205 rfl (lv_at hl3 0 rfl) ?_
                      refine x_get (pc := 206) (T := TX12) (N := 70) (ci := 12) (v := .ref (mr 45)) E hw269 inX12 0 45 q_1444 rfl rfl (by decide) rfl rfl dX12_readNeed_206 ?_
                      refine lv_iload_n (pc := 209) E.1 E.2.1 dX12_readNeed_209 rfl (lv_at hl3 1 rfl) ?_
                      refine lv_iconst (pc := 210) (v := 4) E.1 E.2.1 dX12_readNeed_210 (by decide +kernel) ?_
                      refine lv_iadd (pc := 211) E.1 E.2.1 dX12_readNeed_211 ?_
                      refine lv_topi (fun v_270 ev_270 => ?_)
                      have hv_270 : v_270.toInt = z_at.toInt + 4 := by rw [ev_270]; exact addE rfl (by decide +kernel) (ax73r33d_12 h9)
                      refine x_iald (pc := 212) (f := g_268) E hw269 22 rfl (inbE (a := v_270.toInt) rfl (ax73r33d_13 hv_270 h9)) dX12_readNeed_212 ?_
                      refine lv_topi (fun v_271 ev_271 => ?_)
                      have hsv_271 : v_271.toInt = r_243.toInt := by rw [ev_271, eg_268, show v_270.toNatClampNeg = v_241.toNatClampNeg from (tcEax73r33d_ (ax73r33d_14 hv_241 hv_270)), pk_us]
                      refine lv_iconst (pc := 213) (v := (-1)) E.1 E.2.1 dX12_readNeed_213 (by decide +kernel) ?_
                      refine lv_icmp_ne (pc := 214) (tgt := 221) E.1 E.2.1 dX12_readNeed_214 (by decide) (fun _ => ?_) (fun c_272 => absurd c_272 (mneE (a := v_271.toInt) (b := (-1)) rfl (by decide +kernel) (ax73r33d_15 hsv_271 ha_260)))
                      refine lv_aload_n (pc := 221) E.1 E.2.1 dX12_readNeed_221 rfl (lv_at hl3 0 rfl) ?_
                      refine lv_bipush (pc := 222) (v := 59) E.1 E.2.1 dX12_readNeed_222 (by decide +kernel) ?_
                      refine cm_i (pc := 224) hw269 (rn_M (As := [.int 59]) (rest := []) E hw269 (s_readMark l D cI cJ _ M mr (upd (upd (upd (upd (upd (upd mi 22 nspot_245) 23 nfrom_246) 24 ntoken_247) 25 nvalue_248) 38 nreadFault_249) 39 nreadPlace_250) (va_up mf 45 g_268) mg 59 hp_252 hp_253 hp_254 h3 hp_255 hp_256 hp_257 h7 (show (∀ j : Nat, j < 154 → (mf 26) j = w0 j) from lf_words) (show AGN ntoken_247.toInt nvalue_248.toInt nfrom_246.toInt nspot_245.toInt from hp_258)) (gdV q_1714 q_1716 q_64 q_162 q_1717) hdV_X12_readMark ⟨rfl, rfl⟩ ⟨(Nat.le_of_ble_eq_true rfl), (Nat.le_of_ble_eq_true rfl)⟩ ⟨(Nat.le_of_ble_eq_true rfl), (Nat.le_of_ble_eq_true rfl)⟩ 12 rfl rfl rfl rfl hl3.1 rfl (Nat.le_of_ble_eq_true rfl) dX12_readNeed_224) (fun r_274 u_273 H1 locs hp hw275 => ?_)
                      obtain ⟨nspot_276, nfrom_277, ntoken_278, nvalue_279, nreadFault_280, nreadPlace_281⟩ := u_273
                      generalize H1 = H at hw275 ⊢
                      have hw282 : WD D A s.heap (MW cI cJ M mr (upd (upd (upd (upd (upd (upd mi 22 nspot_276) 23 nfrom_277) 24 ntoken_278) 25 nvalue_279) 38 nreadFault_280) 39 nreadPlace_281) (va_up mf 45 g_268) mg) H locs := hw275
                      obtain ⟨hp_283, hp_284, hp_285, hp_286, hp_287, hp_288, hp_289, hp_290⟩ := hp
                      have hp_283 : 0 ≤ nfrom_277.toInt := hp_283
                      have hp_284 : nfrom_277.toInt ≤ nspot_276.toInt := hp_284
                      have hp_285 : nspot_276.toInt ≤ (mi 21).toInt := hp_285
                      have hp_286 : 0 ≤ ntoken_278.toInt := hp_286
                      have hp_287 : ntoken_278.toInt ≤ 4 := hp_287
                      have hp_288 : ntoken_278.toInt ≤ 4 * nspot_276.toInt - 4 * nfrom_277.toInt := hp_288
                      have hp_289 : AGN ntoken_278.toInt nvalue_279.toInt nfrom_277.toInt nspot_276.toInt := hp_289
                      rcases hp_290 with rfl | ⟨rfl, ha_291⟩
                      · skip
                        exact em_i (w1 := (fun (u : Int32 × Int32 × Int32 × Int32 × Int32 × Int32 × (Nat → Int32)) => (MW cI cJ M mr (upd (upd (upd (upd (upd (upd mi 22 u.1) 23 u.2.1) 24 u.2.2.1) 25 u.2.2.2.1) 38 u.2.2.2.2.1) 39 u.2.2.2.2.2.1) (va_up mf 45 u.2.2.2.2.2.2) mg))) E hr hlk (nspot_276, nfrom_277, ntoken_278, nvalue_279, nreadFault_280, nreadPlace_281, g_268) hw282 ⟨hp_283, hp_284, hp_285, hp_286, hp_287, hp_288, hp_289, (Or.inl rfl)⟩ (Nat.le_of_ble_eq_true rfl) (Nat.le_of_ble_eq_true rfl) dX12_readNeed_227
                      · skip
                        have ha_291 : nfrom_246.toInt + 1 ≤ nfrom_277.toInt := ha_291
                        exact em_i (w1 := (fun (u : Int32 × Int32 × Int32 × Int32 × Int32 × Int32 × (Nat → Int32)) => (MW cI cJ M mr (upd (upd (upd (upd (upd (upd mi 22 u.1) 23 u.2.1) 24 u.2.2.1) 25 u.2.2.2.1) 38 u.2.2.2.2.1) 39 u.2.2.2.2.2.1) (va_up mf 45 u.2.2.2.2.2.2) mg))) E hr hlk (nspot_276, nfrom_277, ntoken_278, nvalue_279, nreadFault_280, nreadPlace_281, g_268) hw282 ⟨hp_283, hp_284, hp_285, hp_286, hp_287, hp_288, hp_289, (Or.inr (⟨rfl, (by show (mi 23).toInt + 1 ≤ nfrom_277.toInt; omega)⟩))⟩ (Nat.le_of_ble_eq_true rfl) (Nat.le_of_ble_eq_true rfl) dX12_readNeed_227

set_option maxHeartbeats 4000000 in
set_option maxRecDepth 100000 in
theorem s_readNeeds (l : Launch) (D : va_G) (cI cJ : ClassId) (sz M : Nat) (mr : Nat → Nat) (mi : Nat → Int32) (mf : Nat → Nat → Int32) (mg : Nat → Nat → Int64)  (h0 : 0 ≤ (mi 23).toInt) (h1 : (mi 23).toInt ≤ (mi 22).toInt) (h2 : (mi 22).toInt ≤ (mi 21).toInt) (h3 : (mi 21).toInt ≤ 400) (h4 : 0 ≤ (mi 24).toInt) (h5 : (mi 24).toInt ≤ 4) (h6 : (mi 24).toInt ≤ 4 * (mi 22).toInt - 4 * (mi 23).toInt) (h7 : ((mf 26) 153).toInt = 32) (h8 : 0 ≤ (mi 6).toInt ∧ (mi 6).toInt ≤ 10) (lf_words : (∀ j : Nat, j < 154 → (mf 26) j = w0 j)) (lf_again : AGN ((mi 24).toInt) ((mi 25).toInt) ((mi 23).toInt) ((mi 22).toInt)) : Met l yX12_readNeeds (Cond.code yX12_readNeeds cX12_readNeeds 2 (some .int) :: GW) ({ frames := 6, cells := 0, slots := 0, locals := 149 } : Room) (va_Pc [.ref M] (PW D cI cJ sz (MW cI cJ M mr mi mf mg) xT)) (va_Qi (fun (r : Int32) (u : Int32 × Int32 × Int32 × Int32 × Int32 × Int32 × (Nat → Int32)) => (0 ≤ u.2.1.toInt) ∧ (u.2.1.toInt ≤ u.1.toInt) ∧ (u.1.toInt ≤ (mi 21).toInt) ∧ (0 ≤ u.2.2.1.toInt) ∧ (u.2.2.1.toInt ≤ 4) ∧ (u.2.2.1.toInt ≤ 4 * u.1.toInt - 4 * u.2.1.toInt) ∧ (AGN u.2.2.1.toInt u.2.2.2.1.toInt u.2.1.toInt u.1.toInt) ∧ ((r = (-1)) ∨ (0 ≤ r.toInt ∧ r.toInt ≤ 10))) (fun u => QW D cI cJ (va_A (MW cI cJ M mr mi mf mg) sz) ((fun (u : Int32 × Int32 × Int32 × Int32 × Int32 × Int32 × (Nat → Int32)) => (MW cI cJ M mr (upd (upd (upd (upd (upd (upd mi 22 u.1) 23 u.2.1) 24 u.2.2.1) 25 u.2.2.2.1) 38 u.2.2.2.2.1) 39 u.2.2.2.2.2.1) (va_up mf 45 u.2.2.2.2.2.2) mg)) u)) (va_A (MW cI cJ M mr mi mf mg) sz)) 0 0 (va_A (MW cI cJ M mr mi mf mg) sz) := by
  refine mk_met (y := yX12_readNeeds) (bytes := cX12_readNeeds) (maxL := 2) (avs := [.ref M]) (WS := (MW cI cJ M mr mi mf mg)) (Qf := fun A => va_Qi (fun (r : Int32) (u : Int32 × Int32 × Int32 × Int32 × Int32 × Int32 × (Nat → Int32)) => (0 ≤ u.2.1.toInt) ∧ (u.2.1.toInt ≤ u.1.toInt) ∧ (u.1.toInt ≤ (mi 21).toInt) ∧ (0 ≤ u.2.2.1.toInt) ∧ (u.2.2.1.toInt ≤ 4) ∧ (u.2.2.1.toInt ≤ 4 * u.1.toInt - 4 * u.2.1.toInt) ∧ (AGN u.2.2.1.toInt u.2.2.2.1.toInt u.2.1.toInt u.1.toInt) ∧ ((r = (-1)) ∨ (0 ≤ r.toInt ∧ r.toInt ≤ 10))) (fun u => QW D cI cJ A ((fun (u : Int32 × Int32 × Int32 × Int32 × Int32 × Int32 × (Nat → Int32)) => (MW cI cJ M mr (upd (upd (upd (upd (upd (upd mi 22 u.1) 23 u.2.1) 24 u.2.2.1) 25 u.2.2.2.1) 38 u.2.2.2.2.1) 39 u.2.2.2.2.2.1) (va_up mf 45 u.2.2.2.2.2.2) mg)) u)) A) (by decide) (Nat.le_of_ble_eq_true rfl) ?_
  intro p e s m below meth c A ls E hr hlk hnm hX hw1 hl2
  have hl3 : lv_has ls 2 [(0, .ref M)] := hl2
  refine lv_iconst (pc := 0) (v := 0) E.1 E.2.1 dX12_readNeeds_0 (by decide +kernel) ?_
  refine lv_istore_n (pc := 1) (lv' := [(1, .int 0), (0, .ref M)]) E.1 E.2.1 dX12_readNeeds_1 rfl hl3 (by decide) rfl (fun ls hl4 => ?_)
  have loop_5 : ∀ (k : Nat) (x_6 : Int32) (x_7 : Int32) (x_8 : Int32) (x_9 : Int32) (x_10 : Int32) (x_11 : Int32) (x_12 : Int32) (g_13 : Nat → Int32) (H : Heap) (locs : List Loc) (ls : Array Slot), (0 ≤ x_8.toInt) ∧ (x_8.toInt ≤ x_7.toInt) ∧ (x_7.toInt ≤ (mi 21).toInt) ∧ (0 ≤ x_9.toInt) ∧ (x_9.toInt ≤ 4) ∧ (x_9.toInt ≤ 4 * x_7.toInt - 4 * x_8.toInt) ∧ (0 ≤ x_6.toInt) ∧ (x_6.toInt ≤ 10) ∧ (AGN x_9.toInt x_10.toInt x_8.toInt x_7.toInt) → (mi 21).toInt - x_8.toInt < (k : Int) → WD D A s.heap (MW cI cJ M mr (upd (upd (upd (upd (upd (upd mi 22 x_7) 23 x_8) 24 x_9) 25 x_10) 38 x_11) 39 x_12) (va_up mf 45 g_13) mg) H locs → lv_has ls 2 [(1, .int x_6), (0, .ref M)] → W p l e ({ frames := 6, cells := 0, slots := 0, locals := 149 } : Room) s m ([.ref M] : List Value).toArray below meth c H locs 0 0 (MQ below (va_Qi (fun (r : Int32) (u : Int32 × Int32 × Int32 × Int32 × Int32 × Int32 × (Nat → Int32)) => (0 ≤ u.2.1.toInt) ∧ (u.2.1.toInt ≤ u.1.toInt) ∧ (u.1.toInt ≤ (mi 21).toInt) ∧ (0 ≤ u.2.2.1.toInt) ∧ (u.2.2.1.toInt ≤ 4) ∧ (u.2.2.1.toInt ≤ 4 * u.1.toInt - 4 * u.2.1.toInt) ∧ (AGN u.2.2.1.toInt u.2.2.2.1.toInt u.2.1.toInt u.1.toInt) ∧ ((r = (-1)) ∨ (0 ≤ r.toInt ∧ r.toInt ≤ 10))) (fun u => QW D cI cJ A ((fun (u : Int32 × Int32 × Int32 × Int32 × Int32 × Int32 × (Nat → Int32)) => (MW cI cJ M mr (upd (upd (upd (upd (upd (upd mi 22 u.1) 23 u.2.1) 24 u.2.2.1) 25 u.2.2.2.1) 38 u.2.2.2.2.1) 39 u.2.2.2.2.2.1) (va_up mf 45 u.2.2.2.2.2.2) mg)) u)) A) ([.ref M] : List Value).toArray s 0 0 A) (F0 m 2 ls []) := by
    intro k
    induction k with
    | zero =>
      intro x_6 x_7 x_8 x_9 x_10 x_11 x_12 g_13 _ _ _ hinv hm
      obtain ⟨hi_13_0, hi_13_1, hi_13_2, hi_13_3, hi_13_4, hi_13_5, hi_13_6, hi_13_7, hi_13_8⟩ := hinv
      exact absurd hm (by omega)
    | succ k ih_14 =>
      intro x_6 x_7 x_8 x_9 x_10 x_11 x_12 g_13 H locs ls hinv hm hw15 hl16
      obtain ⟨hi_13_0, hi_13_1, hi_13_2, hi_13_3, hi_13_4, hi_13_5, hi_13_6, hi_13_7, hi_13_8⟩ := hinv
      refine lv_aload_n (pc := 2) E.1 E.2.1 dX12_readNeeds_2 rfl (lv_at hl16 1 rfl) ?_
      refine lv_bipush (pc := 3) (v := 20) E.1 E.2.1 dX12_readNeeds_3 (by decide +kernel) ?_
      refine cm_i (pc := 5) hw15 (rn_M (As := [.int 20]) (rest := []) E hw15 (s_isWord2 l D cI cJ _ M mr (upd (upd (upd (upd (upd (upd mi 22 x_7) 23 x_8) 24 x_9) 25 x_10) 38 x_11) 39 x_12) (va_up mf 45 g_13) mg 20) (gdV q_1694 q_1696 q_59 q_162 q_1697) hdV_X12_isWord ⟨rfl, rfl⟩ ⟨(Nat.le_of_ble_eq_true rfl), (Nat.le_of_ble_eq_true rfl)⟩ ⟨(Nat.le_of_ble_eq_true rfl), (Nat.le_of_ble_eq_true rfl)⟩ 12 rfl rfl rfl rfl hl16.1 rfl (Nat.le_of_ble_eq_true rfl) dX12_readNeeds_5) (fun r_18 u_17 H1 locs hp hw19 => ?_)
      generalize H1 = H at hw19 ⊢
      have hw20 : WD D A s.heap (MW cI cJ M mr (upd (upd (upd (upd (upd (upd mi 22 x_7) 23 x_8) 24 x_9) 25 x_10) 38 x_11) 39 x_12) (va_up mf 45 g_13) mg) H locs := hw19
      have hp_21 := hp
      rcases hp_21 with ⟨rfl, ha_22, ha_23⟩ | rfl
      · skip
        have ha_22 : x_9.toInt = 2 := ha_22
        have ha_23 : x_10.toInt = (20 : Int32).toInt := ha_23
        rw [show (20 : Int32).toInt = 20 from by decide +kernel] at ha_23
        refine lv_if_eq (pc := 8) (tgt := 50) E.1 E.2.1 dX12_readNeeds_8 (by decide) (fun c_24 => absurd c_24 (mneE (a := 1) (b := 0) (by decide +kernel) (by decide +kernel) (by decide +kernel))) (fun _ => ?_)
        refine lv_iload_n (pc := 11) E.1 E.2.1 dX12_readNeeds_11 rfl (lv_at hl16 0 rfl) ?_
        refine lv_bipush (pc := 12) (v := 10) E.1 E.2.1 dX12_readNeeds_12 (by decide +kernel) ?_
        refine lv_icmp_ne (pc := 14) (tgt := 23) E.1 E.2.1 dX12_readNeeds_14 (by decide) (fun c_25 => ?_) (fun c_25 => ?_)
        · skip
          have hc_25 := neE (a := x_6.toInt) (b := 10) rfl (by decide +kernel) c_25
          refine lv_aload_n (pc := 23) E.1 E.2.1 dX12_readNeeds_23 rfl (lv_at hl16 1 rfl) ?_
          refine cm_v (pc := 24) hw20 (rn_M (As := []) (rest := []) E hw20 (s_reads2 l D cI cJ _ M mr (upd (upd (upd (upd (upd (upd mi 22 x_7) 23 x_8) 24 x_9) 25 x_10) 38 x_11) 39 x_12) (va_up mf 45 g_13) mg (ax73r33d_16 hi_13_1 hi_13_0) hi_13_2 h3 h7 (show (∀ j : Nat, j < 154 → (mf 26) j = w0 j) from lf_words)) (gdV q_1666 q_1668 q_52 q_162 q_1669) hdV_X12_reads ⟨rfl, rfl⟩ ⟨(Nat.le_of_ble_eq_true rfl), (Nat.le_of_ble_eq_true rfl)⟩ ⟨(Nat.le_of_ble_eq_true rfl), (Nat.le_of_ble_eq_true rfl)⟩ 12 rfl rfl rfl rfl hl16.1 rfl (Nat.le_of_ble_eq_true rfl) dX12_readNeeds_24) (fun u_26 H1 locs hp hw28 => ?_)
          obtain ⟨nspot_29, nfrom_30, ntoken_31, nvalue_32⟩ := u_26
          generalize H1 = H at hw28 ⊢
          have hw33 : WD D A s.heap (MW cI cJ M mr (upd (upd (upd (upd (upd (upd mi 22 nspot_29) 23 nfrom_30) 24 ntoken_31) 25 nvalue_32) 38 x_11) 39 x_12) (va_up mf 45 g_13) mg) H locs := hw28
          obtain ⟨hp_34, hp_35, hp_36, hp_37, hp_38, hp_39, hp_40, hp_41⟩ := hp
          have hp_34 : 0 ≤ nfrom_30.toInt := hp_34
          have hp_35 : nfrom_30.toInt ≤ nspot_29.toInt := hp_35
          have hp_36 : nspot_29.toInt ≤ (mi 21).toInt := hp_36
          have hp_37 : 0 ≤ ntoken_31.toInt := hp_37
          have hp_38 : ntoken_31.toInt ≤ 4 := hp_38
          have hp_39 : ntoken_31.toInt ≤ 4 * nspot_29.toInt - 4 * nfrom_30.toInt := hp_39
          have hp_40 : x_7.toInt ≤ nfrom_30.toInt := hp_40
          have hp_41 : AGN ntoken_31.toInt nvalue_32.toInt nfrom_30.toInt nspot_29.toInt := hp_41
          refine lv_aload_n (pc := 27) E.1 E.2.1 dX12_readNeeds_27 rfl (lv_at hl16 1 rfl) ?_
          refine lv_bipush (pc := 28) (v := 50) E.1 E.2.1 dX12_readNeeds_28 (by decide +kernel) ?_
          refine lv_iconst (pc := 30) (v := 5) E.1 E.2.1 dX12_readNeeds_30 (by decide +kernel) ?_
          refine lv_iload_n (pc := 31) E.1 E.2.1 dX12_readNeeds_31 rfl (lv_at hl16 0 rfl) ?_
          refine lv_imul (pc := 32) E.1 E.2.1 dX12_readNeeds_32 ?_
          refine lv_topi (fun v_42 ev_42 => ?_)
          have hv_42 : v_42.toInt = 5 * x_6.toInt := by rw [ev_42]; exact mulE (by decide +kernel) rfl (ax73r33d_17 hi_13_6 hi_13_7)
          refine lv_iadd (pc := 33) E.1 E.2.1 dX12_readNeeds_33 ?_
          refine lv_topi (fun v_43 ev_43 => ?_)
          have hv_43 : v_43.toInt = 50 + v_42.toInt := by rw [ev_43]; exact addE (by decide +kernel) rfl (ax73r33d_18 hv_42 hi_13_6 hi_13_7)
          refine cm_i (pc := 34) hw33 (rn_M (As := [.int v_43]) (rest := []) E hw33 (s_readNeed l D cI cJ _ M mr (upd (upd (upd (upd (upd (upd mi 22 nspot_29) 23 nfrom_30) 24 ntoken_31) 25 nvalue_32) 38 x_11) 39 x_12) (va_up mf 45 g_13) mg v_43 hp_34 hp_35 hp_36 h3 hp_37 hp_38 hp_39 h7 h8 (by show 50 ≤ v_43.toInt ∧ v_43.toInt ≤ 95; omega) (show (∀ j : Nat, j < 154 → (mf 26) j = w0 j) from lf_words) (show AGN ntoken_31.toInt nvalue_32.toInt nfrom_30.toInt nspot_29.toInt from hp_41)) (gdV q_1726 q_1728 q_67 q_162 q_1729) hdV_X12_readNeed ⟨rfl, rfl⟩ ⟨(Nat.le_of_ble_eq_true rfl), (Nat.le_of_ble_eq_true rfl)⟩ ⟨(Nat.le_of_ble_eq_true rfl), (Nat.le_of_ble_eq_true rfl)⟩ 12 rfl rfl rfl rfl hl16.1 rfl (Nat.le_of_ble_eq_true rfl) dX12_readNeeds_34) (fun r_45 u_44 H1 locs hp hw46 => ?_)
          obtain ⟨nspot_47, nfrom_48, ntoken_49, nvalue_50, nreadFault_51, nreadPlace_52, gneeds_53⟩ := u_44
          generalize H1 = H at hw46 ⊢
          have hw54 : WD D A s.heap (MW cI cJ M mr (upd (upd (upd (upd (upd (upd mi 22 nspot_47) 23 nfrom_48) 24 ntoken_49) 25 nvalue_50) 38 nreadFault_51) 39 nreadPlace_52) (va_up mf 45 gneeds_53) mg) H locs := hw46
          obtain ⟨hp_55, hp_56, hp_57, hp_58, hp_59, hp_60, hp_61, hp_62⟩ := hp
          have hp_55 : 0 ≤ nfrom_48.toInt := hp_55
          have hp_56 : nfrom_48.toInt ≤ nspot_47.toInt := hp_56
          have hp_57 : nspot_47.toInt ≤ (mi 21).toInt := hp_57
          have hp_58 : 0 ≤ ntoken_49.toInt := hp_58
          have hp_59 : ntoken_49.toInt ≤ 4 := hp_59
          have hp_60 : ntoken_49.toInt ≤ 4 * nspot_47.toInt - 4 * nfrom_48.toInt := hp_60
          have hp_61 : AGN ntoken_49.toInt nvalue_50.toInt nfrom_48.toInt nspot_47.toInt := hp_61
          rcases hp_62 with rfl | ⟨rfl, ha_63⟩
          · skip
            refine lv_iconst (pc := 37) (v := (-1)) E.1 E.2.1 dX12_readNeeds_37 (by decide +kernel) ?_
            refine lv_icmp_ne (pc := 38) (tgt := 43) E.1 E.2.1 dX12_readNeeds_38 (by decide) (fun c_64 => absurd (meqE (a := (-1)) (b := (-1)) (by decide +kernel) (by decide +kernel) (by decide +kernel)) c_64) (fun _ => ?_)
            refine lv_iconst (pc := 41) (v := (-1)) E.1 E.2.1 dX12_readNeeds_41 (by decide +kernel) ?_
            exact em_i (w1 := (fun (u : Int32 × Int32 × Int32 × Int32 × Int32 × Int32 × (Nat → Int32)) => (MW cI cJ M mr (upd (upd (upd (upd (upd (upd mi 22 u.1) 23 u.2.1) 24 u.2.2.1) 25 u.2.2.2.1) 38 u.2.2.2.2.1) 39 u.2.2.2.2.2.1) (va_up mf 45 u.2.2.2.2.2.2) mg))) E hr hlk (nspot_47, nfrom_48, ntoken_49, nvalue_50, nreadFault_51, nreadPlace_52, gneeds_53) hw54 ⟨hp_55, hp_56, hp_57, hp_58, hp_59, hp_60, hp_61, (Or.inl rfl)⟩ (Nat.le_of_ble_eq_true rfl) (Nat.le_of_ble_eq_true rfl) dX12_readNeeds_42
          · skip
            have ha_63 : nfrom_30.toInt + 1 ≤ nfrom_48.toInt := ha_63
            refine lv_iconst (pc := 37) (v := (-1)) E.1 E.2.1 dX12_readNeeds_37 (by decide +kernel) ?_
            refine lv_icmp_ne (pc := 38) (tgt := 43) E.1 E.2.1 dX12_readNeeds_38 (by decide) (fun _ => ?_) (fun c_65 => absurd c_65 (mneE (a := 0) (b := (-1)) (by decide +kernel) (by decide +kernel) (by decide +kernel)))
            refine lv_iload_n (pc := 43) E.1 E.2.1 dX12_readNeeds_43 rfl (lv_at hl16 0 rfl) ?_
            refine lv_iconst (pc := 44) (v := 1) E.1 E.2.1 dX12_readNeeds_44 (by decide +kernel) ?_
            refine lv_iadd (pc := 45) E.1 E.2.1 dX12_readNeeds_45 ?_
            refine lv_topi (fun v_66 ev_66 => ?_)
            have hv_66 : v_66.toInt = x_6.toInt + 1 := by rw [ev_66]; exact addE rfl (by decide +kernel) (ax73r33d_19 hi_13_6 hi_13_7)
            refine lv_istore_n (pc := 46) (lv' := [(1, .int v_66), (0, .ref M)]) E.1 E.2.1 dX12_readNeeds_46 rfl hl16 (by decide) rfl (fun ls hl67 => ?_)
            refine lv_goto (pc := 47) (tgt := 2) E.1 E.2.1 dX12_readNeeds_47 (by decide) ?_
            exact ih_14 v_66 nspot_47 nfrom_48 ntoken_49 nvalue_50 nreadFault_51 nreadPlace_52 gneeds_53 _ _ _ ⟨hp_55, hp_56, hp_57, hp_58, hp_59, hp_60, (ax73r33d_20 hv_66 hi_13_6), (by show v_66.toInt ≤ 10; omega), (show AGN ntoken_49.toInt nvalue_50.toInt nfrom_48.toInt nspot_47.toInt from hp_61)⟩ (by omega) hw54 (lv_sub hl67 [0, 1] rfl)
        · skip
          have hc_25 := eqE (a := x_6.toInt) (b := 10) rfl (by decide +kernel) c_25
          refine lv_aload_n (pc := 17) E.1 E.2.1 dX12_readNeeds_17 rfl (lv_at hl16 1 rfl) ?_
          refine lv_iconst (pc := 18) (v := 3) E.1 E.2.1 dX12_readNeeds_18 (by decide +kernel) ?_
          refine cm_i (pc := 19) hw20 (rn_M (As := [.int 3]) (rest := []) E hw20 (s_errs2 l D cI cJ _ M mr (upd (upd (upd (upd (upd (upd mi 22 x_7) 23 x_8) 24 x_9) 25 x_10) 38 x_11) 39 x_12) (va_up mf 45 g_13) mg 3) (gdV q_1698 q_1700 q_60 q_162 q_1701) hdV_X12_errs ⟨rfl, rfl⟩ ⟨(Nat.le_of_ble_eq_true rfl), (Nat.le_of_ble_eq_true rfl)⟩ ⟨(Nat.le_of_ble_eq_true rfl), (Nat.le_of_ble_eq_true rfl)⟩ 12 rfl rfl rfl rfl hl16.1 rfl (Nat.le_of_ble_eq_true rfl) dX12_readNeeds_19) (fun r_69 u_68 H1 locs hp hw70 => ?_)
          obtain ⟨nreadFault_71, nreadPlace_72⟩ := u_68
          generalize H1 = H at hw70 ⊢
          have hw73 : WD D A s.heap (MW cI cJ M mr (upd (upd (upd (upd (upd (upd mi 22 x_7) 23 x_8) 24 x_9) 25 x_10) 38 nreadFault_71) 39 nreadPlace_72) (va_up mf 45 g_13) mg) H locs := hw70
          have hp_74 := hp
          rcases hp_74 with rfl
          · skip
            exact em_i (w1 := (fun (u : Int32 × Int32 × Int32 × Int32 × Int32 × Int32 × (Nat → Int32)) => (MW cI cJ M mr (upd (upd (upd (upd (upd (upd mi 22 u.1) 23 u.2.1) 24 u.2.2.1) 25 u.2.2.2.1) 38 u.2.2.2.2.1) 39 u.2.2.2.2.2.1) (va_up mf 45 u.2.2.2.2.2.2) mg))) E hr hlk (x_7, x_8, x_9, x_10, nreadFault_71, nreadPlace_72, g_13) hw73 ⟨hi_13_0, hi_13_1, hi_13_2, hi_13_3, hi_13_4, hi_13_5, hi_13_8, (Or.inl rfl)⟩ (Nat.le_of_ble_eq_true rfl) (Nat.le_of_ble_eq_true rfl) dX12_readNeeds_22
      · skip
        refine lv_if_eq (pc := 8) (tgt := 50) E.1 E.2.1 dX12_readNeeds_8 (by decide) (fun _ => ?_) (fun c_75 => absurd (meqE (a := 0) (b := 0) (by decide +kernel) (by decide +kernel) (by omega)) c_75)
        refine lv_aload_n (pc := 50) E.1 E.2.1 dX12_readNeeds_50 rfl (lv_at hl16 1 rfl) ?_
        refine x_get (pc := 51) (T := TX12) (N := 70) (ci := 12) (v := .int x_9) E hw20 inX12 0 24 q_1423 rfl rfl (by decide) rfl rfl dX12_readNeeds_51 ?_
        refine lv_if_ne (pc := 54) (tgt := 61) E.1 E.2.1 dX12_readNeeds_54 (by decide) (fun c_76 => ?_) (fun c_76 => ?_)
        · skip
          have hc_76 := neE (a := x_9.toInt) (b := 0) rfl (by decide +kernel) c_76
          refine lv_aload_n (pc := 61) E.1 E.2.1 dX12_readNeeds_61 rfl (lv_at hl16 1 rfl) ?_
          refine lv_iconst (pc := 62) (v := 1) E.1 E.2.1 dX12_readNeeds_62 (by decide +kernel) ?_
          refine cm_i (pc := 63) hw20 (rn_M (As := [.int 1]) (rest := []) E hw20 (s_errs2 l D cI cJ _ M mr (upd (upd (upd (upd (upd (upd mi 22 x_7) 23 x_8) 24 x_9) 25 x_10) 38 x_11) 39 x_12) (va_up mf 45 g_13) mg 1) (gdV q_1698 q_1700 q_60 q_162 q_1701) hdV_X12_errs ⟨rfl, rfl⟩ ⟨(Nat.le_of_ble_eq_true rfl), (Nat.le_of_ble_eq_true rfl)⟩ ⟨(Nat.le_of_ble_eq_true rfl), (Nat.le_of_ble_eq_true rfl)⟩ 12 rfl rfl rfl rfl hl16.1 rfl (Nat.le_of_ble_eq_true rfl) dX12_readNeeds_63) (fun r_78 u_77 H1 locs hp hw79 => ?_)
          obtain ⟨nreadFault_80, nreadPlace_81⟩ := u_77
          generalize H1 = H at hw79 ⊢
          have hw82 : WD D A s.heap (MW cI cJ M mr (upd (upd (upd (upd (upd (upd mi 22 x_7) 23 x_8) 24 x_9) 25 x_10) 38 nreadFault_80) 39 nreadPlace_81) (va_up mf 45 g_13) mg) H locs := hw79
          have hp_83 := hp
          rcases hp_83 with rfl
          · skip
            exact em_i (w1 := (fun (u : Int32 × Int32 × Int32 × Int32 × Int32 × Int32 × (Nat → Int32)) => (MW cI cJ M mr (upd (upd (upd (upd (upd (upd mi 22 u.1) 23 u.2.1) 24 u.2.2.1) 25 u.2.2.2.1) 38 u.2.2.2.2.1) 39 u.2.2.2.2.2.1) (va_up mf 45 u.2.2.2.2.2.2) mg))) E hr hlk (x_7, x_8, x_9, x_10, nreadFault_80, nreadPlace_81, g_13) hw82 ⟨hi_13_0, hi_13_1, hi_13_2, hi_13_3, hi_13_4, hi_13_5, hi_13_8, (Or.inl rfl)⟩ (Nat.le_of_ble_eq_true rfl) (Nat.le_of_ble_eq_true rfl) dX12_readNeeds_66
        · skip
          have hc_76 := eqE (a := x_9.toInt) (b := 0) rfl (by decide +kernel) c_76
          refine lv_iload_n (pc := 57) E.1 E.2.1 dX12_readNeeds_57 rfl (lv_at hl16 0 rfl) ?_
          refine lv_goto (pc := 58) (tgt := 66) E.1 E.2.1 dX12_readNeeds_58 (by decide) ?_
          exact em_i (w1 := (fun (u : Int32 × Int32 × Int32 × Int32 × Int32 × Int32 × (Nat → Int32)) => (MW cI cJ M mr (upd (upd (upd (upd (upd (upd mi 22 u.1) 23 u.2.1) 24 u.2.2.1) 25 u.2.2.2.1) 38 u.2.2.2.2.1) 39 u.2.2.2.2.2.1) (va_up mf 45 u.2.2.2.2.2.2) mg))) E hr hlk (x_7, x_8, x_9, x_10, x_11, x_12, g_13) hw20 ⟨hi_13_0, hi_13_1, hi_13_2, hi_13_3, hi_13_4, hi_13_5, hi_13_8, (Or.inr (⟨hi_13_6, hi_13_7⟩))⟩ (Nat.le_of_ble_eq_true rfl) (Nat.le_of_ble_eq_true rfl) dX12_readNeeds_66
  exact loop_5 (Int.toNat ((mi 21).toInt - (mi 23).toInt) + 1) 0 (mi 22) (mi 23) (mi 24) (mi 25) (mi 38) (mi 39) (mf 45) _ _ _ ⟨h0, h1, h2, h4, h5, h6, (by show 0 ≤ (0 : Int32).toInt; have k_0 : (0 : Int32).toInt = 0 := (by decide +kernel); omega), (by show (0 : Int32).toInt ≤ 10; have k_0 : (0 : Int32).toInt = 0 := (by decide +kernel); omega), (show AGN ((mi 24).toInt) ((mi 25).toInt) ((mi 23).toInt) ((mi 22).toInt) from lf_again)⟩ (by have k_0 : (0 : Int32).toInt = 0 := (by decide +kernel); omega) hw1 (lv_sub hl4 [0, 1] rfl)

set_option maxHeartbeats 4000000 in
set_option maxRecDepth 100000 in
theorem s_emitsStep (l : Launch) (D : va_G) (cI cJ : ClassId) (sz M : Nat) (mr : Nat → Nat) (mi : Nat → Int32) (mf : Nat → Nat → Int32) (mg : Nat → Nat → Int64) (z_what : Int32) (z_how : Int32) (h0 : 0 ≤ (mi 48).toInt ∧ (mi 48).toInt ≤ 139) : Met l yX12_emitsStep (Cond.code yX12_emitsStep cX12_emitsStep 3 none :: GW) ({ frames := 1, cells := 0, slots := 0, locals := 40 } : Room) (va_Pc [.ref M, .int z_what, .int z_how] (PW D cI cJ sz (MW cI cJ M mr mi mf mg) xT)) (va_Qv (fun (u : (Nat → Int32) × (Nat → Int32) × Int32) => (u.2.2.toInt = (mi 48).toInt + 1) ∧ (EM (mf 46) (mf 47) u.1 u.2.1 (((mi 48).toInt).toNat) z_what z_how)) (fun u => QW D cI cJ (va_A (MW cI cJ M mr mi mf mg) sz) ((fun (u : (Nat → Int32) × (Nat → Int32) × Int32) => (MW cI cJ M mr (upd mi 48 u.2.2) (va_up (va_up mf 46 u.1) 47 u.2.1) mg)) u)) (va_A (MW cI cJ M mr mi mf mg) sz)) 0 0 (va_A (MW cI cJ M mr mi mf mg) sz) := by
  refine mk_met (y := yX12_emitsStep) (bytes := cX12_emitsStep) (maxL := 3) (avs := [.ref M, .int z_what, .int z_how]) (WS := (MW cI cJ M mr mi mf mg)) (Qf := fun A => va_Qv (fun (u : (Nat → Int32) × (Nat → Int32) × Int32) => (u.2.2.toInt = (mi 48).toInt + 1) ∧ (EM (mf 46) (mf 47) u.1 u.2.1 (((mi 48).toInt).toNat) z_what z_how)) (fun u => QW D cI cJ A ((fun (u : (Nat → Int32) × (Nat → Int32) × Int32) => (MW cI cJ M mr (upd mi 48 u.2.2) (va_up (va_up mf 46 u.1) 47 u.2.1) mg)) u)) A) (by decide) (Nat.le_of_ble_eq_true rfl) ?_
  intro p e s m below meth c A ls E hr hlk hnm hX hw1 hl2
  have hl3 : lv_has ls 3 [(0, .ref M), (1, .int z_what), (2, .int z_how)] := hl2
  refine lv_aload_n (pc := 0) E.1 E.2.1 dX12_emitsStep_0 rfl (lv_at hl3 0 rfl) ?_
  refine x_get (pc := 1) (T := TX12) (N := 70) (ci := 12) (v := .ref (mr 46)) E hw1 inX12 0 46 q_1445 rfl rfl (by decide) rfl rfl dX12_emitsStep_1 ?_
  refine lv_aload_n (pc := 4) E.1 E.2.1 dX12_emitsStep_4 rfl (lv_at hl3 0 rfl) ?_
  refine x_get (pc := 5) (T := TX12) (N := 70) (ci := 12) (v := .int (mi 48)) E hw1 inX12 0 48 q_1447 rfl rfl (by decide) rfl rfl dX12_emitsStep_5 ?_
  refine lv_iload_n (pc := 8) E.1 E.2.1 dX12_emitsStep_8 rfl (lv_at hl3 1 rfl) ?_
  refine x_iastG (pc := 9) (f := (mf 46)) (wf := fun g => (MW cI cJ M mr mi (va_up mf 46 g) mg)) E hw1 23 rfl (inbE (a := (mi 48).toInt) rfl (by omega)) (fun _ => rfl) dX12_emitsStep_9 (fun g_4 H locs eg_4 hw5 => ?_)
  refine lv_aload_n (pc := 10) E.1 E.2.1 dX12_emitsStep_10 rfl (lv_at hl3 0 rfl) ?_
  refine x_get (pc := 11) (T := TX12) (N := 70) (ci := 12) (v := .ref (mr 47)) E hw5 inX12 0 47 q_1446 rfl rfl (by decide) rfl rfl dX12_emitsStep_11 ?_
  refine lv_aload_n (pc := 14) E.1 E.2.1 dX12_emitsStep_14 rfl (lv_at hl3 0 rfl) ?_
  refine x_get (pc := 15) (T := TX12) (N := 70) (ci := 12) (v := .int (mi 48)) E hw5 inX12 0 48 q_1447 rfl rfl (by decide) rfl rfl dX12_emitsStep_15 ?_
  refine lv_iload_n (pc := 18) E.1 E.2.1 dX12_emitsStep_18 rfl (lv_at hl3 2 rfl) ?_
  refine x_iastG (pc := 19) (f := (mf 47)) (wf := fun g => (MW cI cJ M mr mi (va_up (va_up mf 46 g_4) 47 g) mg)) E hw5 24 rfl (inbE (a := (mi 48).toInt) rfl (by omega)) (fun _ => rfl) dX12_emitsStep_19 (fun g_6 H locs eg_6 hw7 => ?_)
  refine lv_aload_n (pc := 20) E.1 E.2.1 dX12_emitsStep_20 rfl (lv_at hl3 0 rfl) ?_
  refine lv_aload_n (pc := 21) E.1 E.2.1 dX12_emitsStep_21 rfl (lv_at hl3 0 rfl) ?_
  refine x_get (pc := 22) (T := TX12) (N := 70) (ci := 12) (v := .int (mi 48)) E hw7 inX12 0 48 q_1447 rfl rfl (by decide) rfl rfl dX12_emitsStep_22 ?_
  refine lv_iconst (pc := 25) (v := 1) E.1 E.2.1 dX12_emitsStep_25 (by decide +kernel) ?_
  refine lv_iadd (pc := 26) E.1 E.2.1 dX12_emitsStep_26 ?_
  refine lv_topi (fun v_8 ev_8 => ?_)
  have hv_8 : v_8.toInt = (mi 48).toInt + 1 := by rw [ev_8]; exact addE rfl (by decide +kernel) (by omega)
  refine x_put (pc := 27) (T := TX12) (N := 70) (ci := 12) (ws' := (MW cI cJ M mr (upd mi 48 v_8) (va_up (va_up mf 46 g_4) 47 g_6) mg)) E hw7 inX12 tyX12_ok nmX12 0 48 q_1447 rfl rfl (by decide) rfl rfl rfl rfl (Nat.le_of_ble_eq_true rfl) rfl dX12_emitsStep_27 (fun H locs hw9 => ?_)
  exact em_v (w1 := (fun (u : (Nat → Int32) × (Nat → Int32) × Int32) => (MW cI cJ M mr (upd mi 48 u.2.2) (va_up (va_up mf 46 u.1) 47 u.2.1) mg))) E hr hlk (g_4, g_6, v_8) hw9 ⟨(by show v_8.toInt = (mi 48).toInt + 1; omega), (show EM (mf 46) (mf 47) g_4 g_6 (((mi 48).toInt).toNat) z_what z_how from (EM_of eg_4 eg_6 (by omega) (by omega)))⟩ (Nat.le_of_ble_eq_true rfl) (Nat.le_of_ble_eq_true rfl) dX12_emitsStep_30

set_option maxHeartbeats 4000000 in
set_option maxRecDepth 100000 in
theorem s_readStep (l : Launch) (D : va_G) (cI cJ : ClassId) (sz M : Nat) (mr : Nat → Nat) (mi : Nat → Int32) (mf : Nat → Nat → Int32) (mg : Nat → Nat → Int64)  (h0 : 0 ≤ (mi 23).toInt) (h1 : (mi 23).toInt ≤ (mi 22).toInt) (h2 : (mi 22).toInt ≤ (mi 21).toInt) (h3 : (mi 21).toInt ≤ 400) (h4 : 0 ≤ (mi 24).toInt) (h5 : (mi 24).toInt ≤ 4) (h6 : (mi 24).toInt ≤ 4 * (mi 22).toInt - 4 * (mi 23).toInt) (h7 : ((mf 26) 153).toInt = 32) (h8 : 0 ≤ (mi 6).toInt ∧ (mi 6).toInt ≤ 10) (h9 : 0 ≤ (mi 48).toInt) (h10 : 3 * (mi 48).toInt ≤ (mi 23).toInt) (h11 : (mi 24).toInt = 2) (lf_words : (∀ j : Nat, j < 154 → (mf 26) j = w0 j)) (lf_again : AGN ((mi 24).toInt) ((mi 25).toInt) ((mi 23).toInt) ((mi 22).toInt)) : Met l yX12_readStep (Cond.code yX12_readStep cX12_readStep 3 (some .int) :: GW) ({ frames := 5, cells := 0, slots := 0, locals := 128 } : Room) (va_Pc [.ref M] (PW D cI cJ sz (MW cI cJ M mr mi mf mg) xT)) (va_Qi (fun (r : Int32) (u : Int32 × Int32 × Int32 × Int32 × Int32 × Int32 × (Nat → Int32) × (Nat → Int32) × Int32) => (0 ≤ u.2.1.toInt) ∧ (u.2.1.toInt ≤ u.1.toInt) ∧ (u.1.toInt ≤ (mi 21).toInt) ∧ (0 ≤ u.2.2.1.toInt) ∧ (u.2.2.1.toInt ≤ 4) ∧ (u.2.2.1.toInt ≤ 4 * u.1.toInt - 4 * u.2.1.toInt) ∧ (AGN u.2.2.1.toInt u.2.2.2.1.toInt u.2.1.toInt u.1.toInt) ∧ (r = 0 → (∀ t : Nat, RSP (mf 46) (mf 47) (mi 6).toInt (((mi 48).toInt).toNat) t → RSP u.2.2.2.2.2.2.1 u.2.2.2.2.2.2.2.1 (mi 6).toInt ((u.2.2.2.2.2.2.2.2.toInt).toNat) t)) ∧ ((r = (-1)) ∨ (r = 0 ∧ (mi 23).toInt + 3 ≤ u.2.1.toInt ∧ u.2.2.2.2.2.2.2.2.toInt = (mi 48).toInt + 1))) (fun u => QW D cI cJ (va_A (MW cI cJ M mr mi mf mg) sz) ((fun (u : Int32 × Int32 × Int32 × Int32 × Int32 × Int32 × (Nat → Int32) × (Nat → Int32) × Int32) => (MW cI cJ M mr (upd (upd (upd (upd (upd (upd (upd mi 22 u.1) 23 u.2.1) 24 u.2.2.1) 25 u.2.2.2.1) 38 u.2.2.2.2.1) 39 u.2.2.2.2.2.1) 48 u.2.2.2.2.2.2.2.2) (va_up (va_up mf 46 u.2.2.2.2.2.2.1) 47 u.2.2.2.2.2.2.2.1) mg)) u)) (va_A (MW cI cJ M mr mi mf mg) sz)) 0 0 (va_A (MW cI cJ M mr mi mf mg) sz) := by
  refine mk_met (y := yX12_readStep) (bytes := cX12_readStep) (maxL := 3) (avs := [.ref M]) (WS := (MW cI cJ M mr mi mf mg)) (Qf := fun A => va_Qi (fun (r : Int32) (u : Int32 × Int32 × Int32 × Int32 × Int32 × Int32 × (Nat → Int32) × (Nat → Int32) × Int32) => (0 ≤ u.2.1.toInt) ∧ (u.2.1.toInt ≤ u.1.toInt) ∧ (u.1.toInt ≤ (mi 21).toInt) ∧ (0 ≤ u.2.2.1.toInt) ∧ (u.2.2.1.toInt ≤ 4) ∧ (u.2.2.1.toInt ≤ 4 * u.1.toInt - 4 * u.2.1.toInt) ∧ (AGN u.2.2.1.toInt u.2.2.2.1.toInt u.2.1.toInt u.1.toInt) ∧ (r = 0 → (∀ t : Nat, RSP (mf 46) (mf 47) (mi 6).toInt (((mi 48).toInt).toNat) t → RSP u.2.2.2.2.2.2.1 u.2.2.2.2.2.2.2.1 (mi 6).toInt ((u.2.2.2.2.2.2.2.2.toInt).toNat) t)) ∧ ((r = (-1)) ∨ (r = 0 ∧ (mi 23).toInt + 3 ≤ u.2.1.toInt ∧ u.2.2.2.2.2.2.2.2.toInt = (mi 48).toInt + 1))) (fun u => QW D cI cJ A ((fun (u : Int32 × Int32 × Int32 × Int32 × Int32 × Int32 × (Nat → Int32) × (Nat → Int32) × Int32) => (MW cI cJ M mr (upd (upd (upd (upd (upd (upd (upd mi 22 u.1) 23 u.2.1) 24 u.2.2.1) 25 u.2.2.2.1) 38 u.2.2.2.2.1) 39 u.2.2.2.2.2.1) 48 u.2.2.2.2.2.2.2.2) (va_up (va_up mf 46 u.2.2.2.2.2.2.1) 47 u.2.2.2.2.2.2.2.1) mg)) u)) A) (by decide) (Nat.le_of_ble_eq_true rfl) ?_
  intro p e s m below meth c A ls E hr hlk hnm hX hw1 hl2
  have hl3 : lv_has ls 3 [(0, .ref M)] := hl2
  refine lv_aload_n (pc := 0) E.1 E.2.1 dX12_readStep_0 rfl (lv_at hl3 0 rfl) ?_
  refine lv_bipush (pc := 1) (v := 28) E.1 E.2.1 dX12_readStep_1 (by decide +kernel) ?_
  refine cm_i (pc := 3) hw1 (rn_M (As := [.int 28]) (rest := []) E hw1 (s_isWord2 l D cI cJ _ M mr mi mf mg 28) (gdV q_1694 q_1696 q_59 q_162 q_1697) hdV_X12_isWord ⟨rfl, rfl⟩ ⟨(Nat.le_of_ble_eq_true rfl), (Nat.le_of_ble_eq_true rfl)⟩ ⟨(Nat.le_of_ble_eq_true rfl), (Nat.le_of_ble_eq_true rfl)⟩ 12 rfl rfl rfl rfl hl3.1 rfl (Nat.le_of_ble_eq_true rfl) dX12_readStep_3) (fun r_5 u_4 H1 locs hp hw6 => ?_)
  generalize H1 = H at hw6 ⊢
  have hw7 : WD D A s.heap (MW cI cJ M mr mi mf mg) H locs := hw6
  have hp_8 := hp
  rcases hp_8 with ⟨rfl, ha_9, ha_10⟩ | rfl
  · skip
    have ha_9 : (mi 24).toInt = 2 := ha_9
    have ha_10 : (mi 25).toInt = (28 : Int32).toInt := ha_10
    rw [show (28 : Int32).toInt = 28 from by decide +kernel] at ha_10
    refine lv_istore_n (pc := 6) (lv' := [(1, .int 1), (0, .ref M)]) E.1 E.2.1 dX12_readStep_6 rfl hl3 (by decide) rfl (fun ls hl11 => ?_)
    refine lv_aload_n (pc := 7) E.1 E.2.1 dX12_readStep_7 rfl (lv_at hl11 1 rfl) ?_
    refine cm_v (pc := 8) hw7 (rn_M (As := []) (rest := []) E hw7 (s_reads2 l D cI cJ _ M mr mi mf mg (by show 0 ≤ (mi 22).toInt; omega) h2 h3 h7 (show (∀ j : Nat, j < 154 → (mf 26) j = w0 j) from lf_words)) (gdV q_1666 q_1668 q_52 q_162 q_1669) hdV_X12_reads ⟨rfl, rfl⟩ ⟨(Nat.le_of_ble_eq_true rfl), (Nat.le_of_ble_eq_true rfl)⟩ ⟨(Nat.le_of_ble_eq_true rfl), (Nat.le_of_ble_eq_true rfl)⟩ 12 rfl rfl rfl rfl hl11.1 rfl (Nat.le_of_ble_eq_true rfl) dX12_readStep_8) (fun u_12 H1 locs hp hw14 => ?_)
    obtain ⟨nspot_15, nfrom_16, ntoken_17, nvalue_18⟩ := u_12
    generalize H1 = H at hw14 ⊢
    have hw19 : WD D A s.heap (MW cI cJ M mr (upd (upd (upd (upd mi 22 nspot_15) 23 nfrom_16) 24 ntoken_17) 25 nvalue_18) mf mg) H locs := hw14
    obtain ⟨hp_20, hp_21, hp_22, hp_23, hp_24, hp_25, hp_26, hp_27⟩ := hp
    have hp_20 : 0 ≤ nfrom_16.toInt := hp_20
    have hp_21 : nfrom_16.toInt ≤ nspot_15.toInt := hp_21
    have hp_22 : nspot_15.toInt ≤ (mi 21).toInt := hp_22
    have hp_23 : 0 ≤ ntoken_17.toInt := hp_23
    have hp_24 : ntoken_17.toInt ≤ 4 := hp_24
    have hp_25 : ntoken_17.toInt ≤ 4 * nspot_15.toInt - 4 * nfrom_16.toInt := hp_25
    have hp_26 : (mi 22).toInt ≤ nfrom_16.toInt := hp_26
    have hp_27 : AGN ntoken_17.toInt nvalue_18.toInt nfrom_16.toInt nspot_15.toInt := hp_27
    refine lv_iload_n (pc := 11) E.1 E.2.1 dX12_readStep_11 rfl (lv_at hl11 0 rfl) ?_
    refine lv_if_eq (pc := 12) (tgt := 29) E.1 E.2.1 dX12_readStep_12 (by decide) (fun c_28 => absurd c_28 (mneE (a := 1) (b := 0) (by decide +kernel) (by decide +kernel) (by decide +kernel))) (fun _ => ?_)
    refine lv_aload_n (pc := 15) E.1 E.2.1 dX12_readStep_15 rfl (lv_at hl11 1 rfl) ?_
    refine lv_iconst (pc := 16) (v := 0) E.1 E.2.1 dX12_readStep_16 (by decide +kernel) ?_
    refine lv_aload_n (pc := 17) E.1 E.2.1 dX12_readStep_17 rfl (lv_at hl11 1 rfl) ?_
    refine x_get (pc := 18) (T := TX12) (N := 70) (ci := 12) (v := .int (mi 6)) E hw19 inX12 0 6 q_1405 rfl rfl (by decide) rfl rfl dX12_readStep_18 ?_
    refine lv_iconst (pc := 21) (v := 1) E.1 E.2.1 dX12_readStep_21 (by decide +kernel) ?_
    refine lv_isub (pc := 22) E.1 E.2.1 dX12_readStep_22 ?_
    refine lv_topi (fun v_29 ev_29 => ?_)
    have hv_29 : v_29.toInt = (mi 6).toInt - 1 := by rw [ev_29]; exact subE rfl (by decide +kernel) (ax73r33d_1 h8)
    refine cm_i (pc := 23) hw19 (rn_M (As := [.int 0, .int v_29]) (rest := []) E hw19 (s_readNumber l D cI cJ _ M mr (upd (upd (upd (upd mi 22 nspot_15) 23 nfrom_16) 24 ntoken_17) 25 nvalue_18) mf mg 0 v_29 hp_20 hp_21 hp_22 h3 hp_23 hp_24 hp_25 h7 (show (∀ j : Nat, j < 154 → (mf 26) j = w0 j) from lf_words) (show AGN ntoken_17.toInt nvalue_18.toInt nfrom_16.toInt nspot_15.toInt from hp_27)) (gdV q_1706 q_1708 q_62 q_162 q_1709) hdV_X12_readNumber ⟨rfl, rfl⟩ ⟨(Nat.le_of_ble_eq_true rfl), (Nat.le_of_ble_eq_true rfl)⟩ ⟨(Nat.le_of_ble_eq_true rfl), (Nat.le_of_ble_eq_true rfl)⟩ 12 rfl rfl rfl rfl hl11.1 rfl (Nat.le_of_ble_eq_true rfl) dX12_readStep_23) (fun r_31 u_30 H1 locs hp hw32 => ?_)
    obtain ⟨nspot_33, nfrom_34, ntoken_35, nvalue_36, nreadFault_37, nreadPlace_38⟩ := u_30
    generalize H1 = H at hw32 ⊢
    have hw39 : WD D A s.heap (MW cI cJ M mr (upd (upd (upd (upd (upd (upd mi 22 nspot_33) 23 nfrom_34) 24 ntoken_35) 25 nvalue_36) 38 nreadFault_37) 39 nreadPlace_38) mf mg) H locs := hw32
    obtain ⟨hp_40, hp_41, hp_42, hp_43, hp_44, hp_45, hp_46, hp_47⟩ := hp
    have hp_40 : 0 ≤ nfrom_34.toInt := hp_40
    have hp_41 : nfrom_34.toInt ≤ nspot_33.toInt := hp_41
    have hp_42 : nspot_33.toInt ≤ (mi 21).toInt := hp_42
    have hp_43 : 0 ≤ ntoken_35.toInt := hp_43
    have hp_44 : ntoken_35.toInt ≤ 4 := hp_44
    have hp_45 : ntoken_35.toInt ≤ 4 * nspot_33.toInt - 4 * nfrom_34.toInt := hp_45
    have hp_46 : AGN ntoken_35.toInt nvalue_36.toInt nfrom_34.toInt nspot_33.toInt := hp_46
    rcases hp_47 with rfl | ⟨ha_48, ha_49, ha_50⟩
    · skip
      refine lv_goto (pc := 26) (tgt := 36) E.1 E.2.1 dX12_readStep_26 (by decide) ?_
      refine lv_istore_n (pc := 36) (lv' := [(2, .int (-1)), (1, .int 1), (0, .ref M)]) E.1 E.2.1 dX12_readStep_36 rfl hl11 (by decide) rfl (fun ls hl51 => ?_)
      refine lv_iload_n (pc := 37) E.1 E.2.1 dX12_readStep_37 rfl (lv_at hl51 0 rfl) ?_
      refine lv_iconst (pc := 38) (v := (-1)) E.1 E.2.1 dX12_readStep_38 (by decide +kernel) ?_
      refine lv_icmp_eq (pc := 39) (tgt := 52) E.1 E.2.1 dX12_readStep_39 (by decide) (fun _ => ?_) (fun c_52 => absurd (meqE (a := (-1)) (b := (-1)) (by decide +kernel) (by decide +kernel) (by decide +kernel)) c_52)
      refine lv_iconst (pc := 52) (v := (-1)) E.1 E.2.1 dX12_readStep_52 (by decide +kernel) ?_
      exact em_i (w1 := (fun (u : Int32 × Int32 × Int32 × Int32 × Int32 × Int32 × (Nat → Int32) × (Nat → Int32) × Int32) => (MW cI cJ M mr (upd (upd (upd (upd (upd (upd (upd mi 22 u.1) 23 u.2.1) 24 u.2.2.1) 25 u.2.2.2.1) 38 u.2.2.2.2.1) 39 u.2.2.2.2.2.1) 48 u.2.2.2.2.2.2.2.2) (va_up (va_up mf 46 u.2.2.2.2.2.2.1) 47 u.2.2.2.2.2.2.2.1) mg))) E hr hlk (nspot_33, nfrom_34, ntoken_35, nvalue_36, nreadFault_37, nreadPlace_38, (mf 46), (mf 47), (mi 48)) hw39 ⟨hp_40, hp_41, hp_42, hp_43, hp_44, hp_45, hp_46, (fun h => absurd h (by decide +kernel)), (Or.inl rfl)⟩ (Nat.le_of_ble_eq_true rfl) (Nat.le_of_ble_eq_true rfl) dX12_readStep_53
    · skip
      have ha_48 : (0 : Int32).toInt ≤ r_31.toInt := ha_48
      rw [show (0 : Int32).toInt = 0 from by decide +kernel] at ha_48
      have ha_49 : r_31.toInt ≤ v_29.toInt := ha_49
      have ha_50 : nfrom_16.toInt + 1 ≤ nfrom_34.toInt := ha_50
      refine lv_goto (pc := 26) (tgt := 36) E.1 E.2.1 dX12_readStep_26 (by decide) ?_
      refine lv_istore_n (pc := 36) (lv' := [(2, .int r_31), (1, .int 1), (0, .ref M)]) E.1 E.2.1 dX12_readStep_36 rfl hl11 (by decide) rfl (fun ls hl53 => ?_)
      refine lv_iload_n (pc := 37) E.1 E.2.1 dX12_readStep_37 rfl (lv_at hl53 0 rfl) ?_
      refine lv_iconst (pc := 38) (v := (-1)) E.1 E.2.1 dX12_readStep_38 (by decide +kernel) ?_
      refine lv_icmp_eq (pc := 39) (tgt := 52) E.1 E.2.1 dX12_readStep_39 (by decide) (fun c_54 => absurd c_54 (mneE (a := r_31.toInt) (b := (-1)) rfl (by decide +kernel) (ax73r33d_21 ha_48))) (fun _ => ?_)
      refine lv_aload_n (pc := 42) E.1 E.2.1 dX12_readStep_42 rfl (lv_at hl53 2 rfl) ?_
      refine lv_bipush (pc := 43) (v := 59) E.1 E.2.1 dX12_readStep_43 (by decide +kernel) ?_
      refine cm_i (pc := 45) hw39 (rn_M (As := [.int 59]) (rest := []) E hw39 (s_readMark l D cI cJ _ M mr (upd (upd (upd (upd (upd (upd mi 22 nspot_33) 23 nfrom_34) 24 ntoken_35) 25 nvalue_36) 38 nreadFault_37) 39 nreadPlace_38) mf mg 59 hp_40 hp_41 hp_42 h3 hp_43 hp_44 hp_45 h7 (show (∀ j : Nat, j < 154 → (mf 26) j = w0 j) from lf_words) (show AGN ntoken_35.toInt nvalue_36.toInt nfrom_34.toInt nspot_33.toInt from hp_46)) (gdV q_1714 q_1716 q_64 q_162 q_1717) hdV_X12_readMark ⟨rfl, rfl⟩ ⟨(Nat.le_of_ble_eq_true rfl), (Nat.le_of_ble_eq_true rfl)⟩ ⟨(Nat.le_of_ble_eq_true rfl), (Nat.le_of_ble_eq_true rfl)⟩ 12 rfl rfl rfl rfl hl53.1 rfl (Nat.le_of_ble_eq_true rfl) dX12_readStep_45) (fun r_56 u_55 H1 locs hp hw57 => ?_)
      obtain ⟨nspot_58, nfrom_59, ntoken_60, nvalue_61, nreadFault_62, nreadPlace_63⟩ := u_55
      generalize H1 = H at hw57 ⊢
      have hw64 : WD D A s.heap (MW cI cJ M mr (upd (upd (upd (upd (upd (upd mi 22 nspot_58) 23 nfrom_59) 24 ntoken_60) 25 nvalue_61) 38 nreadFault_62) 39 nreadPlace_63) mf mg) H locs := hw57
      obtain ⟨hp_65, hp_66, hp_67, hp_68, hp_69, hp_70, hp_71, hp_72⟩ := hp
      have hp_65 : 0 ≤ nfrom_59.toInt := hp_65
      have hp_66 : nfrom_59.toInt ≤ nspot_58.toInt := hp_66
      have hp_67 : nspot_58.toInt ≤ (mi 21).toInt := hp_67
      have hp_68 : 0 ≤ ntoken_60.toInt := hp_68
      have hp_69 : ntoken_60.toInt ≤ 4 := hp_69
      have hp_70 : ntoken_60.toInt ≤ 4 * nspot_58.toInt - 4 * nfrom_59.toInt := hp_70
      have hp_71 : AGN ntoken_60.toInt nvalue_61.toInt nfrom_59.toInt nspot_58.toInt := hp_71
      rcases hp_72 with rfl | ⟨rfl, ha_73⟩
      · skip
        refine lv_iconst (pc := 48) (v := (-1)) E.1 E.2.1 dX12_readStep_48 (by decide +kernel) ?_
        refine lv_icmp_ne (pc := 49) (tgt := 54) E.1 E.2.1 dX12_readStep_49 (by decide) (fun c_74 => absurd (meqE (a := (-1)) (b := (-1)) (by decide +kernel) (by decide +kernel) (by decide +kernel)) c_74) (fun _ => ?_)
        refine lv_iconst (pc := 52) (v := (-1)) E.1 E.2.1 dX12_readStep_52 (by decide +kernel) ?_
        exact em_i (w1 := (fun (u : Int32 × Int32 × Int32 × Int32 × Int32 × Int32 × (Nat → Int32) × (Nat → Int32) × Int32) => (MW cI cJ M mr (upd (upd (upd (upd (upd (upd (upd mi 22 u.1) 23 u.2.1) 24 u.2.2.1) 25 u.2.2.2.1) 38 u.2.2.2.2.1) 39 u.2.2.2.2.2.1) 48 u.2.2.2.2.2.2.2.2) (va_up (va_up mf 46 u.2.2.2.2.2.2.1) 47 u.2.2.2.2.2.2.2.1) mg))) E hr hlk (nspot_58, nfrom_59, ntoken_60, nvalue_61, nreadFault_62, nreadPlace_63, (mf 46), (mf 47), (mi 48)) hw64 ⟨hp_65, hp_66, hp_67, hp_68, hp_69, hp_70, hp_71, (fun h => absurd h (by decide +kernel)), (Or.inl rfl)⟩ (Nat.le_of_ble_eq_true rfl) (Nat.le_of_ble_eq_true rfl) dX12_readStep_53
      · skip
        have ha_73 : nfrom_34.toInt + 1 ≤ nfrom_59.toInt := ha_73
        refine lv_iconst (pc := 48) (v := (-1)) E.1 E.2.1 dX12_readStep_48 (by decide +kernel) ?_
        refine lv_icmp_ne (pc := 49) (tgt := 54) E.1 E.2.1 dX12_readStep_49 (by decide) (fun _ => ?_) (fun c_75 => absurd c_75 (mneE (a := 0) (b := (-1)) (by decide +kernel) (by decide +kernel) (by decide +kernel)))
        refine lv_aload_n (pc := 54) E.1 E.2.1 dX12_readStep_54 rfl (lv_at hl53 2 rfl) ?_
        refine lv_iload_n (pc := 55) E.1 E.2.1 dX12_readStep_55 rfl (lv_at hl53 1 rfl) ?_
        refine lv_if_eq (pc := 56) (tgt := 63) E.1 E.2.1 dX12_readStep_56 (by decide) (fun c_76 => absurd c_76 (mneE (a := 1) (b := 0) (by decide +kernel) (by decide +kernel) (by decide +kernel))) (fun _ => ?_)
        refine lv_iconst (pc := 59) (v := 0) E.1 E.2.1 dX12_readStep_59 (by decide +kernel) ?_
        refine lv_goto (pc := 60) (tgt := 64) E.1 E.2.1 dX12_readStep_60 (by decide) ?_
        refine lv_iload_n (pc := 64) E.1 E.2.1 dX12_readStep_64 rfl (lv_at hl53 0 rfl) ?_
        refine cm_v (pc := 65) hw64 (rn_M (As := [.int 0, .int r_31]) (rest := []) E hw64 (s_emitsStep l D cI cJ _ M mr (upd (upd (upd (upd (upd (upd mi 22 nspot_58) 23 nfrom_59) 24 ntoken_60) 25 nvalue_61) 38 nreadFault_62) 39 nreadPlace_63) mf mg 0 r_31 (ax73r33d_22 h9 h10 h1 h2 h3)) (gdV q_1746 q_1748 q_72 q_162 q_1749) hdV_X12_emitsStep ⟨rfl, rfl⟩ ⟨(Nat.le_of_ble_eq_true rfl), (Nat.le_of_ble_eq_true rfl)⟩ ⟨(Nat.le_of_ble_eq_true rfl), (Nat.le_of_ble_eq_true rfl)⟩ 12 rfl rfl rfl rfl hl53.1 rfl (Nat.le_of_ble_eq_true rfl) dX12_readStep_65) (fun u_77 H1 locs hp hw79 => ?_)
        obtain ⟨gstepOp_80, gstepHow_81, nsteps_82⟩ := u_77
        generalize H1 = H at hw79 ⊢
        have hw83 : WD D A s.heap (MW cI cJ M mr (upd (upd (upd (upd (upd (upd (upd mi 22 nspot_58) 23 nfrom_59) 24 ntoken_60) 25 nvalue_61) 38 nreadFault_62) 39 nreadPlace_63) 48 nsteps_82) (va_up (va_up mf 46 gstepOp_80) 47 gstepHow_81) mg) H locs := hw79
        obtain ⟨hp_84, hp_85⟩ := hp
        have hp_84 : nsteps_82.toInt = (mi 48).toInt + 1 := hp_84
        have hp_85 : EM (mf 46) (mf 47) gstepOp_80 gstepHow_81 (((mi 48).toInt).toNat) (0 : Int32) r_31 := hp_85
        refine lv_iconst (pc := 68) (v := 0) E.1 E.2.1 dX12_readStep_68 (by decide +kernel) ?_
        exact em_i (w1 := (fun (u : Int32 × Int32 × Int32 × Int32 × Int32 × Int32 × (Nat → Int32) × (Nat → Int32) × Int32) => (MW cI cJ M mr (upd (upd (upd (upd (upd (upd (upd mi 22 u.1) 23 u.2.1) 24 u.2.2.1) 25 u.2.2.2.1) 38 u.2.2.2.2.1) 39 u.2.2.2.2.2.1) 48 u.2.2.2.2.2.2.2.2) (va_up (va_up mf 46 u.2.2.2.2.2.2.1) 47 u.2.2.2.2.2.2.2.1) mg))) E hr hlk (nspot_58, nfrom_59, ntoken_60, nvalue_61, nreadFault_62, nreadPlace_63, gstepOp_80, gstepHow_81, nsteps_82) hw83 ⟨hp_65, hp_66, hp_67, hp_68, hp_69, hp_70, hp_71, (fun _ => (show (∀ t : Nat, RSP (mf 46) (mf 47) (mi 6).toInt (((mi 48).toInt).toNat) t → RSP gstepOp_80 gstepHow_81 (mi 6).toInt ((nsteps_82.toInt).toNat) t) from (fun t q => RSP_snoc q hp_85 (Or.inl ⟨rfl, (by omega), rfl⟩) (by omega)))), (Or.inr (⟨rfl, (ax73r33d_23 h6 ha_73 h11 hp_26 ha_50), hp_84⟩))⟩ (Nat.le_of_ble_eq_true rfl) (Nat.le_of_ble_eq_true rfl) dX12_readStep_69
  · skip
    refine lv_istore_n (pc := 6) (lv' := [(1, .int 0), (0, .ref M)]) E.1 E.2.1 dX12_readStep_6 rfl hl3 (by decide) rfl (fun ls hl86 => ?_)
    refine lv_aload_n (pc := 7) E.1 E.2.1 dX12_readStep_7 rfl (lv_at hl86 1 rfl) ?_
    refine cm_v (pc := 8) hw7 (rn_M (As := []) (rest := []) E hw7 (s_reads2 l D cI cJ _ M mr mi mf mg (by show 0 ≤ (mi 22).toInt; omega) h2 h3 h7 (show (∀ j : Nat, j < 154 → (mf 26) j = w0 j) from lf_words)) (gdV q_1666 q_1668 q_52 q_162 q_1669) hdV_X12_reads ⟨rfl, rfl⟩ ⟨(Nat.le_of_ble_eq_true rfl), (Nat.le_of_ble_eq_true rfl)⟩ ⟨(Nat.le_of_ble_eq_true rfl), (Nat.le_of_ble_eq_true rfl)⟩ 12 rfl rfl rfl rfl hl86.1 rfl (Nat.le_of_ble_eq_true rfl) dX12_readStep_8) (fun u_87 H1 locs hp hw89 => ?_)
    obtain ⟨nspot_90, nfrom_91, ntoken_92, nvalue_93⟩ := u_87
    generalize H1 = H at hw89 ⊢
    have hw94 : WD D A s.heap (MW cI cJ M mr (upd (upd (upd (upd mi 22 nspot_90) 23 nfrom_91) 24 ntoken_92) 25 nvalue_93) mf mg) H locs := hw89
    obtain ⟨hp_95, hp_96, hp_97, hp_98, hp_99, hp_100, hp_101, hp_102⟩ := hp
    have hp_95 : 0 ≤ nfrom_91.toInt := hp_95
    have hp_96 : nfrom_91.toInt ≤ nspot_90.toInt := hp_96
    have hp_97 : nspot_90.toInt ≤ (mi 21).toInt := hp_97
    have hp_98 : 0 ≤ ntoken_92.toInt := hp_98
    have hp_99 : ntoken_92.toInt ≤ 4 := hp_99
    have hp_100 : ntoken_92.toInt ≤ 4 * nspot_90.toInt - 4 * nfrom_91.toInt := hp_100
    have hp_101 : (mi 22).toInt ≤ nfrom_91.toInt := hp_101
    have hp_102 : AGN ntoken_92.toInt nvalue_93.toInt nfrom_91.toInt nspot_90.toInt := hp_102
    refine lv_iload_n (pc := 11) E.1 E.2.1 dX12_readStep_11 rfl (lv_at hl86 0 rfl) ?_
    refine lv_if_eq (pc := 12) (tgt := 29) E.1 E.2.1 dX12_readStep_12 (by decide) (fun _ => ?_) (fun c_103 => absurd (meqE (a := 0) (b := 0) (by decide +kernel) (by decide +kernel) (by decide +kernel)) c_103)
    refine lv_aload_n (pc := 29) E.1 E.2.1 dX12_readStep_29 rfl (lv_at hl86 1 rfl) ?_
    refine lv_iconst (pc := 30) (v := 1) E.1 E.2.1 dX12_readStep_30 (by decide +kernel) ?_
    refine lv_bipush (pc := 31) (v := 60) E.1 E.2.1 dX12_readStep_31 (by decide +kernel) ?_
    refine cm_i (pc := 33) hw94 (rn_M (As := [.int 1, .int 60]) (rest := []) E hw94 (s_readNumber l D cI cJ _ M mr (upd (upd (upd (upd mi 22 nspot_90) 23 nfrom_91) 24 ntoken_92) 25 nvalue_93) mf mg 1 60 hp_95 hp_96 hp_97 h3 hp_98 hp_99 hp_100 h7 (show (∀ j : Nat, j < 154 → (mf 26) j = w0 j) from lf_words) (show AGN ntoken_92.toInt nvalue_93.toInt nfrom_91.toInt nspot_90.toInt from hp_102)) (gdV q_1706 q_1708 q_62 q_162 q_1709) hdV_X12_readNumber ⟨rfl, rfl⟩ ⟨(Nat.le_of_ble_eq_true rfl), (Nat.le_of_ble_eq_true rfl)⟩ ⟨(Nat.le_of_ble_eq_true rfl), (Nat.le_of_ble_eq_true rfl)⟩ 12 rfl rfl rfl rfl hl86.1 rfl (Nat.le_of_ble_eq_true rfl) dX12_readStep_33) (fun r_105 u_104 H1 locs hp hw106 => ?_)
    obtain ⟨nspot_107, nfrom_108, ntoken_109, nvalue_110, nreadFault_111, nreadPlace_112⟩ := u_104
    generalize H1 = H at hw106 ⊢
    have hw113 : WD D A s.heap (MW cI cJ M mr (upd (upd (upd (upd (upd (upd mi 22 nspot_107) 23 nfrom_108) 24 ntoken_109) 25 nvalue_110) 38 nreadFault_111) 39 nreadPlace_112) mf mg) H locs := hw106
    obtain ⟨hp_114, hp_115, hp_116, hp_117, hp_118, hp_119, hp_120, hp_121⟩ := hp
    have hp_114 : 0 ≤ nfrom_108.toInt := hp_114
    have hp_115 : nfrom_108.toInt ≤ nspot_107.toInt := hp_115
    have hp_116 : nspot_107.toInt ≤ (mi 21).toInt := hp_116
    have hp_117 : 0 ≤ ntoken_109.toInt := hp_117
    have hp_118 : ntoken_109.toInt ≤ 4 := hp_118
    have hp_119 : ntoken_109.toInt ≤ 4 * nspot_107.toInt - 4 * nfrom_108.toInt := hp_119
    have hp_120 : AGN ntoken_109.toInt nvalue_110.toInt nfrom_108.toInt nspot_107.toInt := hp_120
    rcases hp_121 with rfl | ⟨ha_122, ha_123, ha_124⟩
    · skip
      refine lv_istore_n (pc := 36) (lv' := [(2, .int (-1)), (1, .int 0), (0, .ref M)]) E.1 E.2.1 dX12_readStep_36 rfl hl86 (by decide) rfl (fun ls hl125 => ?_)
      refine lv_iload_n (pc := 37) E.1 E.2.1 dX12_readStep_37 rfl (lv_at hl125 0 rfl) ?_
      refine lv_iconst (pc := 38) (v := (-1)) E.1 E.2.1 dX12_readStep_38 (by decide +kernel) ?_
      refine lv_icmp_eq (pc := 39) (tgt := 52) E.1 E.2.1 dX12_readStep_39 (by decide) (fun _ => ?_) (fun c_126 => absurd (meqE (a := (-1)) (b := (-1)) (by decide +kernel) (by decide +kernel) (by decide +kernel)) c_126)
      refine lv_iconst (pc := 52) (v := (-1)) E.1 E.2.1 dX12_readStep_52 (by decide +kernel) ?_
      exact em_i (w1 := (fun (u : Int32 × Int32 × Int32 × Int32 × Int32 × Int32 × (Nat → Int32) × (Nat → Int32) × Int32) => (MW cI cJ M mr (upd (upd (upd (upd (upd (upd (upd mi 22 u.1) 23 u.2.1) 24 u.2.2.1) 25 u.2.2.2.1) 38 u.2.2.2.2.1) 39 u.2.2.2.2.2.1) 48 u.2.2.2.2.2.2.2.2) (va_up (va_up mf 46 u.2.2.2.2.2.2.1) 47 u.2.2.2.2.2.2.2.1) mg))) E hr hlk (nspot_107, nfrom_108, ntoken_109, nvalue_110, nreadFault_111, nreadPlace_112, (mf 46), (mf 47), (mi 48)) hw113 ⟨hp_114, hp_115, hp_116, hp_117, hp_118, hp_119, hp_120, (fun h => absurd h (by decide +kernel)), (Or.inl rfl)⟩ (Nat.le_of_ble_eq_true rfl) (Nat.le_of_ble_eq_true rfl) dX12_readStep_53
    · skip
      have ha_122 : (1 : Int32).toInt ≤ r_105.toInt := ha_122
      rw [show (1 : Int32).toInt = 1 from by decide +kernel] at ha_122
      have ha_123 : r_105.toInt ≤ (60 : Int32).toInt := ha_123
      rw [show (60 : Int32).toInt = 60 from by decide +kernel] at ha_123
      have ha_124 : nfrom_91.toInt + 1 ≤ nfrom_108.toInt := ha_124
      refine lv_istore_n (pc := 36) (lv' := [(2, .int r_105), (1, .int 0), (0, .ref M)]) E.1 E.2.1 dX12_readStep_36 rfl hl86 (by decide) rfl (fun ls hl127 => ?_)
      refine lv_iload_n (pc := 37) E.1 E.2.1 dX12_readStep_37 rfl (lv_at hl127 0 rfl) ?_
      refine lv_iconst (pc := 38) (v := (-1)) E.1 E.2.1 dX12_readStep_38 (by decide +kernel) ?_
      refine lv_icmp_eq (pc := 39) (tgt := 52) E.1 E.2.1 dX12_readStep_39 (by decide) (fun c_128 => absurd c_128 (mneE (a := r_105.toInt) (b := (-1)) rfl (by decide +kernel) (ax73r33d_24 ha_122))) (fun _ => ?_)
      refine lv_aload_n (pc := 42) E.1 E.2.1 dX12_readStep_42 rfl (lv_at hl127 2 rfl) ?_
      refine lv_bipush (pc := 43) (v := 59) E.1 E.2.1 dX12_readStep_43 (by decide +kernel) ?_
      refine cm_i (pc := 45) hw113 (rn_M (As := [.int 59]) (rest := []) E hw113 (s_readMark l D cI cJ _ M mr (upd (upd (upd (upd (upd (upd mi 22 nspot_107) 23 nfrom_108) 24 ntoken_109) 25 nvalue_110) 38 nreadFault_111) 39 nreadPlace_112) mf mg 59 hp_114 hp_115 hp_116 h3 hp_117 hp_118 hp_119 h7 (show (∀ j : Nat, j < 154 → (mf 26) j = w0 j) from lf_words) (show AGN ntoken_109.toInt nvalue_110.toInt nfrom_108.toInt nspot_107.toInt from hp_120)) (gdV q_1714 q_1716 q_64 q_162 q_1717) hdV_X12_readMark ⟨rfl, rfl⟩ ⟨(Nat.le_of_ble_eq_true rfl), (Nat.le_of_ble_eq_true rfl)⟩ ⟨(Nat.le_of_ble_eq_true rfl), (Nat.le_of_ble_eq_true rfl)⟩ 12 rfl rfl rfl rfl hl127.1 rfl (Nat.le_of_ble_eq_true rfl) dX12_readStep_45) (fun r_130 u_129 H1 locs hp hw131 => ?_)
      obtain ⟨nspot_132, nfrom_133, ntoken_134, nvalue_135, nreadFault_136, nreadPlace_137⟩ := u_129
      generalize H1 = H at hw131 ⊢
      have hw138 : WD D A s.heap (MW cI cJ M mr (upd (upd (upd (upd (upd (upd mi 22 nspot_132) 23 nfrom_133) 24 ntoken_134) 25 nvalue_135) 38 nreadFault_136) 39 nreadPlace_137) mf mg) H locs := hw131
      obtain ⟨hp_139, hp_140, hp_141, hp_142, hp_143, hp_144, hp_145, hp_146⟩ := hp
      have hp_139 : 0 ≤ nfrom_133.toInt := hp_139
      have hp_140 : nfrom_133.toInt ≤ nspot_132.toInt := hp_140
      have hp_141 : nspot_132.toInt ≤ (mi 21).toInt := hp_141
      have hp_142 : 0 ≤ ntoken_134.toInt := hp_142
      have hp_143 : ntoken_134.toInt ≤ 4 := hp_143
      have hp_144 : ntoken_134.toInt ≤ 4 * nspot_132.toInt - 4 * nfrom_133.toInt := hp_144
      have hp_145 : AGN ntoken_134.toInt nvalue_135.toInt nfrom_133.toInt nspot_132.toInt := hp_145
      rcases hp_146 with rfl | ⟨rfl, ha_147⟩
      · skip
        refine lv_iconst (pc := 48) (v := (-1)) E.1 E.2.1 dX12_readStep_48 (by decide +kernel) ?_
        refine lv_icmp_ne (pc := 49) (tgt := 54) E.1 E.2.1 dX12_readStep_49 (by decide) (fun c_148 => absurd (meqE (a := (-1)) (b := (-1)) (by decide +kernel) (by decide +kernel) (by decide +kernel)) c_148) (fun _ => ?_)
        refine lv_iconst (pc := 52) (v := (-1)) E.1 E.2.1 dX12_readStep_52 (by decide +kernel) ?_
        exact em_i (w1 := (fun (u : Int32 × Int32 × Int32 × Int32 × Int32 × Int32 × (Nat → Int32) × (Nat → Int32) × Int32) => (MW cI cJ M mr (upd (upd (upd (upd (upd (upd (upd mi 22 u.1) 23 u.2.1) 24 u.2.2.1) 25 u.2.2.2.1) 38 u.2.2.2.2.1) 39 u.2.2.2.2.2.1) 48 u.2.2.2.2.2.2.2.2) (va_up (va_up mf 46 u.2.2.2.2.2.2.1) 47 u.2.2.2.2.2.2.2.1) mg))) E hr hlk (nspot_132, nfrom_133, ntoken_134, nvalue_135, nreadFault_136, nreadPlace_137, (mf 46), (mf 47), (mi 48)) hw138 ⟨hp_139, hp_140, hp_141, hp_142, hp_143, hp_144, hp_145, (fun h => absurd h (by decide +kernel)), (Or.inl rfl)⟩ (Nat.le_of_ble_eq_true rfl) (Nat.le_of_ble_eq_true rfl) dX12_readStep_53
      · skip
        have ha_147 : nfrom_108.toInt + 1 ≤ nfrom_133.toInt := ha_147
        refine lv_iconst (pc := 48) (v := (-1)) E.1 E.2.1 dX12_readStep_48 (by decide +kernel) ?_
        refine lv_icmp_ne (pc := 49) (tgt := 54) E.1 E.2.1 dX12_readStep_49 (by decide) (fun _ => ?_) (fun c_149 => absurd c_149 (mneE (a := 0) (b := (-1)) (by decide +kernel) (by decide +kernel) (by decide +kernel)))
        refine lv_aload_n (pc := 54) E.1 E.2.1 dX12_readStep_54 rfl (lv_at hl127 2 rfl) ?_
        refine lv_iload_n (pc := 55) E.1 E.2.1 dX12_readStep_55 rfl (lv_at hl127 1 rfl) ?_
        refine lv_if_eq (pc := 56) (tgt := 63) E.1 E.2.1 dX12_readStep_56 (by decide) (fun _ => ?_) (fun c_150 => absurd (meqE (a := 0) (b := 0) (by decide +kernel) (by decide +kernel) (by decide +kernel)) c_150)
        refine lv_iconst (pc := 63) (v := 1) E.1 E.2.1 dX12_readStep_63 (by decide +kernel) ?_
        refine lv_iload_n (pc := 64) E.1 E.2.1 dX12_readStep_64 rfl (lv_at hl127 0 rfl) ?_
        refine cm_v (pc := 65) hw138 (rn_M (As := [.int 1, .int r_105]) (rest := []) E hw138 (s_emitsStep l D cI cJ _ M mr (upd (upd (upd (upd (upd (upd mi 22 nspot_132) 23 nfrom_133) 24 ntoken_134) 25 nvalue_135) 38 nreadFault_136) 39 nreadPlace_137) mf mg 1 r_105 (ax73r33d_22 h9 h10 h1 h2 h3)) (gdV q_1746 q_1748 q_72 q_162 q_1749) hdV_X12_emitsStep ⟨rfl, rfl⟩ ⟨(Nat.le_of_ble_eq_true rfl), (Nat.le_of_ble_eq_true rfl)⟩ ⟨(Nat.le_of_ble_eq_true rfl), (Nat.le_of_ble_eq_true rfl)⟩ 12 rfl rfl rfl rfl hl127.1 rfl (Nat.le_of_ble_eq_true rfl) dX12_readStep_65) (fun u_151 H1 locs hp hw153 => ?_)
        obtain ⟨gstepOp_154, gstepHow_155, nsteps_156⟩ := u_151
        generalize H1 = H at hw153 ⊢
        have hw157 : WD D A s.heap (MW cI cJ M mr (upd (upd (upd (upd (upd (upd (upd mi 22 nspot_132) 23 nfrom_133) 24 ntoken_134) 25 nvalue_135) 38 nreadFault_136) 39 nreadPlace_137) 48 nsteps_156) (va_up (va_up mf 46 gstepOp_154) 47 gstepHow_155) mg) H locs := hw153
        obtain ⟨hp_158, hp_159⟩ := hp
        have hp_158 : nsteps_156.toInt = (mi 48).toInt + 1 := hp_158
        have hp_159 : EM (mf 46) (mf 47) gstepOp_154 gstepHow_155 (((mi 48).toInt).toNat) (1 : Int32) r_105 := hp_159
        refine lv_iconst (pc := 68) (v := 0) E.1 E.2.1 dX12_readStep_68 (by decide +kernel) ?_
        exact em_i (w1 := (fun (u : Int32 × Int32 × Int32 × Int32 × Int32 × Int32 × (Nat → Int32) × (Nat → Int32) × Int32) => (MW cI cJ M mr (upd (upd (upd (upd (upd (upd (upd mi 22 u.1) 23 u.2.1) 24 u.2.2.1) 25 u.2.2.2.1) 38 u.2.2.2.2.1) 39 u.2.2.2.2.2.1) 48 u.2.2.2.2.2.2.2.2) (va_up (va_up mf 46 u.2.2.2.2.2.2.1) 47 u.2.2.2.2.2.2.2.1) mg))) E hr hlk (nspot_132, nfrom_133, ntoken_134, nvalue_135, nreadFault_136, nreadPlace_137, gstepOp_154, gstepHow_155, nsteps_156) hw157 ⟨hp_139, hp_140, hp_141, hp_142, hp_143, hp_144, hp_145, (fun _ => (show (∀ t : Nat, RSP (mf 46) (mf 47) (mi 6).toInt (((mi 48).toInt).toNat) t → RSP gstepOp_154 gstepHow_155 (mi 6).toInt ((nsteps_156.toInt).toNat) t) from (fun t q => RSP_snoc q hp_159 (Or.inr (Or.inl ⟨rfl, (by omega), rfl⟩)) (by omega)))), (Or.inr (⟨rfl, (ax73r33d_23 h6 ha_147 h11 hp_101 ha_124), hp_158⟩))⟩ (Nat.le_of_ble_eq_true rfl) (Nat.le_of_ble_eq_true rfl) dX12_readStep_69

