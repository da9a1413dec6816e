set_option maxHeartbeats 4000000 in
set_option maxRecDepth 100000 in
theorem s_endB (l : Launch) (D : va_G) (cI cJ : ClassId) (sz M : Nat) (mr : Nat → Nat) (mi : Nat → Int32) (mf : Nat → Nat → Int32) (mg : Nat → Nat → Int64) (z_k : Int32) (h0 : 0 ≤ (mi 21).toInt ∧ (mi 21).toInt ≤ 400) : Met l yX12_end (Cond.code yX12_end cX12_end 2 (some .boolean) :: GW) ({ frames := 2, cells := 0, slots := 0, locals := 63 } : Room) (va_Pc [.ref M, .int z_k] (PW D cI cJ sz (MW cI cJ M mr mi mf mg) xT)) (va_Qi (fun (r : Int32) (u : Int32 × Int32) => (0 ≤ u.2.toInt ∧ u.2.toInt ≤ 400) ∧ ((r = 0 ∧ z_k.toInt ≤ (-1) ∧ u.2.toInt = (mi 21).toInt) ∨ (r = 0 ∧ (mi 21).toInt + 1 ≤ z_k.toInt ∧ u.2.toInt = (mi 21).toInt) ∨ (r = 1 ∧ 0 ≤ z_k.toInt ∧ z_k.toInt ≤ (mi 21).toInt ∧ u.2.toInt = z_k.toInt))) (fun u => QW D cI cJ (va_A (MW cI cJ M mr mi mf mg) sz) ((fun (u : Int32 × Int32) => (MW cI cJ M mr (upd (upd mi 0 u.1) 21 u.2) mf mg)) u)) (va_A (MW cI cJ M mr mi mf mg) sz)) 0 0 (va_A (MW cI cJ M mr mi mf mg) sz) := by
  refine mk_met (y := yX12_end) (bytes := cX12_end) (maxL := 2) (avs := [.ref M, .int z_k]) (WS := (MW cI cJ M mr mi mf mg)) (Qf := fun A => va_Qi (fun (r : Int32) (u : Int32 × Int32) => (0 ≤ u.2.toInt ∧ u.2.toInt ≤ 400) ∧ ((r = 0 ∧ z_k.toInt ≤ (-1) ∧ u.2.toInt = (mi 21).toInt) ∨ (r = 0 ∧ (mi 21).toInt + 1 ≤ z_k.toInt ∧ u.2.toInt = (mi 21).toInt) ∨ (r = 1 ∧ 0 ≤ z_k.toInt ∧ z_k.toInt ≤ (mi 21).toInt ∧ u.2.toInt = z_k.toInt))) (fun u => QW D cI cJ A ((fun (u : Int32 × Int32) => (MW cI cJ M mr (upd (upd mi 0 u.1) 21 u.2) mf mg)) u)) A) (by decide) (Nat.le_of_ble_eq_true rfl) ?_
  intro p e s m below meth c A ls E hr hlk hnm hX hw1 hl2
  have hl3 : lv_has ls 2 [(0, .ref M), (1, .int z_k)] := hl2
  refine lv_aload_n (pc := 0) E.1 E.2.1 dX12_end_0 rfl (lv_at hl3 0 rfl) ?_
  refine lv_iconst (pc := 1) (v := 0) E.1 E.2.1 dX12_end_1 (by decide +kernel) ?_
  refine x_put (pc := 2) (T := TX12) (N := 70) (ci := 12) (ws' := (MW cI cJ M mr (upd mi 0 0) mf mg)) E hw1 inX12 tyX12_ok nmX12 0 0 q_1399 rfl rfl (by decide) rfl rfl rfl rfl (Nat.le_of_ble_eq_true rfl) rfl dX12_end_2 (fun H locs hw4 => ?_)
  refine lv_aload_n (pc := 5) E.1 E.2.1 dX12_end_5 rfl (lv_at hl3 0 rfl) ?_
  refine lv_iload_n (pc := 6) E.1 E.2.1 dX12_end_6 rfl (lv_at hl3 1 rfl) ?_
  refine lv_iconst (pc := 7) (v := 0) E.1 E.2.1 dX12_end_7 (by decide +kernel) ?_
  refine lv_aload_n (pc := 8) E.1 E.2.1 dX12_end_8 rfl (lv_at hl3 0 rfl) ?_
  refine x_get (pc := 9) (T := TX12) (N := 70) (ci := 12) (v := .int (mi 21)) E hw4 inX12 0 21 q_1420 rfl rfl (by decide) rfl rfl dX12_end_9 ?_
  refine cm_i (pc := 12) hw4 (rn_M (As := [.int z_k, .int 0, .int (mi 21)]) (rest := []) E hw4 (s_isIn l D cI cJ _ M mr (upd mi 0 0) mf mg z_k 0 (mi 21)) (gdV q_1622 q_1624 q_46 q_162 q_1625) hdV_X12_isIn ⟨rfl, rfl⟩ ⟨(Nat.le_of_ble_eq_true rfl), (Nat.le_of_ble_eq_true rfl)⟩ ⟨(Nat.le_of_ble_eq_true rfl), (Nat.le_of_ble_eq_true rfl)⟩ 12 rfl rfl rfl rfl hl3.1 rfl (Nat.le_of_ble_eq_true rfl) dX12_end_12) (fun r_6 u_5 H1 locs hp hw7 => ?_)
  generalize H1 = H at hw7 ⊢
  have hw8 : WD D A s.heap (MW cI cJ M mr (upd mi 0 0) mf mg) H locs := hw7
  have hp_9 := hp
  rcases hp_9 with ⟨rfl, ha_10⟩ | ⟨rfl, ha_11⟩ | ⟨rfl, ha_12, ha_13⟩
  · skip
    have ha_10 : z_k.toInt < (0 : Int32).toInt := ha_10
    rw [show (0 : Int32).toInt = 0 from by decide +kernel] at ha_10
    refine lv_if_ne (pc := 15) (tgt := 20) E.1 E.2.1 dX12_end_15 (by decide) (fun c_14 => absurd (meqE (a := 0) (b := 0) (by decide +kernel) (by decide +kernel) (by omega)) c_14) (fun _ => ?_)
    refine lv_iconst (pc := 18) (v := 0) E.1 E.2.1 dX12_end_18 (by decide +kernel) ?_
    exact em_z (w1 := (fun (u : Int32 × Int32) => (MW cI cJ M mr (upd (upd mi 0 u.1) 21 u.2) mf mg))) E hr hlk (0, (mi 21)) hw8 ⟨h0, (Or.inl ⟨rfl, (by show z_k.toInt ≤ (-1); omega), rfl⟩)⟩ (by decide +kernel) (Nat.le_of_ble_eq_true rfl) (Nat.le_of_ble_eq_true rfl) dX12_end_19
  · skip
    have ha_11 : (mi 21).toInt < z_k.toInt := ha_11
    refine lv_if_ne (pc := 15) (tgt := 20) E.1 E.2.1 dX12_end_15 (by decide) (fun c_15 => absurd (meqE (a := 0) (b := 0) (by decide +kernel) (by decide +kernel) (by omega)) c_15) (fun _ => ?_)
    refine lv_iconst (pc := 18) (v := 0) E.1 E.2.1 dX12_end_18 (by decide +kernel) ?_
    exact em_z (w1 := (fun (u : Int32 × Int32) => (MW cI cJ M mr (upd (upd mi 0 u.1) 21 u.2) mf mg))) E hr hlk (0, (mi 21)) hw8 ⟨h0, (Or.inr (Or.inl ⟨rfl, (by show (mi 21).toInt + 1 ≤ z_k.toInt; omega), rfl⟩))⟩ (by decide +kernel) (Nat.le_of_ble_eq_true rfl) (Nat.le_of_ble_eq_true rfl) dX12_end_19
  · skip
    have ha_12 : (0 : Int32).toInt ≤ z_k.toInt := ha_12
    rw [show (0 : Int32).toInt = 0 from by decide +kernel] at ha_12
    have ha_13 : z_k.toInt ≤ (mi 21).toInt := ha_13
    refine lv_if_ne (pc := 15) (tgt := 20) E.1 E.2.1 dX12_end_15 (by decide) (fun _ => ?_) (fun c_16 => absurd c_16 (mneE (a := 1) (b := 0) (by decide +kernel) (by decide +kernel) (by omega)))
    refine lv_aload_n (pc := 20) E.1 E.2.1 dX12_end_20 rfl (lv_at hl3 0 rfl) ?_
    refine lv_iload_n (pc := 21) E.1 E.2.1 dX12_end_21 rfl (lv_at hl3 1 rfl) ?_
    refine x_put (pc := 22) (T := TX12) (N := 70) (ci := 12) (ws' := (MW cI cJ M mr (upd (upd mi 0 0) 21 z_k) mf mg)) E hw8 inX12 tyX12_ok nmX12 0 21 q_1420 rfl rfl (by decide) rfl rfl rfl rfl (Nat.le_of_ble_eq_true rfl) rfl dX12_end_22 (fun H locs hw17 => ?_)
    refine lv_iconst (pc := 25) (v := 1) E.1 E.2.1 dX12_end_25 (by decide +kernel) ?_
    exact em_z (w1 := (fun (u : Int32 × Int32) => (MW cI cJ M mr (upd (upd mi 0 u.1) 21 u.2) mf mg))) E hr hlk (0, z_k) hw17 ⟨(by show 0 ≤ z_k.toInt ∧ z_k.toInt ≤ 400; have k_0 : (0 : Int32).toInt = 0 := (by decide +kernel); have k_1 : (1 : Int32).toInt = 1 := (by decide +kernel); omega), (Or.inr (Or.inr (⟨rfl, (by show 0 ≤ z_k.toInt; omega), (by show z_k.toInt ≤ (mi 21).toInt; omega), rfl⟩)))⟩ (by decide +kernel) (Nat.le_of_ble_eq_true rfl) (Nat.le_of_ble_eq_true rfl) dX12_end_26
set_option maxHeartbeats 4000000 in
set_option maxRecDepth 100000 in
theorem s_clueB (l : Launch) (D : va_G) (cI cJ : ClassId) (sz M : Nat) (mr : Nat → Nat) (mi : Nat → Int32) (mf : Nat → Nat → Int32) (mg : Nat → Nat → Int64) (z_night : Int32) (z_set : Int32) (h0 : 0 ≤ (mi 6).toInt ∧ (mi 6).toInt ≤ 10) (h1 : 0 ≤ (mi 17).toInt ∧ (mi 17).toInt ≤ 8) : Met l yX12_clue (Cond.code yX12_clue cX12_clue 3 (some .int) :: GW) ({ frames := 2, cells := 0, slots := 0, locals := 63 } : Room) (va_Pc [.ref M, .int z_night, .int z_set] (PW D cI cJ sz (MW cI cJ M mr mi mf mg) xT)) (va_Qi (fun (r : Int32) (u : Int32 × Int32 × (Nat → Int32) × (Nat → Int32)) => (0 ≤ u.2.1.toInt ∧ u.2.1.toInt ≤ 8) ∧ (CST (sh1 (mi 6)) z_night.toInt z_set.toInt (mi 17).toInt u.2.1.toInt (r : Int32).toInt)) (fun u => QW D cI cJ (va_A (MW cI cJ M mr mi mf mg) sz) ((fun (u : Int32 × Int32 × (Nat → Int32) × (Nat → Int32)) => (MW cI cJ M mr (upd (upd mi 0 u.1) 17 u.2.1) (va_up (va_up mf 18 u.2.2.1) 19 u.2.2.2) mg)) u)) (va_A (MW cI cJ M mr mi mf mg) sz)) 0 0 (va_A (MW cI cJ M mr mi mf mg) sz) := by
  refine mk_met (y := yX12_clue) (bytes := cX12_clue) (maxL := 3) (avs := [.ref M, .int z_night, .int z_set]) (WS := (MW cI cJ M mr mi mf mg)) (Qf := fun A => va_Qi (fun (r : Int32) (u : Int32 × Int32 × (Nat → Int32) × (Nat → Int32)) => (0 ≤ u.2.1.toInt ∧ u.2.1.toInt ≤ 8) ∧ (CST (sh1 (mi 6)) z_night.toInt z_set.toInt (mi 17).toInt u.2.1.toInt (r : Int32).toInt)) (fun u => QW D cI cJ A ((fun (u : Int32 × Int32 × (Nat → Int32) × (Nat → Int32)) => (MW cI cJ M mr (upd (upd mi 0 u.1) 17 u.2.1) (va_up (va_up mf 18 u.2.2.1) 19 u.2.2.2) mg)) u)) A) (by decide) (Nat.le_of_ble_eq_true rfl) ?_
  intro p e s m below meth c A ls E hr hlk hnm hX hw1 hl2
  have hl3 : lv_has ls 3 [(0, .ref M), (1, .int z_night), (2, .int z_set)] := hl2
  refine lv_aload_n (pc := 0) E.1 E.2.1 dX12_clue_0 rfl (lv_at hl3 0 rfl) ?_
  refine lv_iconst (pc := 1) (v := 0) E.1 E.2.1 dX12_clue_1 (by decide +kernel) ?_
  refine x_put (pc := 2) (T := TX12) (N := 70) (ci := 12) (ws' := (MW cI cJ M mr (upd mi 0 0) mf mg)) E hw1 inX12 tyX12_ok nmX12 0 0 q_1399 rfl rfl (by decide) rfl rfl rfl rfl (Nat.le_of_ble_eq_true rfl) rfl dX12_clue_2 (fun H locs hw4 => ?_)
  refine lv_iload_n (pc := 5) E.1 E.2.1 dX12_clue_5 rfl (lv_at hl3 1 rfl) ?_
  refine lv_iconst (pc := 6) (v := (-1)) E.1 E.2.1 dX12_clue_6 (by decide +kernel) ?_
  refine lv_icmp_ne (pc := 7) (tgt := 17) E.1 E.2.1 dX12_clue_7 (by decide) (fun c_5 => ?_) (fun c_5 => ?_)
  · skip
    have hc_5 := neE (a := z_night.toInt) (b := (-1)) rfl (by decide +kernel) c_5
    refine lv_aload_n (pc := 17) E.1 E.2.1 dX12_clue_17 rfl (lv_at hl3 0 rfl) ?_
    refine lv_iload_n (pc := 18) E.1 E.2.1 dX12_clue_18 rfl (lv_at hl3 1 rfl) ?_
    refine lv_iconst (pc := 19) (v := 0) E.1 E.2.1 dX12_clue_19 (by decide +kernel) ?_
    refine lv_bipush (pc := 20) (v := 9) E.1 E.2.1 dX12_clue_20 (by decide +kernel) ?_
    refine cm_i (pc := 22) hw4 (rn_M (As := [.int z_night, .int 0, .int 9]) (rest := []) E hw4 (s_isIn l D cI cJ _ M mr (upd mi 0 0) mf mg z_night 0 9) (gdV q_1622 q_1624 q_46 q_162 q_1625) hdV_X12_isIn ⟨rfl, rfl⟩ ⟨(Nat.le_of_ble_eq_true rfl), (Nat.le_of_ble_eq_true rfl)⟩ ⟨(Nat.le_of_ble_eq_true rfl), (Nat.le_of_ble_eq_true rfl)⟩ 12 rfl rfl rfl rfl hl3.1 rfl (Nat.le_of_ble_eq_true rfl) dX12_clue_22) (fun r_7 u_6 H1 locs hp hw8 => ?_)
    generalize H1 = H at hw8 ⊢
    have hw9 : WD D A s.heap (MW cI cJ M mr (upd mi 0 0) mf mg) H locs := hw8
    have hp_10 := hp
    rcases hp_10 with ⟨rfl, ha_11⟩ | ⟨rfl, ha_12⟩ | ⟨rfl, ha_13, ha_14⟩
    · skip
      have ha_11 : z_night.toInt < (0 : Int32).toInt := ha_11
      rw [show (0 : Int32).toInt = 0 from by decide +kernel] at ha_11
      refine lv_if_eq (pc := 25) (tgt := 52) E.1 E.2.1 dX12_clue_25 (by decide) (fun _ => ?_) (fun c_15 => absurd (meqE (a := 0) (b := 0) (by decide +kernel) (by decide +kernel) (by omega)) c_15)
      refine lv_iconst (pc := 52) (v := (-1)) E.1 E.2.1 dX12_clue_52 (by decide +kernel) ?_
      exact em_i (w1 := (fun (u : Int32 × Int32 × (Nat → Int32) × (Nat → Int32)) => (MW cI cJ M mr (upd (upd mi 0 u.1) 17 u.2.1) (va_up (va_up mf 18 u.2.2.1) 19 u.2.2.2) mg))) E hr hlk (0, (mi 17), (mf 18), (mf 19)) hw9 ⟨h1, (show CST (sh1 (mi 6)) z_night.toInt z_set.toInt (mi 17).toInt (mi 17).toInt ((-1) : Int32).toInt from (Or.inr (Or.inr ⟨by omega, fun h => by obtain ⟨⟨h1, h2⟩, h3, h4, h5⟩ := h; omega, by decide +kernel, rfl⟩)))⟩ (Nat.le_of_ble_eq_true rfl) (Nat.le_of_ble_eq_true rfl) dX12_clue_53
    · skip
      have ha_12 : (9 : Int32).toInt < z_night.toInt := ha_12
      rw [show (9 : Int32).toInt = 9 from by decide +kernel] at ha_12
      refine lv_if_eq (pc := 25) (tgt := 52) E.1 E.2.1 dX12_clue_25 (by decide) (fun _ => ?_) (fun c_16 => absurd (meqE (a := 0) (b := 0) (by decide +kernel) (by decide +kernel) (by omega)) c_16)
      refine lv_iconst (pc := 52) (v := (-1)) E.1 E.2.1 dX12_clue_52 (by decide +kernel) ?_
      exact em_i (w1 := (fun (u : Int32 × Int32 × (Nat → Int32) × (Nat → Int32)) => (MW cI cJ M mr (upd (upd mi 0 u.1) 17 u.2.1) (va_up (va_up mf 18 u.2.2.1) 19 u.2.2.2) mg))) E hr hlk (0, (mi 17), (mf 18), (mf 19)) hw9 ⟨h1, (show CST (sh1 (mi 6)) z_night.toInt z_set.toInt (mi 17).toInt (mi 17).toInt ((-1) : Int32).toInt from (Or.inr (Or.inr ⟨by omega, fun h => by obtain ⟨⟨h1, h2⟩, h3, h4, h5⟩ := h; omega, by decide +kernel, rfl⟩)))⟩ (Nat.le_of_ble_eq_true rfl) (Nat.le_of_ble_eq_true rfl) dX12_clue_53
    · skip
      have ha_13 : (0 : Int32).toInt ≤ z_night.toInt := ha_13
      rw [show (0 : Int32).toInt = 0 from by decide +kernel] at ha_13
      have ha_14 : z_night.toInt ≤ (9 : Int32).toInt := ha_14
      rw [show (9 : Int32).toInt = 9 from by decide +kernel] at ha_14
      refine lv_if_eq (pc := 25) (tgt := 52) E.1 E.2.1 dX12_clue_25 (by decide) (fun c_17 => absurd c_17 (mneE (a := 1) (b := 0) (by decide +kernel) (by decide +kernel) (by omega))) (fun _ => ?_)
      refine lv_iload_n (pc := 28) E.1 E.2.1 dX12_clue_28 rfl (lv_at hl3 2 rfl) ?_
      refine lv_iconst (pc := 29) (v := 1) E.1 E.2.1 dX12_clue_29 (by decide +kernel) ?_
      refine lv_icmp_lt (pc := 30) (tgt := 52) E.1 E.2.1 dX12_clue_30 (by decide) (fun c_18 => ?_) (fun c_18 => ?_)
      · skip
        have hc_18 := ltE (a := z_set.toInt) (b := 1) rfl (by decide +kernel) c_18
        refine lv_iconst (pc := 52) (v := (-1)) E.1 E.2.1 dX12_clue_52 (by decide +kernel) ?_
        exact em_i (w1 := (fun (u : Int32 × Int32 × (Nat → Int32) × (Nat → Int32)) => (MW cI cJ M mr (upd (upd mi 0 u.1) 17 u.2.1) (va_up (va_up mf 18 u.2.2.1) 19 u.2.2.2) mg))) E hr hlk (0, (mi 17), (mf 18), (mf 19)) hw9 ⟨h1, (show CST (sh1 (mi 6)) z_night.toInt z_set.toInt (mi 17).toInt (mi 17).toInt ((-1) : Int32).toInt from (Or.inr (Or.inr ⟨by omega, fun h => by obtain ⟨⟨h1, h2⟩, h3, h4, h5⟩ := h; omega, by decide +kernel, rfl⟩)))⟩ (Nat.le_of_ble_eq_true rfl) (Nat.le_of_ble_eq_true rfl) dX12_clue_53
      · skip
        have hc_18 := nltE (a := z_set.toInt) (b := 1) rfl (by decide +kernel) c_18
        refine lv_iload_n (pc := 33) E.1 E.2.1 dX12_clue_33 rfl (lv_at hl3 2 rfl) ?_
        refine lv_iconst (pc := 34) (v := 1) E.1 E.2.1 dX12_clue_34 (by decide +kernel) ?_
        refine lv_aload_n (pc := 35) E.1 E.2.1 dX12_clue_35 rfl (lv_at hl3 0 rfl) ?_
        refine x_get (pc := 36) (T := TX12) (N := 70) (ci := 12) (v := .int (mi 6)) E hw9 inX12 0 6 q_1405 rfl rfl (by decide) rfl rfl dX12_clue_36 ?_
        refine lv_ishl (pc := 39) E.1 E.2.1 dX12_clue_39 ?_
        refine lv_topi (fun v_19 ev_19 => ?_)
        have hb1v_19 : 1 ≤ v_19.toInt ∧ v_19.toInt ≤ 1024 := by rw [ev_19]; exact shl10 (by omega)
        refine lv_icmp_ge (pc := 40) (tgt := 52) E.1 E.2.1 dX12_clue_40 (by decide) (fun c_20 => ?_) (fun c_20 => ?_)
        · skip
          have hc_20 := leE (a := v_19.toInt) (b := z_set.toInt) rfl rfl c_20
          refine lv_iconst (pc := 52) (v := (-1)) E.1 E.2.1 dX12_clue_52 (by decide +kernel) ?_
          exact em_i (w1 := (fun (u : Int32 × Int32 × (Nat → Int32) × (Nat → Int32)) => (MW cI cJ M mr (upd (upd mi 0 u.1) 17 u.2.1) (va_up (va_up mf 18 u.2.2.1) 19 u.2.2.2) mg))) E hr hlk (0, (mi 17), (mf 18), (mf 19)) hw9 ⟨h1, (show CST (sh1 (mi 6)) z_night.toInt z_set.toInt (mi 17).toInt (mi 17).toInt ((-1) : Int32).toInt from (Or.inr (Or.inr ⟨by omega, fun h => by obtain ⟨⟨h1, h2⟩, h3, h4, h5⟩ := h; have q := all_sh ev_19; omega, by decide +kernel, rfl⟩)))⟩ (Nat.le_of_ble_eq_true rfl) (Nat.le_of_ble_eq_true rfl) dX12_clue_53
        · skip
          have hc_20 := nleE (a := v_19.toInt) (b := z_set.toInt) rfl rfl c_20
          refine lv_aload_n (pc := 43) E.1 E.2.1 dX12_clue_43 rfl (lv_at hl3 0 rfl) ?_
          refine x_get (pc := 44) (T := TX12) (N := 70) (ci := 12) (v := .int (mi 17)) E hw9 inX12 0 17 q_1416 rfl rfl (by decide) rfl rfl dX12_clue_44 ?_
          refine lv_bipush (pc := 47) (v := 8) E.1 E.2.1 dX12_clue_47 (by decide +kernel) ?_
          refine lv_icmp_ne (pc := 49) (tgt := 54) E.1 E.2.1 dX12_clue_49 (by decide) (fun c_21 => ?_) (fun c_21 => ?_)
          · skip
            have hc_21 := neE (a := (mi 17).toInt) (b := 8) rfl (by decide +kernel) c_21
            refine lv_aload_n (pc := 54) E.1 E.2.1 dX12_clue_54 rfl (lv_at hl3 0 rfl) ?_
            refine x_get (pc := 55) (T := TX12) (N := 70) (ci := 12) (v := .ref (mr 18)) E hw9 inX12 0 18 q_1417 rfl rfl (by decide) rfl rfl dX12_clue_55 ?_
            refine lv_aload_n (pc := 58) E.1 E.2.1 dX12_clue_58 rfl (lv_at hl3 0 rfl) ?_
            refine x_get (pc := 59) (T := TX12) (N := 70) (ci := 12) (v := .int (mi 17)) E hw9 inX12 0 17 q_1416 rfl rfl (by decide) rfl rfl dX12_clue_59 ?_
            refine lv_iload_n (pc := 62) E.1 E.2.1 dX12_clue_62 rfl (lv_at hl3 1 rfl) ?_
            refine x_iastG (pc := 63) (f := (mf 18)) (wf := fun g => (MW cI cJ M mr (upd mi 0 0) (va_up mf 18 g) mg)) E hw9 10 rfl (inbE (a := (mi 17).toInt) rfl (by omega)) (fun _ => rfl) dX12_clue_63 (fun g_22 H locs eg_22 hw23 => ?_)
            refine lv_aload_n (pc := 64) E.1 E.2.1 dX12_clue_64 rfl (lv_at hl3 0 rfl) ?_
            refine x_get (pc := 65) (T := TX12) (N := 70) (ci := 12) (v := .ref (mr 19)) E hw23 inX12 0 19 q_1418 rfl rfl (by decide) rfl rfl dX12_clue_65 ?_
            refine lv_aload_n (pc := 68) E.1 E.2.1 dX12_clue_68 rfl (lv_at hl3 0 rfl) ?_
            refine x_get (pc := 69) (T := TX12) (N := 70) (ci := 12) (v := .int (mi 17)) E hw23 inX12 0 17 q_1416 rfl rfl (by decide) rfl rfl dX12_clue_69 ?_
            refine lv_iload_n (pc := 72) E.1 E.2.1 dX12_clue_72 rfl (lv_at hl3 2 rfl) ?_
            refine x_iastG (pc := 73) (f := (mf 19)) (wf := fun g => (MW cI cJ M mr (upd mi 0 0) (va_up (va_up mf 18 g_22) 19 g) mg)) E hw23 11 rfl (inbE (a := (mi 17).toInt) rfl (by omega)) (fun _ => rfl) dX12_clue_73 (fun g_24 H locs eg_24 hw25 => ?_)
            refine lv_aload_n (pc := 74) E.1 E.2.1 dX12_clue_74 rfl (lv_at hl3 0 rfl) ?_
            refine lv_aload_n (pc := 75) E.1 E.2.1 dX12_clue_75 rfl (lv_at hl3 0 rfl) ?_
            refine x_get (pc := 76) (T := TX12) (N := 70) (ci := 12) (v := .int (mi 17)) E hw25 inX12 0 17 q_1416 rfl rfl (by decide) rfl rfl dX12_clue_76 ?_
            refine lv_iconst (pc := 79) (v := 1) E.1 E.2.1 dX12_clue_79 (by decide +kernel) ?_
            refine lv_iadd (pc := 80) E.1 E.2.1 dX12_clue_80 ?_
            refine lv_topi (fun v_26 ev_26 => ?_)
            have hv_26 : v_26.toInt = (mi 17).toInt + 1 := by rw [ev_26]; exact addE rfl (by decide +kernel) (by omega)
            refine x_put (pc := 81) (T := TX12) (N := 70) (ci := 12) (ws' := (MW cI cJ M mr (upd (upd mi 0 0) 17 v_26) (va_up (va_up mf 18 g_22) 19 g_24) mg)) E hw25 inX12 tyX12_ok nmX12 0 17 q_1416 rfl rfl (by decide) rfl rfl rfl rfl (Nat.le_of_ble_eq_true rfl) rfl dX12_clue_81 (fun H locs hw27 => ?_)
            refine lv_aload_n (pc := 84) E.1 E.2.1 dX12_clue_84 rfl (lv_at hl3 0 rfl) ?_
            refine x_get (pc := 85) (T := TX12) (N := 70) (ci := 12) (v := .int v_26) E hw27 inX12 0 17 q_1416 rfl rfl (by decide) rfl rfl dX12_clue_85 ?_
            exact em_i (w1 := (fun (u : Int32 × Int32 × (Nat → Int32) × (Nat → Int32)) => (MW cI cJ M mr (upd (upd mi 0 u.1) 17 u.2.1) (va_up (va_up mf 18 u.2.2.1) 19 u.2.2.2) mg))) E hr hlk (0, v_26, g_22, g_24) hw27 ⟨(by show 0 ≤ v_26.toInt ∧ v_26.toInt ≤ 8; have k_0 : (0 : Int32).toInt = 0 := (by decide +kernel); omega), (show CST (sh1 (mi 6)) z_night.toInt z_set.toInt (mi 17).toInt v_26.toInt (v_26 : Int32).toInt from (Or.inr (Or.inl ⟨by omega, (by have q := all_sh ev_19; exact ⟨⟨by omega, by omega⟩, by omega, by omega, by omega⟩), by omega, by omega⟩)))⟩ (Nat.le_of_ble_eq_true rfl) (Nat.le_of_ble_eq_true rfl) dX12_clue_88
          · skip
            have hc_21 := eqE (a := (mi 17).toInt) (b := 8) rfl (by decide +kernel) c_21
            refine lv_iconst (pc := 52) (v := (-1)) E.1 E.2.1 dX12_clue_52 (by decide +kernel) ?_
            exact em_i (w1 := (fun (u : Int32 × Int32 × (Nat → Int32) × (Nat → Int32)) => (MW cI cJ M mr (upd (upd mi 0 u.1) 17 u.2.1) (va_up (va_up mf 18 u.2.2.1) 19 u.2.2.2) mg))) E hr hlk (0, (mi 17), (mf 18), (mf 19)) hw9 ⟨h1, (show CST (sh1 (mi 6)) z_night.toInt z_set.toInt (mi 17).toInt (mi 17).toInt ((-1) : Int32).toInt from (Or.inr (Or.inr ⟨by omega, fun h => by obtain ⟨⟨h1, h2⟩, h3, h4, h5⟩ := h; have q := all_sh ev_19; omega, by decide +kernel, rfl⟩)))⟩ (Nat.le_of_ble_eq_true rfl) (Nat.le_of_ble_eq_true rfl) dX12_clue_53
  · skip
    have hc_5 := eqE (a := z_night.toInt) (b := (-1)) rfl (by decide +kernel) c_5
    refine lv_aload_n (pc := 10) E.1 E.2.1 dX12_clue_10 rfl (lv_at hl3 0 rfl) ?_
    refine lv_iconst (pc := 11) (v := 0) E.1 E.2.1 dX12_clue_11 (by decide +kernel) ?_
    refine x_put (pc := 12) (T := TX12) (N := 70) (ci := 12) (ws' := (MW cI cJ M mr (upd (upd mi 0 0) 17 0) mf mg)) E hw4 inX12 tyX12_ok nmX12 0 17 q_1416 rfl rfl (by decide) rfl rfl rfl rfl (Nat.le_of_ble_eq_true rfl) rfl dX12_clue_12 (fun H locs hw28 => ?_)
    refine lv_iconst (pc := 15) (v := 0) E.1 E.2.1 dX12_clue_15 (by decide +kernel) ?_
    exact em_i (w1 := (fun (u : Int32 × Int32 × (Nat → Int32) × (Nat → Int32)) => (MW cI cJ M mr (upd (upd mi 0 u.1) 17 u.2.1) (va_up (va_up mf 18 u.2.2.1) 19 u.2.2.2) mg))) E hr hlk (0, 0, (mf 18), (mf 19)) hw28 ⟨(by show 0 ≤ (0 : Int32).toInt ∧ (0 : Int32).toInt ≤ 8; have k_0 : (0 : Int32).toInt = 0 := (by decide +kernel); have k_1 : (0 : Int32).toInt = 0 := (by decide +kernel); have k_2 : (0 : Int32).toInt = 0 := (by decide +kernel); omega), (show CST (sh1 (mi 6)) z_night.toInt z_set.toInt (mi 17).toInt (0 : Int32).toInt (0 : Int32).toInt from (Or.inl ⟨by omega, by decide +kernel, by decide +kernel⟩))⟩ (Nat.le_of_ble_eq_true rfl) (Nat.le_of_ble_eq_true rfl) dX12_clue_16
set_option maxHeartbeats 4000000 in
set_option maxRecDepth 100000 in
theorem s_keepsVillage1B (l : Launch) (D : va_G) (cI cJ : ClassId) (sz M : Nat) (mr : Nat → Nat) (mi : Nat → Int32) (mf : Nat → Nat → Int32) (mg : Nat → Nat → Int64)  (h0 : (mi 66).toInt = 1) (h1 : (mi 68).toInt = 66) : Met l yX12_keepsVillage (Cond.code yX12_keepsVillage cX12_keepsVillage 2 none :: GW) ({ frames := 2, cells := 0, slots := 0, locals := 61 } : Room) (va_Pc [.ref M] (PW D cI cJ sz (MW cI cJ M mr mi mf mg) xT)) (va_Qv (fun (u : Int32 × (Nat → Int32)) => (u.1.toInt = 138) ∧ (((u.2 66).toInt = (mi 6).toInt ∧ SGT u.2 (mf 8) 0 68 5 10 ∧ (u.2 120).toInt = (mi 15).toInt ∧ (u.2 121).toInt = (mi 17).toInt ∧ FRM (mf 69) u.2 66)) ∧ (SGT u.2 (mf 7) 0 67 5 10) ∧ ((u.2 117).toInt = (mi 12).toInt)) (fun u => QW D cI cJ (va_A (MW cI cJ M mr mi mf mg) sz) ((fun (u : Int32 × (Nat → Int32)) => (MW cI cJ M mr (upd mi 68 u.1) (va_up mf 69 u.2) mg)) u)) (va_A (MW cI cJ M mr mi mf mg) sz)) 0 0 (va_A (MW cI cJ M mr mi mf mg) sz) := by
  refine mk_met (y := yX12_keepsVillage) (bytes := cX12_keepsVillage) (maxL := 2) (avs := [.ref M]) (WS := (MW cI cJ M mr mi mf mg)) (Qf := fun A => va_Qv (fun (u : Int32 × (Nat → Int32)) => (u.1.toInt = 138) ∧ (((u.2 66).toInt = (mi 6).toInt ∧ SGT u.2 (mf 8) 0 68 5 10 ∧ (u.2 120).toInt = (mi 15).toInt ∧ (u.2 121).toInt = (mi 17).toInt ∧ FRM (mf 69) u.2 66)) ∧ (SGT u.2 (mf 7) 0 67 5 10) ∧ ((u.2 117).toInt = (mi 12).toInt)) (fun u => QW D cI cJ A ((fun (u : Int32 × (Nat → Int32)) => (MW cI cJ M mr (upd mi 68 u.1) (va_up mf 69 u.2) mg)) u)) A) (by decide) (Nat.le_of_ble_eq_true rfl) ?_
  intro p e s m below meth c A ls E hr hlk hnm hX hw1 hl2
  have hl3 : lv_has ls 2 [(0, .ref M)] := hl2
  refine lv_aload_n (pc := 0) E.1 E.2.1 dX12_keepsVillage_0 rfl (lv_at hl3 0 rfl) ?_
  refine lv_aload_n (pc := 1) E.1 E.2.1 dX12_keepsVillage_1 rfl (lv_at hl3 0 rfl) ?_
  refine lv_aload_n (pc := 2) E.1 E.2.1 dX12_keepsVillage_2 rfl (lv_at hl3 0 rfl) ?_
  refine x_get (pc := 3) (T := TX12) (N := 70) (ci := 12) (v := .int (mi 6)) E hw1 inX12 0 6 q_1405 rfl rfl (by decide) rfl rfl dX12_keepsVillage_3 ?_
  refine cm_i (pc := 6) hw1 (rn_M (As := [.int (mi 6)]) (rest := [.ref M]) E hw1 (s_kept1 l D cI cJ _ M mr mi mf mg (mi 6) h0 (by show 0 ≤ (mi 68).toInt ∧ (mi 68).toInt ≤ 3599; omega)) (gdV q_2125 q_2127 q_146 q_162 q_2128) hdV_X12_kept ⟨rfl, rfl⟩ ⟨(Nat.le_of_ble_eq_true rfl), (Nat.le_of_ble_eq_true rfl)⟩ ⟨(Nat.le_of_ble_eq_true rfl), (Nat.le_of_ble_eq_true rfl)⟩ 12 rfl rfl rfl rfl hl3.1 rfl (Nat.le_of_ble_eq_true rfl) dX12_keepsVillage_6) (fun r_5 u_4 H1 locs hp hw6 => ?_)
  obtain ⟨nkeptAt_7, gimages_8⟩ := u_4
  generalize H1 = H at hw6 ⊢
  have hw9 : WD D A s.heap (MW cI cJ M mr (upd mi 68 nkeptAt_7) (va_up mf 69 gimages_8) mg) H locs := hw6
  obtain ⟨hp_10, hp_11⟩ := hp
  have hp_10 : nkeptAt_7.toInt = (mi 68).toInt + 1 := hp_10
  have hp_11 : (gimages_8 = upd (mf 69) ((mi 68)).toNatClampNeg (mi 6) ∧ r_5 = (mi 6)) := hp_11
  obtain ⟨egimages_8, rfl⟩ := hp_11
  refine x_put (pc := 9) (T := TX12) (N := 70) (ci := 12) (ws' := (MW cI cJ M mr (upd mi 68 nkeptAt_7) (va_up mf 69 gimages_8) mg)) E hw9 inX12 tyX12_ok nmX12 0 6 q_1405 rfl rfl (by decide) rfl rfl rfl rfl (Nat.le_of_ble_eq_true rfl) rfl dX12_keepsVillage_9 (fun H locs hw12 => ?_)
  refine lv_iconst (pc := 12) (v := 0) E.1 E.2.1 dX12_keepsVillage_12 (by decide +kernel) ?_
  refine lv_istore_n (pc := 13) (lv' := [(1, .int 0), (0, .ref M)]) E.1 E.2.1 dX12_keepsVillage_13 rfl hl3 (by decide) rfl (fun ls hl13 => ?_)
  have loop_14 : ∀ (k : Nat) (x_15 : Int32) (x_16 : Int32) (g_17 : Nat → Int32) (H : Heap) (locs : List Loc) (ls : Array Slot), (0 ≤ x_15.toInt) ∧ (x_15.toInt ≤ 10) ∧ (x_16.toInt = 67 + 5 * x_15.toInt) ∧ (FRM gimages_8 g_17 67) ∧ (SGT g_17 (mf 8) 0 68 5 x_15.toInt) ∧ (SGT g_17 (mf 7) 0 67 5 x_15.toInt) → 10 - x_15.toInt < (k : Int) → WD D A s.heap (MW cI cJ M mr (upd mi 68 x_16) (va_up mf 69 g_17) mg) H locs → lv_has ls 2 [(1, .int x_15), (0, .ref M)] → W p l e ({ frames := 2, cells := 0, slots := 0, locals := 61 } : Room) s m ([.ref M] : List Value).toArray below meth c H locs 0 0 (MQ below (va_Qv (fun (u : Int32 × (Nat → Int32)) => (u.1.toInt = 138) ∧ (((u.2 66).toInt = (mi 6).toInt ∧ SGT u.2 (mf 8) 0 68 5 10 ∧ (u.2 120).toInt = (mi 15).toInt ∧ (u.2 121).toInt = (mi 17).toInt ∧ FRM (mf 69) u.2 66)) ∧ (SGT u.2 (mf 7) 0 67 5 10) ∧ ((u.2 117).toInt = (mi 12).toInt)) (fun u => QW D cI cJ A ((fun (u : Int32 × (Nat → Int32)) => (MW cI cJ M mr (upd mi 68 u.1) (va_up mf 69 u.2) mg)) u)) A) ([.ref M] : List Value).toArray s 0 0 A) (F0 m 14 ls []) := by
    intro k
    induction k with
    | zero =>
      intro x_15 x_16 g_17 _ _ _ hinv hm
      obtain ⟨hi_17_0, hi_17_1, hi_17_2, hi_17_3, hi_17_4, hi_17_5⟩ := hinv
      exact absurd hm (by omega)
    | succ k ih_18 =>
      intro x_15 x_16 g_17 H locs ls hinv hm hw19 hl20
      obtain ⟨hi_17_0, hi_17_1, hi_17_2, hi_17_3, hi_17_4, hi_17_5⟩ := hinv
      refine lv_iload_n (pc := 14) E.1 E.2.1 dX12_keepsVillage_14 rfl (lv_at hl20 0 rfl) ?_
      refine lv_bipush (pc := 15) (v := 10) E.1 E.2.1 dX12_keepsVillage_15 (by decide +kernel) ?_
      refine lv_icmp_ge (pc := 17) (tgt := 106) E.1 E.2.1 dX12_keepsVillage_17 (by decide) (fun c_21 => ?_) (fun c_21 => ?_)
      · skip
        have hc_21 := leE (a := 10) (b := x_15.toInt) (by decide +kernel) rfl c_21
        refine lv_aload_n (pc := 106) E.1 E.2.1 dX12_keepsVillage_106 rfl (lv_at hl20 1 rfl) ?_
        refine lv_aload_n (pc := 107) E.1 E.2.1 dX12_keepsVillage_107 rfl (lv_at hl20 1 rfl) ?_
        refine lv_aload_n (pc := 108) E.1 E.2.1 dX12_keepsVillage_108 rfl (lv_at hl20 1 rfl) ?_
        refine x_get (pc := 109) (T := TX12) (N := 70) (ci := 12) (v := .int (mi 12)) E hw19 inX12 0 12 q_1411 rfl rfl (by decide) rfl rfl dX12_keepsVillage_109 ?_
        refine cm_i (pc := 112) hw19 (rn_M (As := [.int (mi 12)]) (rest := [.ref M]) E hw19 (s_kept1 l D cI cJ _ M mr (upd mi 68 x_16) (va_up mf 69 g_17) mg (mi 12) h0 (by show 0 ≤ x_16.toInt ∧ x_16.toInt ≤ 3599; omega)) (gdV q_2125 q_2127 q_146 q_162 q_2128) hdV_X12_kept ⟨rfl, rfl⟩ ⟨(Nat.le_of_ble_eq_true rfl), (Nat.le_of_ble_eq_true rfl)⟩ ⟨(Nat.le_of_ble_eq_true rfl), (Nat.le_of_ble_eq_true rfl)⟩ 12 rfl rfl rfl rfl hl20.1 rfl (Nat.le_of_ble_eq_true rfl) dX12_keepsVillage_112) (fun r_23 u_22 H1 locs hp hw24 => ?_)
        obtain ⟨nkeptAt_25, gimages_26⟩ := u_22
        generalize H1 = H at hw24 ⊢
        have hw27 : WD D A s.heap (MW cI cJ M mr (upd mi 68 nkeptAt_25) (va_up mf 69 gimages_26) mg) H locs := hw24
        obtain ⟨hp_28, hp_29⟩ := hp
        have hp_28 : nkeptAt_25.toInt = x_16.toInt + 1 := hp_28
        have hp_29 : (gimages_26 = upd g_17 (x_16).toNatClampNeg (mi 12) ∧ r_23 = (mi 12)) := hp_29
        obtain ⟨egimages_26, rfl⟩ := hp_29
        refine x_put (pc := 115) (T := TX12) (N := 70) (ci := 12) (ws' := (MW cI cJ M mr (upd mi 68 nkeptAt_25) (va_up mf 69 gimages_26) mg)) E hw27 inX12 tyX12_ok nmX12 0 12 q_1411 rfl rfl (by decide) rfl rfl rfl rfl (Nat.le_of_ble_eq_true rfl) rfl dX12_keepsVillage_115 (fun H locs hw30 => ?_)
        refine lv_aload_n (pc := 118) E.1 E.2.1 dX12_keepsVillage_118 rfl (lv_at hl20 1 rfl) ?_
        refine lv_aload_n (pc := 119) E.1 E.2.1 dX12_keepsVillage_119 rfl (lv_at hl20 1 rfl) ?_
        refine lv_aload_n (pc := 120) E.1 E.2.1 dX12_keepsVillage_120 rfl (lv_at hl20 1 rfl) ?_
        refine x_get (pc := 121) (T := TX12) (N := 70) (ci := 12) (v := .int (mi 13)) E hw30 inX12 0 13 q_1412 rfl rfl (by decide) rfl rfl dX12_keepsVillage_121 ?_
        refine cm_i (pc := 124) hw30 (rn_M (As := [.int (mi 13)]) (rest := [.ref M]) E hw30 (s_kept1 l D cI cJ _ M mr (upd mi 68 nkeptAt_25) (va_up mf 69 gimages_26) mg (mi 13) h0 (by show 0 ≤ nkeptAt_25.toInt ∧ nkeptAt_25.toInt ≤ 3599; omega)) (gdV q_2125 q_2127 q_146 q_162 q_2128) hdV_X12_kept ⟨rfl, rfl⟩ ⟨(Nat.le_of_ble_eq_true rfl), (Nat.le_of_ble_eq_true rfl)⟩ ⟨(Nat.le_of_ble_eq_true rfl), (Nat.le_of_ble_eq_true rfl)⟩ 12 rfl rfl rfl rfl hl20.1 rfl (Nat.le_of_ble_eq_true rfl) dX12_keepsVillage_124) (fun r_32 u_31 H1 locs hp hw33 => ?_)
        obtain ⟨nkeptAt_34, gimages_35⟩ := u_31
        generalize H1 = H at hw33 ⊢
        have hw36 : WD D A s.heap (MW cI cJ M mr (upd mi 68 nkeptAt_34) (va_up mf 69 gimages_35) mg) H locs := hw33
        obtain ⟨hp_37, hp_38⟩ := hp
        have hp_37 : nkeptAt_34.toInt = nkeptAt_25.toInt + 1 := hp_37
        have hp_38 : (gimages_35 = upd gimages_26 (nkeptAt_25).toNatClampNeg (mi 13) ∧ r_32 = (mi 13)) := hp_38
        obtain ⟨egimages_35, rfl⟩ := hp_38
        refine x_put (pc := 127) (T := TX12) (N := 70) (ci := 12) (ws' := (MW cI cJ M mr (upd mi 68 nkeptAt_34) (va_up mf 69 gimages_35) mg)) E hw36 inX12 tyX12_ok nmX12 0 13 q_1412 rfl rfl (by decide) rfl rfl rfl rfl (Nat.le_of_ble_eq_true rfl) rfl dX12_keepsVillage_127 (fun H locs hw39 => ?_)
        refine lv_aload_n (pc := 130) E.1 E.2.1 dX12_keepsVillage_130 rfl (lv_at hl20 1 rfl) ?_
        refine lv_aload_n (pc := 131) E.1 E.2.1 dX12_keepsVillage_131 rfl (lv_at hl20 1 rfl) ?_
        refine lv_aload_n (pc := 132) E.1 E.2.1 dX12_keepsVillage_132 rfl (lv_at hl20 1 rfl) ?_
        refine x_get (pc := 133) (T := TX12) (N := 70) (ci := 12) (v := .int (mi 14)) E hw39 inX12 0 14 q_1413 rfl rfl (by decide) rfl rfl dX12_keepsVillage_133 ?_
        refine cm_i (pc := 136) hw39 (rn_M (As := [.int (mi 14)]) (rest := [.ref M]) E hw39 (s_kept1 l D cI cJ _ M mr (upd mi 68 nkeptAt_34) (va_up mf 69 gimages_35) mg (mi 14) h0 (by show 0 ≤ nkeptAt_34.toInt ∧ nkeptAt_34.toInt ≤ 3599; omega)) (gdV q_2125 q_2127 q_146 q_162 q_2128) hdV_X12_kept ⟨rfl, rfl⟩ ⟨(Nat.le_of_ble_eq_true rfl), (Nat.le_of_ble_eq_true rfl)⟩ ⟨(Nat.le_of_ble_eq_true rfl), (Nat.le_of_ble_eq_true rfl)⟩ 12 rfl rfl rfl rfl hl20.1 rfl (Nat.le_of_ble_eq_true rfl) dX12_keepsVillage_136) (fun r_41 u_40 H1 locs hp hw42 => ?_)
        obtain ⟨nkeptAt_43, gimages_44⟩ := u_40
        generalize H1 = H at hw42 ⊢
        have hw45 : WD D A s.heap (MW cI cJ M mr (upd mi 68 nkeptAt_43) (va_up mf 69 gimages_44) mg) H locs := hw42
        obtain ⟨hp_46, hp_47⟩ := hp
        have hp_46 : nkeptAt_43.toInt = nkeptAt_34.toInt + 1 := hp_46
        have hp_47 : (gimages_44 = upd gimages_35 (nkeptAt_34).toNatClampNeg (mi 14) ∧ r_41 = (mi 14)) := hp_47
        obtain ⟨egimages_44, rfl⟩ := hp_47
        refine x_put (pc := 139) (T := TX12) (N := 70) (ci := 12) (ws' := (MW cI cJ M mr (upd mi 68 nkeptAt_43) (va_up mf 69 gimages_44) mg)) E hw45 inX12 tyX12_ok nmX12 0 14 q_1413 rfl rfl (by decide) rfl rfl rfl rfl (Nat.le_of_ble_eq_true rfl) rfl dX12_keepsVillage_139 (fun H locs hw48 => ?_)
        refine lv_aload_n (pc := 142) E.1 E.2.1 dX12_keepsVillage_142 rfl (lv_at hl20 1 rfl) ?_
        refine lv_aload_n (pc := 143) E.1 E.2.1 dX12_keepsVillage_143 rfl (lv_at hl20 1 rfl) ?_
        refine lv_aload_n (pc := 144) E.1 E.2.1 dX12_keepsVillage_144 rfl (lv_at hl20 1 rfl) ?_
        refine x_get (pc := 145) (T := TX12) (N := 70) (ci := 12) (v := .int (mi 15)) E hw48 inX12 0 15 q_1414 rfl rfl (by decide) rfl rfl dX12_keepsVillage_145 ?_
        refine cm_i (pc := 148) hw48 (rn_M (As := [.int (mi 15)]) (rest := [.ref M]) E hw48 (s_kept1 l D cI cJ _ M mr (upd mi 68 nkeptAt_43) (va_up mf 69 gimages_44) mg (mi 15) h0 (by show 0 ≤ nkeptAt_43.toInt ∧ nkeptAt_43.toInt ≤ 3599; omega)) (gdV q_2125 q_2127 q_146 q_162 q_2128) hdV_X12_kept ⟨rfl, rfl⟩ ⟨(Nat.le_of_ble_eq_true rfl), (Nat.le_of_ble_eq_true rfl)⟩ ⟨(Nat.le_of_ble_eq_true rfl), (Nat.le_of_ble_eq_true rfl)⟩ 12 rfl rfl rfl rfl hl20.1 rfl (Nat.le_of_ble_eq_true rfl) dX12_keepsVillage_148) (fun r_50 u_49 H1 locs hp hw51 => ?_)
        obtain ⟨nkeptAt_52, gimages_53⟩ := u_49
        generalize H1 = H at hw51 ⊢
        have hw54 : WD D A s.heap (MW cI cJ M mr (upd mi 68 nkeptAt_52) (va_up mf 69 gimages_53) mg) H locs := hw51
        obtain ⟨hp_55, hp_56⟩ := hp
        have hp_55 : nkeptAt_52.toInt = nkeptAt_43.toInt + 1 := hp_55
        have hp_56 : (gimages_53 = upd gimages_44 (nkeptAt_43).toNatClampNeg (mi 15) ∧ r_50 = (mi 15)) := hp_56
        obtain ⟨egimages_53, rfl⟩ := hp_56
        refine x_put (pc := 151) (T := TX12) (N := 70) (ci := 12) (ws' := (MW cI cJ M mr (upd mi 68 nkeptAt_52) (va_up mf 69 gimages_53) mg)) E hw54 inX12 tyX12_ok nmX12 0 15 q_1414 rfl rfl (by decide) rfl rfl rfl rfl (Nat.le_of_ble_eq_true rfl) rfl dX12_keepsVillage_151 (fun H locs hw57 => ?_)
        refine lv_aload_n (pc := 154) E.1 E.2.1 dX12_keepsVillage_154 rfl (lv_at hl20 1 rfl) ?_
        refine lv_aload_n (pc := 155) E.1 E.2.1 dX12_keepsVillage_155 rfl (lv_at hl20 1 rfl) ?_
        refine lv_aload_n (pc := 156) E.1 E.2.1 dX12_keepsVillage_156 rfl (lv_at hl20 1 rfl) ?_
        refine x_get (pc := 157) (T := TX12) (N := 70) (ci := 12) (v := .int (mi 17)) E hw57 inX12 0 17 q_1416 rfl rfl (by decide) rfl rfl dX12_keepsVillage_157 ?_
        refine cm_i (pc := 160) hw57 (rn_M (As := [.int (mi 17)]) (rest := [.ref M]) E hw57 (s_kept1 l D cI cJ _ M mr (upd mi 68 nkeptAt_52) (va_up mf 69 gimages_53) mg (mi 17) h0 (by show 0 ≤ nkeptAt_52.toInt ∧ nkeptAt_52.toInt ≤ 3599; omega)) (gdV q_2125 q_2127 q_146 q_162 q_2128) hdV_X12_kept ⟨rfl, rfl⟩ ⟨(Nat.le_of_ble_eq_true rfl), (Nat.le_of_ble_eq_true rfl)⟩ ⟨(Nat.le_of_ble_eq_true rfl), (Nat.le_of_ble_eq_true rfl)⟩ 12 rfl rfl rfl rfl hl20.1 rfl (Nat.le_of_ble_eq_true rfl) dX12_keepsVillage_160) (fun r_59 u_58 H1 locs hp hw60 => ?_)
        obtain ⟨nkeptAt_61, gimages_62⟩ := u_58
        generalize H1 = H at hw60 ⊢
        have hw63 : WD D A s.heap (MW cI cJ M mr (upd mi 68 nkeptAt_61) (va_up mf 69 gimages_62) mg) H locs := hw60
        obtain ⟨hp_64, hp_65⟩ := hp
        have hp_64 : nkeptAt_61.toInt = nkeptAt_52.toInt + 1 := hp_64
        have hp_65 : (gimages_62 = upd gimages_53 (nkeptAt_52).toNatClampNeg (mi 17) ∧ r_59 = (mi 17)) := hp_65
        obtain ⟨egimages_62, rfl⟩ := hp_65
        refine x_put (pc := 163) (T := TX12) (N := 70) (ci := 12) (ws' := (MW cI cJ M mr (upd mi 68 nkeptAt_61) (va_up mf 69 gimages_62) mg)) E hw63 inX12 tyX12_ok nmX12 0 17 q_1416 rfl rfl (by decide) rfl rfl rfl rfl (Nat.le_of_ble_eq_true rfl) rfl dX12_keepsVillage_163 (fun H locs hw66 => ?_)
        refine lv_iconst (pc := 166) (v := 0) E.1 E.2.1 dX12_keepsVillage_166 (by decide +kernel) ?_
        refine lv_istore_n (pc := 167) (lv' := [(1, .int 0), (0, .ref M)]) E.1 E.2.1 dX12_keepsVillage_167 rfl hl20 (by decide) rfl (fun ls hl67 => ?_)
        have loop_68 : ∀ (k : Nat) (x_69 : Int32) (x_70 : Int32) (g_71 : Nat → Int32) (H : Heap) (locs : List Loc) (ls : Array Slot), (0 ≤ x_69.toInt) ∧ (x_69.toInt ≤ 8) ∧ (x_70.toInt = 122 + 2 * x_69.toInt) ∧ (FRM gimages_62 g_71 122) → 8 - x_69.toInt < (k : Int) → WD D A s.heap (MW cI cJ M mr (upd mi 68 x_70) (va_up mf 69 g_71) mg) H locs → lv_has ls 2 [(1, .int x_69), (0, .ref M)] → W p l e ({ frames := 2, cells := 0, slots := 0, locals := 61 } : Room) s m ([.ref M] : List Value).toArray below meth c H locs 0 0 (MQ below (va_Qv (fun (u : Int32 × (Nat → Int32)) => (u.1.toInt = 138) ∧ (((u.2 66).toInt = (mi 6).toInt ∧ SGT u.2 (mf 8) 0 68 5 10 ∧ (u.2 120).toInt = (mi 15).toInt ∧ (u.2 121).toInt = (mi 17).toInt ∧ FRM (mf 69) u.2 66)) ∧ (SGT u.2 (mf 7) 0 67 5 10) ∧ ((u.2 117).toInt = (mi 12).toInt)) (fun u => QW D cI cJ A ((fun (u : Int32 × (Nat → Int32)) => (MW cI cJ M mr (upd mi 68 u.1) (va_up mf 69 u.2) mg)) u)) A) ([.ref M] : List Value).toArray s 0 0 A) (F0 m 168 ls []) := by
          intro k
          induction k with
          | zero =>
            intro x_69 x_70 g_71 _ _ _ hinv hm
            obtain ⟨hi_71_0, hi_71_1, hi_71_2, hi_71_3⟩ := hinv
            exact absurd hm (by omega)
          | succ k ih_72 =>
            intro x_69 x_70 g_71 H locs ls hinv hm hw73 hl74
            obtain ⟨hi_71_0, hi_71_1, hi_71_2, hi_71_3⟩ := hinv
            refine lv_iload_n (pc := 168) E.1 E.2.1 dX12_keepsVillage_168 rfl (lv_at hl74 0 rfl) ?_
            refine lv_bipush (pc := 169) (v := 8) E.1 E.2.1 dX12_keepsVillage_169 (by decide +kernel) ?_
            refine lv_icmp_ge (pc := 171) (tgt := 212) E.1 E.2.1 dX12_keepsVillage_171 (by decide) (fun c_75 => ?_) (fun c_75 => ?_)
            · skip
              have hc_75 := leE (a := 8) (b := x_69.toInt) (by decide +kernel) rfl c_75
              exact em_v (w1 := (fun (u : Int32 × (Nat → Int32)) => (MW cI cJ M mr (upd mi 68 u.1) (va_up mf 69 u.2) mg))) E hr hlk (x_70, g_71) hw73 ⟨(by show x_70.toInt = 138; omega), (show ((g_71 66).toInt = (mi 6).toInt ∧ SGT g_71 (mf 8) 0 68 5 10 ∧ (g_71 120).toInt = (mi 15).toInt ∧ (g_71 121).toInt = (mi 17).toInt ∧ FRM (mf 69) g_71 66) from ⟨(by have q := ((hi_71_3 66 (by omega)).trans ((un1 (j := 66) egimages_62 (by omega) (by omega)).trans ((un1 (j := 66) egimages_53 (by omega) (by omega)).trans ((un1 (j := 66) egimages_44 (by omega) (by omega)).trans ((un1 (j := 66) egimages_35 (by omega) (by omega)).trans ((un1 (j := 66) egimages_26 (by omega) (by omega)).trans ((hi_17_3 66 (by omega)).trans (us1 (j := 66) egimages_8 (by omega) (by omega))))))))); rw [q]), (SGT_fr (SGT_keep (SGT_keep (SGT_keep (SGT_keep (SGT_keep (SGT_n hi_17_4 (by omega)) egimages_26 (by omega) (fun j hj => by omega)) egimages_35 (by omega) (fun j hj => by omega)) egimages_44 (by omega) (fun j hj => by omega)) egimages_53 (by omega) (fun j hj => by omega)) egimages_62 (by omega) (fun j hj => by omega)) hi_71_3 (fun j hj => by omega)), (by have q := ((hi_71_3 120 (by omega)).trans ((un1 (j := 120) egimages_62 (by omega) (by omega)).trans (us1 (j := 120) egimages_53 (by omega) (by omega)))); rw [q]), (by have q := ((hi_71_3 121 (by omega)).trans (us1 (j := 121) egimages_62 (by omega) (by omega))); rw [q]), (FRM_fr (FRM_put (FRM_put (FRM_put (FRM_put (FRM_put (FRM_fr (FRM_put FRM_nil egimages_8 (by omega)) hi_17_3 (by decide)) egimages_26 (by omega)) egimages_35 (by omega)) egimages_44 (by omega)) egimages_53 (by omega)) egimages_62 (by omega)) hi_71_3 (by decide))⟩), (show SGT g_71 (mf 7) 0 67 5 10 from (SGT_fr (SGT_keep (SGT_keep (SGT_keep (SGT_keep (SGT_keep (SGT_n hi_17_5 (by omega)) egimages_26 (by omega) (fun j hj => by omega)) egimages_35 (by omega) (fun j hj => by omega)) egimages_44 (by omega) (fun j hj => by omega)) egimages_53 (by omega) (fun j hj => by omega)) egimages_62 (by omega) (fun j hj => by omega)) hi_71_3 (fun j hj => by omega))), (show (g_71 117).toInt = (mi 12).toInt from (by have q := ((hi_71_3 117 (by omega)).trans ((un1 (j := 117) egimages_62 (by omega) (by omega)).trans ((un1 (j := 117) egimages_53 (by omega) (by omega)).trans ((un1 (j := 117) egimages_44 (by omega) (by omega)).trans ((un1 (j := 117) egimages_35 (by omega) (by omega)).trans (us1 (j := 117) egimages_26 (by omega) (by omega))))))); rw [q]))⟩ (Nat.le_of_ble_eq_true rfl) (Nat.le_of_ble_eq_true rfl) dX12_keepsVillage_212
            · skip
              have hc_75 := nleE (a := 8) (b := x_69.toInt) (by decide +kernel) rfl c_75
              refine lv_aload_n (pc := 174) E.1 E.2.1 dX12_keepsVillage_174 rfl (lv_at hl74 1 rfl) ?_
              refine x_get (pc := 175) (T := TX12) (N := 70) (ci := 12) (v := .ref (mr 18)) E hw73 inX12 0 18 q_1417 rfl rfl (by decide) rfl rfl dX12_keepsVillage_175 ?_
              refine lv_iload_n (pc := 178) E.1 E.2.1 dX12_keepsVillage_178 rfl (lv_at hl74 0 rfl) ?_
              refine lv_aload_n (pc := 179) E.1 E.2.1 dX12_keepsVillage_179 rfl (lv_at hl74 1 rfl) ?_
              refine lv_aload_n (pc := 180) E.1 E.2.1 dX12_keepsVillage_180 rfl (lv_at hl74 1 rfl) ?_
              refine x_get (pc := 181) (T := TX12) (N := 70) (ci := 12) (v := .ref (mr 18)) E hw73 inX12 0 18 q_1417 rfl rfl (by decide) rfl rfl dX12_keepsVillage_181 ?_
              refine lv_iload_n (pc := 184) E.1 E.2.1 dX12_keepsVillage_184 rfl (lv_at hl74 0 rfl) ?_
              refine x_iald (pc := 185) (f := (mf 18)) E hw73 10 rfl (inbE (a := x_69.toInt) rfl (by omega)) dX12_keepsVillage_185 ?_
              refine lv_topi (fun v_76 ev_76 => ?_)
              refine cm_i (pc := 186) hw73 (rn_M (As := [.int v_76]) (rest := [.int x_69, .ref (mr 18)]) E hw73 (s_kept1 l D cI cJ _ M mr (upd mi 68 x_70) (va_up mf 69 g_71) mg v_76 h0 (by show 0 ≤ x_70.toInt ∧ x_70.toInt ≤ 3599; omega)) (gdV q_2125 q_2127 q_146 q_162 q_2128) hdV_X12_kept ⟨rfl, rfl⟩ ⟨(Nat.le_of_ble_eq_true rfl), (Nat.le_of_ble_eq_true rfl)⟩ ⟨(Nat.le_of_ble_eq_true rfl), (Nat.le_of_ble_eq_true rfl)⟩ 12 rfl rfl rfl rfl hl74.1 rfl (Nat.le_of_ble_eq_true rfl) dX12_keepsVillage_186) (fun r_78 u_77 H1 locs hp hw79 => ?_)
              obtain ⟨nkeptAt_80, gimages_81⟩ := u_77
              generalize H1 = H at hw79 ⊢
              have hw82 : WD D A s.heap (MW cI cJ M mr (upd mi 68 nkeptAt_80) (va_up mf 69 gimages_81) mg) H locs := hw79
              obtain ⟨hp_83, hp_84⟩ := hp
              have hp_83 : nkeptAt_80.toInt = x_70.toInt + 1 := hp_83
              have hp_84 : (gimages_81 = upd g_71 (x_70).toNatClampNeg v_76 ∧ r_78 = v_76) := hp_84
              obtain ⟨egimages_81, rfl⟩ := hp_84
              refine x_iastG (pc := 189) (f := (mf 18)) (wf := fun g => (MW cI cJ M mr (upd mi 68 nkeptAt_80) (va_up (va_up mf 18 g) 69 gimages_81) mg)) E hw82 10 rfl (inbE (a := x_69.toInt) rfl (by omega)) (fun _ => rfl) dX12_keepsVillage_189 (fun g_85 H locs eg_85 hw86 => ?_)
              obtain rfl : g_85 = (mf 18) := by rw [eg_85]; exact upd_same ev_76
              have hw87 : WD D A s.heap (MW cI cJ M mr (upd mi 68 nkeptAt_80) (va_up mf 69 gimages_81) mg) H locs := hw86
              refine lv_aload_n (pc := 190) E.1 E.2.1 dX12_keepsVillage_190 rfl (lv_at hl74 1 rfl) ?_
              refine x_get (pc := 191) (T := TX12) (N := 70) (ci := 12) (v := .ref (mr 19)) E hw87 inX12 0 19 q_1418 rfl rfl (by decide) rfl rfl dX12_keepsVillage_191 ?_
              refine lv_iload_n (pc := 194) E.1 E.2.1 dX12_keepsVillage_194 rfl (lv_at hl74 0 rfl) ?_
              refine lv_aload_n (pc := 195) E.1 E.2.1 dX12_keepsVillage_195 rfl (lv_at hl74 1 rfl) ?_
              refine lv_aload_n (pc := 196) E.1 E.2.1 dX12_keepsVillage_196 rfl (lv_at hl74 1 rfl) ?_
              refine x_get (pc := 197) (T := TX12) (N := 70) (ci := 12) (v := .ref (mr 19)) E hw87 inX12 0 19 q_1418 rfl rfl (by decide) rfl rfl dX12_keepsVillage_197 ?_
              refine lv_iload_n (pc := 200) E.1 E.2.1 dX12_keepsVillage_200 rfl (lv_at hl74 0 rfl) ?_
              refine x_iald (pc := 201) (f := (mf 19)) E hw87 11 rfl (inbE (a := x_69.toInt) rfl (by omega)) dX12_keepsVillage_201 ?_
              refine lv_topi (fun v_88 ev_88 => ?_)
              refine cm_i (pc := 202) hw87 (rn_M (As := [.int v_88]) (rest := [.int x_69, .ref (mr 19)]) E hw87 (s_kept1 l D cI cJ _ M mr (upd mi 68 nkeptAt_80) (va_up mf 69 gimages_81) mg v_88 h0 (by show 0 ≤ nkeptAt_80.toInt ∧ nkeptAt_80.toInt ≤ 3599; omega)) (gdV q_2125 q_2127 q_146 q_162 q_2128) hdV_X12_kept ⟨rfl, rfl⟩ ⟨(Nat.le_of_ble_eq_true rfl), (Nat.le_of_ble_eq_true rfl)⟩ ⟨(Nat.le_of_ble_eq_true rfl), (Nat.le_of_ble_eq_true rfl)⟩ 12 rfl rfl rfl rfl hl74.1 rfl (Nat.le_of_ble_eq_true rfl) dX12_keepsVillage_202) (fun r_90 u_89 H1 locs hp hw91 => ?_)
              obtain ⟨nkeptAt_92, gimages_93⟩ := u_89
              generalize H1 = H at hw91 ⊢
              have hw94 : WD D A s.heap (MW cI cJ M mr (upd mi 68 nkeptAt_92) (va_up mf 69 gimages_93) mg) H locs := hw91
              obtain ⟨hp_95, hp_96⟩ := hp
              have hp_95 : nkeptAt_92.toInt = nkeptAt_80.toInt + 1 := hp_95
              have hp_96 : (gimages_93 = upd gimages_81 (nkeptAt_80).toNatClampNeg v_88 ∧ r_90 = v_88) := hp_96
              obtain ⟨egimages_93, rfl⟩ := hp_96
              refine x_iastG (pc := 205) (f := (mf 19)) (wf := fun g => (MW cI cJ M mr (upd mi 68 nkeptAt_92) (va_up (va_up mf 19 g) 69 gimages_93) mg)) E hw94 11 rfl (inbE (a := x_69.toInt) rfl (by omega)) (fun _ => rfl) dX12_keepsVillage_205 (fun g_97 H locs eg_97 hw98 => ?_)
              obtain rfl : g_97 = (mf 19) := by rw [eg_97]; exact upd_same ev_88
              have hw99 : WD D A s.heap (MW cI cJ M mr (upd mi 68 nkeptAt_92) (va_up mf 69 gimages_93) mg) H locs := hw98
              obtain ⟨v_100, ev_100⟩ : ∃ z : Int32, x_69 + Int32.ofInt (1) = z := ⟨_, rfl⟩
              have hv_100 : v_100.toInt = x_69.toInt + (1) := by rw [← ev_100]; exact incE rfl (by decide) (by omega)
              refine lv_iinc (pc := 206) (v := v_100) (lv' := [(1, .int v_100), (0, .ref M)]) E.1 E.2.1 dX12_keepsVillage_206 hl74 (k := 0) rfl ev_100 (by decide) rfl (fun ls hl101 => ?_)
              refine lv_goto (pc := 209) (tgt := 168) E.1 E.2.1 dX12_keepsVillage_209 (by decide) ?_
              exact ih_72 v_100 nkeptAt_92 gimages_93 _ _ _ ⟨(by show 0 ≤ v_100.toInt; omega), (by show v_100.toInt ≤ 8; omega), (by show nkeptAt_92.toInt = 122 + 2 * v_100.toInt; omega), (FRM_put (FRM_put hi_71_3 egimages_81 (by omega)) egimages_93 (by omega))⟩ (by omega) hw99 (lv_sub hl101 [0, 1] rfl)
        exact loop_68 (Int.toNat (8 - 0) + 1) 0 nkeptAt_61 gimages_62 _ _ _ ⟨(by show 0 ≤ (0 : Int32).toInt; have k_0 : (0 : Int32).toInt = 0 := (by decide +kernel); omega), (by show (0 : Int32).toInt ≤ 8; have k_0 : (0 : Int32).toInt = 0 := (by decide +kernel); omega), (by show nkeptAt_61.toInt = 122 + 2 * (0 : Int32).toInt; have k_0 : (0 : Int32).toInt = 0 := (by decide +kernel); omega), FRM_nil⟩ (by have k_0 : (0 : Int32).toInt = 0 := (by decide +kernel); omega) hw66 (lv_sub hl67 [0, 1] rfl)
      · skip
        have hc_21 := nleE (a := 10) (b := x_15.toInt) (by decide +kernel) rfl c_21
        refine lv_aload_n (pc := 20) E.1 E.2.1 dX12_keepsVillage_20 rfl (lv_at hl20 1 rfl) ?_
        refine x_get (pc := 21) (T := TX12) (N := 70) (ci := 12) (v := .ref (mr 7)) E hw19 inX12 0 7 q_1406 rfl rfl (by decide) rfl rfl dX12_keepsVillage_21 ?_
        refine lv_iload_n (pc := 24) E.1 E.2.1 dX12_keepsVillage_24 rfl (lv_at hl20 0 rfl) ?_
        refine lv_aload_n (pc := 25) E.1 E.2.1 dX12_keepsVillage_25 rfl (lv_at hl20 1 rfl) ?_
        refine lv_aload_n (pc := 26) E.1 E.2.1 dX12_keepsVillage_26 rfl (lv_at hl20 1 rfl) ?_
        refine x_get (pc := 27) (T := TX12) (N := 70) (ci := 12) (v := .ref (mr 7)) E hw19 inX12 0 7 q_1406 rfl rfl (by decide) rfl rfl dX12_keepsVillage_27 ?_
        refine lv_iload_n (pc := 30) E.1 E.2.1 dX12_keepsVillage_30 rfl (lv_at hl20 0 rfl) ?_
        refine x_iald (pc := 31) (f := (mf 7)) E hw19 4 rfl (inbE (a := x_15.toInt) rfl (by omega)) dX12_keepsVillage_31 ?_
        refine lv_topi (fun v_102 ev_102 => ?_)
        refine cm_i (pc := 32) hw19 (rn_M (As := [.int v_102]) (rest := [.int x_15, .ref (mr 7)]) E hw19 (s_kept1 l D cI cJ _ M mr (upd mi 68 x_16) (va_up mf 69 g_17) mg v_102 h0 (by show 0 ≤ x_16.toInt ∧ x_16.toInt ≤ 3599; omega)) (gdV q_2125 q_2127 q_146 q_162 q_2128) hdV_X12_kept ⟨rfl, rfl⟩ ⟨(Nat.le_of_ble_eq_true rfl), (Nat.le_of_ble_eq_true rfl)⟩ ⟨(Nat.le_of_ble_eq_true rfl), (Nat.le_of_ble_eq_true rfl)⟩ 12 rfl rfl rfl rfl hl20.1 rfl (Nat.le_of_ble_eq_true rfl) dX12_keepsVillage_32) (fun r_104 u_103 H1 locs hp hw105 => ?_)
        obtain ⟨nkeptAt_106, gimages_107⟩ := u_103
        generalize H1 = H at hw105 ⊢
        have hw108 : WD D A s.heap (MW cI cJ M mr (upd mi 68 nkeptAt_106) (va_up mf 69 gimages_107) mg) H locs := hw105
        obtain ⟨hp_109, hp_110⟩ := hp
        have hp_109 : nkeptAt_106.toInt = x_16.toInt + 1 := hp_109
        have hp_110 : (gimages_107 = upd g_17 (x_16).toNatClampNeg v_102 ∧ r_104 = v_102) := hp_110
        obtain ⟨egimages_107, rfl⟩ := hp_110
        refine x_iastG (pc := 35) (f := (mf 7)) (wf := fun g => (MW cI cJ M mr (upd mi 68 nkeptAt_106) (va_up (va_up mf 7 g) 69 gimages_107) mg)) E hw108 4 rfl (inbE (a := x_15.toInt) rfl (by omega)) (fun _ => rfl) dX12_keepsVillage_35 (fun g_111 H locs eg_111 hw112 => ?_)
        obtain rfl : g_111 = (mf 7) := by rw [eg_111]; exact upd_same ev_102
        have hw113 : WD D A s.heap (MW cI cJ M mr (upd mi 68 nkeptAt_106) (va_up mf 69 gimages_107) mg) H locs := hw112
        refine lv_aload_n (pc := 36) E.1 E.2.1 dX12_keepsVillage_36 rfl (lv_at hl20 1 rfl) ?_
        refine x_get (pc := 37) (T := TX12) (N := 70) (ci := 12) (v := .ref (mr 8)) E hw113 inX12 0 8 q_1407 rfl rfl (by decide) rfl rfl dX12_keepsVillage_37 ?_
        refine lv_iload_n (pc := 40) E.1 E.2.1 dX12_keepsVillage_40 rfl (lv_at hl20 0 rfl) ?_
        refine lv_aload_n (pc := 41) E.1 E.2.1 dX12_keepsVillage_41 rfl (lv_at hl20 1 rfl) ?_
        refine lv_aload_n (pc := 42) E.1 E.2.1 dX12_keepsVillage_42 rfl (lv_at hl20 1 rfl) ?_
        refine x_get (pc := 43) (T := TX12) (N := 70) (ci := 12) (v := .ref (mr 8)) E hw113 inX12 0 8 q_1407 rfl rfl (by decide) rfl rfl dX12_keepsVillage_43 ?_
        refine lv_iload_n (pc := 46) E.1 E.2.1 dX12_keepsVillage_46 rfl (lv_at hl20 0 rfl) ?_
        refine x_iald (pc := 47) (f := (mf 8)) E hw113 5 rfl (inbE (a := x_15.toInt) rfl (by omega)) dX12_keepsVillage_47 ?_
        refine lv_topi (fun v_114 ev_114 => ?_)
        refine cm_i (pc := 48) hw113 (rn_M (As := [.int v_114]) (rest := [.int x_15, .ref (mr 8)]) E hw113 (s_kept1 l D cI cJ _ M mr (upd mi 68 nkeptAt_106) (va_up mf 69 gimages_107) mg v_114 h0 (by show 0 ≤ nkeptAt_106.toInt ∧ nkeptAt_106.toInt ≤ 3599; omega)) (gdV q_2125 q_2127 q_146 q_162 q_2128) hdV_X12_kept ⟨rfl, rfl⟩ ⟨(Nat.le_of_ble_eq_true rfl), (Nat.le_of_ble_eq_true rfl)⟩ ⟨(Nat.le_of_ble_eq_true rfl), (Nat.le_of_ble_eq_true rfl)⟩ 12 rfl rfl rfl rfl hl20.1 rfl (Nat.le_of_ble_eq_true rfl) dX12_keepsVillage_48) (fun r_116 u_115 H1 locs hp hw117 => ?_)
        obtain ⟨nkeptAt_118, gimages_119⟩ := u_115
        generalize H1 = H at hw117 ⊢
        have hw120 : WD D A s.heap (MW cI cJ M mr (upd mi 68 nkeptAt_118) (va_up mf 69 gimages_119) mg) H locs := hw117
        obtain ⟨hp_121, hp_122⟩ := hp
        have hp_121 : nkeptAt_118.toInt = nkeptAt_106.toInt + 1 := hp_121
        have hp_122 : (gimages_119 = upd gimages_107 (nkeptAt_106).toNatClampNeg v_114 ∧ r_116 = v_114) := hp_122
        obtain ⟨egimages_119, rfl⟩ := hp_122
        refine x_iastG (pc := 51) (f := (mf 8)) (wf := fun g => (MW cI cJ M mr (upd mi 68 nkeptAt_118) (va_up (va_up mf 8 g) 69 gimages_119) mg)) E hw120 5 rfl (inbE (a := x_15.toInt) rfl (by omega)) (fun _ => rfl) dX12_keepsVillage_51 (fun g_123 H locs eg_123 hw124 => ?_)
        obtain rfl : g_123 = (mf 8) := by rw [eg_123]; exact upd_same ev_114
        have hw125 : WD D A s.heap (MW cI cJ M mr (upd mi 68 nkeptAt_118) (va_up mf 69 gimages_119) mg) H locs := hw124
        refine lv_aload_n (pc := 52) E.1 E.2.1 dX12_keepsVillage_52 rfl (lv_at hl20 1 rfl) ?_
        refine x_get (pc := 53) (T := TX12) (N := 70) (ci := 12) (v := .ref (mr 9)) E hw125 inX12 0 9 q_1408 rfl rfl (by decide) rfl rfl dX12_keepsVillage_53 ?_
        refine lv_iload_n (pc := 56) E.1 E.2.1 dX12_keepsVillage_56 rfl (lv_at hl20 0 rfl) ?_
        refine lv_aload_n (pc := 57) E.1 E.2.1 dX12_keepsVillage_57 rfl (lv_at hl20 1 rfl) ?_
        refine lv_aload_n (pc := 58) E.1 E.2.1 dX12_keepsVillage_58 rfl (lv_at hl20 1 rfl) ?_
        refine x_get (pc := 59) (T := TX12) (N := 70) (ci := 12) (v := .ref (mr 9)) E hw125 inX12 0 9 q_1408 rfl rfl (by decide) rfl rfl dX12_keepsVillage_59 ?_
        refine lv_iload_n (pc := 62) E.1 E.2.1 dX12_keepsVillage_62 rfl (lv_at hl20 0 rfl) ?_
        refine x_iald (pc := 63) (f := (mf 9)) E hw125 6 rfl (inbE (a := x_15.toInt) rfl (by omega)) dX12_keepsVillage_63 ?_
        refine lv_topi (fun v_126 ev_126 => ?_)
        refine cm_i (pc := 64) hw125 (rn_M (As := [.int v_126]) (rest := [.int x_15, .ref (mr 9)]) E hw125 (s_kept1 l D cI cJ _ M mr (upd mi 68 nkeptAt_118) (va_up mf 69 gimages_119) mg v_126 h0 (by show 0 ≤ nkeptAt_118.toInt ∧ nkeptAt_118.toInt ≤ 3599; omega)) (gdV q_2125 q_2127 q_146 q_162 q_2128) hdV_X12_kept ⟨rfl, rfl⟩ ⟨(Nat.le_of_ble_eq_true rfl), (Nat.le_of_ble_eq_true rfl)⟩ ⟨(Nat.le_of_ble_eq_true rfl), (Nat.le_of_ble_eq_true rfl)⟩ 12 rfl rfl rfl rfl hl20.1 rfl (Nat.le_of_ble_eq_true rfl) dX12_keepsVillage_64) (fun r_128 u_127 H1 locs hp hw129 => ?_)
        obtain ⟨nkeptAt_130, gimages_131⟩ := u_127
        generalize H1 = H at hw129 ⊢
        have hw132 : WD D A s.heap (MW cI cJ M mr (upd mi 68 nkeptAt_130) (va_up mf 69 gimages_131) mg) H locs := hw129
        obtain ⟨hp_133, hp_134⟩ := hp
        have hp_133 : nkeptAt_130.toInt = nkeptAt_118.toInt + 1 := hp_133
        have hp_134 : (gimages_131 = upd gimages_119 (nkeptAt_118).toNatClampNeg v_126 ∧ r_128 = v_126) := hp_134
        obtain ⟨egimages_131, rfl⟩ := hp_134
        refine x_iastG (pc := 67) (f := (mf 9)) (wf := fun g => (MW cI cJ M mr (upd mi 68 nkeptAt_130) (va_up (va_up mf 9 g) 69 gimages_131) mg)) E hw132 6 rfl (inbE (a := x_15.toInt) rfl (by omega)) (fun _ => rfl) dX12_keepsVillage_67 (fun g_135 H locs eg_135 hw136 => ?_)
        obtain rfl : g_135 = (mf 9) := by rw [eg_135]; exact upd_same ev_126
        have hw137 : WD D A s.heap (MW cI cJ M mr (upd mi 68 nkeptAt_130) (va_up mf 69 gimages_131) mg) H locs := hw136
        refine lv_aload_n (pc := 68) E.1 E.2.1 dX12_keepsVillage_68 rfl (lv_at hl20 1 rfl) ?_
        refine x_get (pc := 69) (T := TX12) (N := 70) (ci := 12) (v := .ref (mr 10)) E hw137 inX12 0 10 q_1409 rfl rfl (by decide) rfl rfl dX12_keepsVillage_69 ?_
        refine lv_iload_n (pc := 72) E.1 E.2.1 dX12_keepsVillage_72 rfl (lv_at hl20 0 rfl) ?_
        refine lv_aload_n (pc := 73) E.1 E.2.1 dX12_keepsVillage_73 rfl (lv_at hl20 1 rfl) ?_
        refine lv_aload_n (pc := 74) E.1 E.2.1 dX12_keepsVillage_74 rfl (lv_at hl20 1 rfl) ?_
        refine x_get (pc := 75) (T := TX12) (N := 70) (ci := 12) (v := .ref (mr 10)) E hw137 inX12 0 10 q_1409 rfl rfl (by decide) rfl rfl dX12_keepsVillage_75 ?_
        refine lv_iload_n (pc := 78) E.1 E.2.1 dX12_keepsVillage_78 rfl (lv_at hl20 0 rfl) ?_
        refine x_iald (pc := 79) (f := (mf 10)) E hw137 7 rfl (inbE (a := x_15.toInt) rfl (by omega)) dX12_keepsVillage_79 ?_
        refine lv_topi (fun v_138 ev_138 => ?_)
        refine cm_i (pc := 80) hw137 (rn_M (As := [.int v_138]) (rest := [.int x_15, .ref (mr 10)]) E hw137 (s_kept1 l D cI cJ _ M mr (upd mi 68 nkeptAt_130) (va_up mf 69 gimages_131) mg v_138 h0 (by show 0 ≤ nkeptAt_130.toInt ∧ nkeptAt_130.toInt ≤ 3599; omega)) (gdV q_2125 q_2127 q_146 q_162 q_2128) hdV_X12_kept ⟨rfl, rfl⟩ ⟨(Nat.le_of_ble_eq_true rfl), (Nat.le_of_ble_eq_true rfl)⟩ ⟨(Nat.le_of_ble_eq_true rfl), (Nat.le_of_ble_eq_true rfl)⟩ 12 rfl rfl rfl rfl hl20.1 rfl (Nat.le_of_ble_eq_true rfl) dX12_keepsVillage_80) (fun r_140 u_139 H1 locs hp hw141 => ?_)
        obtain ⟨nkeptAt_142, gimages_143⟩ := u_139
        generalize H1 = H at hw141 ⊢
        have hw144 : WD D A s.heap (MW cI cJ M mr (upd mi 68 nkeptAt_142) (va_up mf 69 gimages_143) mg) H locs := hw141
        obtain ⟨hp_145, hp_146⟩ := hp
        have hp_145 : nkeptAt_142.toInt = nkeptAt_130.toInt + 1 := hp_145
        have hp_146 : (gimages_143 = upd gimages_131 (nkeptAt_130).toNatClampNeg v_138 ∧ r_140 = v_138) := hp_146
        obtain ⟨egimages_143, rfl⟩ := hp_146
        refine x_iastG (pc := 83) (f := (mf 10)) (wf := fun g => (MW cI cJ M mr (upd mi 68 nkeptAt_142) (va_up (va_up mf 10 g) 69 gimages_143) mg)) E hw144 7 rfl (inbE (a := x_15.toInt) rfl (by omega)) (fun _ => rfl) dX12_keepsVillage_83 (fun g_147 H locs eg_147 hw148 => ?_)
        obtain rfl : g_147 = (mf 10) := by rw [eg_147]; exact upd_same ev_138
        have hw149 : WD D A s.heap (MW cI cJ M mr (upd mi 68 nkeptAt_142) (va_up mf 69 gimages_143) mg) H locs := hw148
        refine lv_aload_n (pc := 84) E.1 E.2.1 dX12_keepsVillage_84 rfl (lv_at hl20 1 rfl) ?_
        refine x_get (pc := 85) (T := TX12) (N := 70) (ci := 12) (v := .ref (mr 11)) E hw149 inX12 0 11 q_1410 rfl rfl (by decide) rfl rfl dX12_keepsVillage_85 ?_
        refine lv_iload_n (pc := 88) E.1 E.2.1 dX12_keepsVillage_88 rfl (lv_at hl20 0 rfl) ?_
        refine lv_aload_n (pc := 89) E.1 E.2.1 dX12_keepsVillage_89 rfl (lv_at hl20 1 rfl) ?_
        refine lv_aload_n (pc := 90) E.1 E.2.1 dX12_keepsVillage_90 rfl (lv_at hl20 1 rfl) ?_
        refine x_get (pc := 91) (T := TX12) (N := 70) (ci := 12) (v := .ref (mr 11)) E hw149 inX12 0 11 q_1410 rfl rfl (by decide) rfl rfl dX12_keepsVillage_91 ?_
        refine lv_iload_n (pc := 94) E.1 E.2.1 dX12_keepsVillage_94 rfl (lv_at hl20 0 rfl) ?_
        refine x_iald (pc := 95) (f := (mf 11)) E hw149 8 rfl (inbE (a := x_15.toInt) rfl (by omega)) dX12_keepsVillage_95 ?_
        refine lv_topi (fun v_150 ev_150 => ?_)
        refine cm_i (pc := 96) hw149 (rn_M (As := [.int v_150]) (rest := [.int x_15, .ref (mr 11)]) E hw149 (s_kept1 l D cI cJ _ M mr (upd mi 68 nkeptAt_142) (va_up mf 69 gimages_143) mg v_150 h0 (by show 0 ≤ nkeptAt_142.toInt ∧ nkeptAt_142.toInt ≤ 3599; omega)) (gdV q_2125 q_2127 q_146 q_162 q_2128) hdV_X12_kept ⟨rfl, rfl⟩ ⟨(Nat.le_of_ble_eq_true rfl), (Nat.le_of_ble_eq_true rfl)⟩ ⟨(Nat.le_of_ble_eq_true rfl), (Nat.le_of_ble_eq_true rfl)⟩ 12 rfl rfl rfl rfl hl20.1 rfl (Nat.le_of_ble_eq_true rfl) dX12_keepsVillage_96) (fun r_152 u_151 H1 locs hp hw153 => ?_)
        obtain ⟨nkeptAt_154, gimages_155⟩ := u_151
        generalize H1 = H at hw153 ⊢
        have hw156 : WD D A s.heap (MW cI cJ M mr (upd mi 68 nkeptAt_154) (va_up mf 69 gimages_155) mg) H locs := hw153
        obtain ⟨hp_157, hp_158⟩ := hp
        have hp_157 : nkeptAt_154.toInt = nkeptAt_142.toInt + 1 := hp_157
        have hp_158 : (gimages_155 = upd gimages_143 (nkeptAt_142).toNatClampNeg v_150 ∧ r_152 = v_150) := hp_158
        obtain ⟨egimages_155, rfl⟩ := hp_158
        refine x_iastG (pc := 99) (f := (mf 11)) (wf := fun g => (MW cI cJ M mr (upd mi 68 nkeptAt_154) (va_up (va_up mf 11 g) 69 gimages_155) mg)) E hw156 8 rfl (inbE (a := x_15.toInt) rfl (by omega)) (fun _ => rfl) dX12_keepsVillage_99 (fun g_159 H locs eg_159 hw160 => ?_)
        obtain rfl : g_159 = (mf 11) := by rw [eg_159]; exact upd_same ev_150
        have hw161 : WD D A s.heap (MW cI cJ M mr (upd mi 68 nkeptAt_154) (va_up mf 69 gimages_155) mg) H locs := hw160
        obtain ⟨v_162, ev_162⟩ : ∃ z : Int32, x_15 + Int32.ofInt (1) = z := ⟨_, rfl⟩
        have hv_162 : v_162.toInt = x_15.toInt + (1) := by rw [← ev_162]; exact incE rfl (by decide) (by omega)
        refine lv_iinc (pc := 100) (v := v_162) (lv' := [(1, .int v_162), (0, .ref M)]) E.1 E.2.1 dX12_keepsVillage_100 hl20 (k := 0) rfl ev_162 (by decide) rfl (fun ls hl163 => ?_)
        refine lv_goto (pc := 103) (tgt := 14) E.1 E.2.1 dX12_keepsVillage_103 (by decide) ?_
        exact ih_18 v_162 nkeptAt_154 gimages_155 _ _ _ ⟨(by show 0 ≤ v_162.toInt; omega), (by show v_162.toInt ≤ 10; omega), (by show nkeptAt_154.toInt = 67 + 5 * v_162.toInt; omega), (FRM_put (FRM_put (FRM_put (FRM_put (FRM_put hi_17_3 egimages_107 (by omega)) egimages_119 (by omega)) egimages_131 (by omega)) egimages_143 (by omega)) egimages_155 (by omega)), (SGT_keep (SGT_keep (SGT_keep (SGT_put (SGT_keep hi_17_4 egimages_107 (by omega) (fun j hj => by omega)) egimages_119 (by omega) (by omega) ev_114 (by omega) (by decide) (m := v_162.toInt) (by omega)) egimages_131 (by omega) (fun j hj => by omega)) egimages_143 (by omega) (fun j hj => by omega)) egimages_155 (by omega) (fun j hj => by omega)), (SGT_keep (SGT_keep (SGT_keep (SGT_keep (SGT_put hi_17_5 egimages_107 (by omega) (by omega) ev_102 (by omega) (by decide) (m := v_162.toInt) (by omega)) egimages_119 (by omega) (fun j hj => by omega)) egimages_131 (by omega) (fun j hj => by omega)) egimages_143 (by omega) (fun j hj => by omega)) egimages_155 (by omega) (fun j hj => by omega))⟩ (by omega) hw161 (lv_sub hl163 [0, 1] rfl)
  exact loop_14 (Int.toNat (10 - 0) + 1) 0 nkeptAt_7 gimages_8 _ _ _ ⟨(by show 0 ≤ (0 : Int32).toInt; have k_0 : (0 : Int32).toInt = 0 := (by decide +kernel); omega), (by show (0 : Int32).toInt ≤ 10; have k_0 : (0 : Int32).toInt = 0 := (by decide +kernel); omega), (by show nkeptAt_7.toInt = 67 + 5 * (0 : Int32).toInt; have k_0 : (0 : Int32).toInt = 0 := (by decide +kernel); omega), FRM_nil, (SGT_nil (by decide +kernel)), (SGT_nil (by decide +kernel))⟩ (by have k_0 : (0 : Int32).toInt = 0 := (by decide +kernel); omega) hw12 (lv_sub hl13 [0, 1] rfl)
set_option maxHeartbeats 4000000 in
set_option maxRecDepth 100000 in
theorem s_keepsVillage0B (l : Launch) (D : va_G) (cI cJ : ClassId) (sz M : Nat) (mr : Nat → Nat) (mi : Nat → Int32) (mf : Nat → Nat → Int32) (mg : Nat → Nat → Int64)  (h0 : (mi 66).toInt = 0) (h1 : (mi 68).toInt = 66) : Met l yX12_keepsVillage (Cond.code yX12_keepsVillage cX12_keepsVillage 2 none :: GW) ({ frames := 2, cells := 0, slots := 0, locals := 61 } : Room) (va_Pc [.ref M] (PW D cI cJ sz (MW cI cJ M mr mi mf mg) xT)) (va_Qv (fun (u : Int32 × Int32 × (Nat → Int32) × (Nat → Int32) × (Nat → Int32) × (Nat → Int32) × (Nat → Int32) × Int32 × Int32 × Int32 × Int32 × Int32 × (Nat → Int32) × (Nat → Int32)) => (u.1.toInt = 138) ∧ ((u.2.1.toInt = ((mf 69) 66).toInt ∧ SGT (mf 69) u.2.2.2.1 0 68 5 10 ∧ u.2.2.2.2.2.2.2.2.2.2.1.toInt = ((mf 69) 120).toInt ∧ u.2.2.2.2.2.2.2.2.2.2.2.1.toInt = ((mf 69) 121).toInt)) ∧ (SGT (mf 69) u.2.2.1 0 67 5 10) ∧ (u.2.2.2.2.2.2.2.1.toInt = ((mf 69) 117).toInt)) (fun u => QW D cI cJ (va_A (MW cI cJ M mr mi mf mg) sz) ((fun (u : Int32 × Int32 × (Nat → Int32) × (Nat → Int32) × (Nat → Int32) × (Nat → Int32) × (Nat → Int32) × Int32 × Int32 × Int32 × Int32 × Int32 × (Nat → Int32) × (Nat → Int32)) => (MW cI cJ M mr (upd (upd (upd (upd (upd (upd (upd mi 68 u.1) 6 u.2.1) 12 u.2.2.2.2.2.2.2.1) 13 u.2.2.2.2.2.2.2.2.1) 14 u.2.2.2.2.2.2.2.2.2.1) 15 u.2.2.2.2.2.2.2.2.2.2.1) 17 u.2.2.2.2.2.2.2.2.2.2.2.1) (va_up (va_up (va_up (va_up (va_up (va_up (va_up mf 7 u.2.2.1) 8 u.2.2.2.1) 9 u.2.2.2.2.1) 10 u.2.2.2.2.2.1) 11 u.2.2.2.2.2.2.1) 18 u.2.2.2.2.2.2.2.2.2.2.2.2.1) 19 u.2.2.2.2.2.2.2.2.2.2.2.2.2) mg)) u)) (va_A (MW cI cJ M mr mi mf mg) sz)) 0 0 (va_A (MW cI cJ M mr mi mf mg) sz) := by
  refine mk_met (y := yX12_keepsVillage) (bytes := cX12_keepsVillage) (maxL := 2) (avs := [.ref M]) (WS := (MW cI cJ M mr mi mf mg)) (Qf := fun A => va_Qv (fun (u : Int32 × Int32 × (Nat → Int32) × (Nat → Int32) × (Nat → Int32) × (Nat → Int32) × (Nat → Int32) × Int32 × Int32 × Int32 × Int32 × Int32 × (Nat → Int32) × (Nat → Int32)) => (u.1.toInt = 138) ∧ ((u.2.1.toInt = ((mf 69) 66).toInt ∧ SGT (mf 69) u.2.2.2.1 0 68 5 10 ∧ u.2.2.2.2.2.2.2.2.2.2.1.toInt = ((mf 69) 120).toInt ∧ u.2.2.2.2.2.2.2.2.2.2.2.1.toInt = ((mf 69) 121).toInt)) ∧ (SGT (mf 69) u.2.2.1 0 67 5 10) ∧ (u.2.2.2.2.2.2.2.1.toInt = ((mf 69) 117).toInt)) (fun u => QW D cI cJ A ((fun (u : Int32 × Int32 × (Nat → Int32) × (Nat → Int32) × (Nat → Int32) × (Nat → Int32) × (Nat → Int32) × Int32 × Int32 × Int32 × Int32 × Int32 × (Nat → Int32) × (Nat → Int32)) => (MW cI cJ M mr (upd (upd (upd (upd (upd (upd (upd mi 68 u.1) 6 u.2.1) 12 u.2.2.2.2.2.2.2.1) 13 u.2.2.2.2.2.2.2.2.1) 14 u.2.2.2.2.2.2.2.2.2.1) 15 u.2.2.2.2.2.2.2.2.2.2.1) 17 u.2.2.2.2.2.2.2.2.2.2.2.1) (va_up (va_up (va_up (va_up (va_up (va_up (va_up mf 7 u.2.2.1) 8 u.2.2.2.1) 9 u.2.2.2.2.1) 10 u.2.2.2.2.2.1) 11 u.2.2.2.2.2.2.1) 18 u.2.2.2.2.2.2.2.2.2.2.2.2.1) 19 u.2.2.2.2.2.2.2.2.2.2.2.2.2) mg)) u)) A) (by decide) (Nat.le_of_ble_eq_true rfl) ?_
  intro p e s m below meth c A ls E hr hlk hnm hX hw1 hl2
  have hl3 : lv_has ls 2 [(0, .ref M)] := hl2
  refine lv_aload_n (pc := 0) E.1 E.2.1 dX12_keepsVillage_0 rfl (lv_at hl3 0 rfl) ?_
  refine lv_aload_n (pc := 1) E.1 E.2.1 dX12_keepsVillage_1 rfl (lv_at hl3 0 rfl) ?_
  refine lv_aload_n (pc := 2) E.1 E.2.1 dX12_keepsVillage_2 rfl (lv_at hl3 0 rfl) ?_
  refine x_get (pc := 3) (T := TX12) (N := 70) (ci := 12) (v := .int (mi 6)) E hw1 inX12 0 6 q_1405 rfl rfl (by decide) rfl rfl dX12_keepsVillage_3 ?_
  refine cm_i (pc := 6) hw1 (rn_M (As := [.int (mi 6)]) (rest := [.ref M]) E hw1 (s_kept0 l D cI cJ _ M mr mi mf mg (mi 6) h0 (by show 0 ≤ (mi 68).toInt ∧ (mi 68).toInt ≤ 3599; omega)) (gdV q_2125 q_2127 q_146 q_162 q_2128) hdV_X12_kept ⟨rfl, rfl⟩ ⟨(Nat.le_of_ble_eq_true rfl), (Nat.le_of_ble_eq_true rfl)⟩ ⟨(Nat.le_of_ble_eq_true rfl), (Nat.le_of_ble_eq_true rfl)⟩ 12 rfl rfl rfl rfl hl3.1 rfl (Nat.le_of_ble_eq_true rfl) dX12_keepsVillage_6) (fun r_5 u_4 H1 locs hp hw6 => ?_)
  obtain ⟨nkeptAt_7, rfl⟩ : ∃ z, z = u_4 := ⟨_, rfl⟩
  generalize H1 = H at hw6 ⊢
  have hw8 : WD D A s.heap (MW cI cJ M mr (upd mi 68 nkeptAt_7) mf mg) H locs := hw6
  obtain ⟨hp_9, hp_10⟩ := hp
  have hp_9 : nkeptAt_7.toInt = (mi 68).toInt + 1 := hp_9
  have hp_10 : r_5 = (mf 69) ((mi 68)).toNatClampNeg := hp_10
  have er_5 := hp_10
  refine x_put (pc := 9) (T := TX12) (N := 70) (ci := 12) (ws' := (MW cI cJ M mr (upd (upd mi 6 r_5) 68 nkeptAt_7) mf mg)) E hw8 inX12 tyX12_ok nmX12 0 6 q_1405 rfl rfl (by decide) rfl rfl rfl rfl (Nat.le_of_ble_eq_true rfl) rfl dX12_keepsVillage_9 (fun H locs hw11 => ?_)
  refine lv_iconst (pc := 12) (v := 0) E.1 E.2.1 dX12_keepsVillage_12 (by decide +kernel) ?_
  refine lv_istore_n (pc := 13) (lv' := [(1, .int 0), (0, .ref M)]) E.1 E.2.1 dX12_keepsVillage_13 rfl hl3 (by decide) rfl (fun ls hl12 => ?_)
  have loop_13 : ∀ (k : Nat) (x_14 : Int32) (x_15 : Int32) (g_16 : Nat → Int32) (g_17 : Nat → Int32) (g_18 : Nat → Int32) (g_19 : Nat → Int32) (g_20 : Nat → Int32) (H : Heap) (locs : List Loc) (ls : Array Slot), (0 ≤ x_14.toInt) ∧ (x_14.toInt ≤ 10) ∧ (x_15.toInt = 67 + 5 * x_14.toInt) ∧ (SGT (mf 69) g_17 0 68 5 x_14.toInt) ∧ (SGT (mf 69) g_16 0 67 5 x_14.toInt) → 10 - x_14.toInt < (k : Int) → WD D A s.heap (MW cI cJ M mr (upd (upd mi 6 r_5) 68 x_15) (va_up (va_up (va_up (va_up (va_up mf 7 g_16) 8 g_17) 9 g_18) 10 g_19) 11 g_20) mg) H locs → lv_has ls 2 [(1, .int x_14), (0, .ref M)] → W p l e ({ frames := 2, cells := 0, slots := 0, locals := 61 } : Room) s m ([.ref M] : List Value).toArray below meth c H locs 0 0 (MQ below (va_Qv (fun (u : Int32 × Int32 × (Nat → Int32) × (Nat → Int32) × (Nat → Int32) × (Nat → Int32) × (Nat → Int32) × Int32 × Int32 × Int32 × Int32 × Int32 × (Nat → Int32) × (Nat → Int32)) => (u.1.toInt = 138) ∧ ((u.2.1.toInt = ((mf 69) 66).toInt ∧ SGT (mf 69) u.2.2.2.1 0 68 5 10 ∧ u.2.2.2.2.2.2.2.2.2.2.1.toInt = ((mf 69) 120).toInt ∧ u.2.2.2.2.2.2.2.2.2.2.2.1.toInt = ((mf 69) 121).toInt)) ∧ (SGT (mf 69) u.2.2.1 0 67 5 10) ∧ (u.2.2.2.2.2.2.2.1.toInt = ((mf 69) 117).toInt)) (fun u => QW D cI cJ A ((fun (u : Int32 × Int32 × (Nat → Int32) × (Nat → Int32) × (Nat → Int32) × (Nat → Int32) × (Nat → Int32) × Int32 × Int32 × Int32 × Int32 × Int32 × (Nat → Int32) × (Nat → Int32)) => (MW cI cJ M mr (upd (upd (upd (upd (upd (upd (upd mi 68 u.1) 6 u.2.1) 12 u.2.2.2.2.2.2.2.1) 13 u.2.2.2.2.2.2.2.2.1) 14 u.2.2.2.2.2.2.2.2.2.1) 15 u.2.2.2.2.2.2.2.2.2.2.1) 17 u.2.2.2.2.2.2.2.2.2.2.2.1) (va_up (va_up (va_up (va_up (va_up (va_up (va_up mf 7 u.2.2.1) 8 u.2.2.2.1) 9 u.2.2.2.2.1) 10 u.2.2.2.2.2.1) 11 u.2.2.2.2.2.2.1) 18 u.2.2.2.2.2.2.2.2.2.2.2.2.1) 19 u.2.2.2.2.2.2.2.2.2.2.2.2.2) mg)) u)) A) ([.ref M] : List Value).toArray s 0 0 A) (F0 m 14 ls []) := by
    intro k
    induction k with
    | zero =>
      intro x_14 x_15 g_16 g_17 g_18 g_19 g_20 _ _ _ hinv hm
      obtain ⟨hi_20_0, hi_20_1, hi_20_2, hi_20_3, hi_20_4⟩ := hinv
      exact absurd hm (by omega)
    | succ k ih_21 =>
      intro x_14 x_15 g_16 g_17 g_18 g_19 g_20 H locs ls hinv hm hw22 hl23
      obtain ⟨hi_20_0, hi_20_1, hi_20_2, hi_20_3, hi_20_4⟩ := hinv
      refine lv_iload_n (pc := 14) E.1 E.2.1 dX12_keepsVillage_14 rfl (lv_at hl23 0 rfl) ?_
      refine lv_bipush (pc := 15) (v := 10) E.1 E.2.1 dX12_keepsVillage_15 (by decide +kernel) ?_
      refine lv_icmp_ge (pc := 17) (tgt := 106) E.1 E.2.1 dX12_keepsVillage_17 (by decide) (fun c_24 => ?_) (fun c_24 => ?_)
      · skip
        have hc_24 := leE (a := 10) (b := x_14.toInt) (by decide +kernel) rfl c_24
        refine lv_aload_n (pc := 106) E.1 E.2.1 dX12_keepsVillage_106 rfl (lv_at hl23 1 rfl) ?_
        refine lv_aload_n (pc := 107) E.1 E.2.1 dX12_keepsVillage_107 rfl (lv_at hl23 1 rfl) ?_
        refine lv_aload_n (pc := 108) E.1 E.2.1 dX12_keepsVillage_108 rfl (lv_at hl23 1 rfl) ?_
        refine x_get (pc := 109) (T := TX12) (N := 70) (ci := 12) (v := .int (mi 12)) E hw22 inX12 0 12 q_1411 rfl rfl (by decide) rfl rfl dX12_keepsVillage_109 ?_
        refine cm_i (pc := 112) hw22 (rn_M (As := [.int (mi 12)]) (rest := [.ref M]) E hw22 (s_kept0 l D cI cJ _ M mr (upd (upd mi 6 r_5) 68 x_15) (va_up (va_up (va_up (va_up (va_up mf 7 g_16) 8 g_17) 9 g_18) 10 g_19) 11 g_20) mg (mi 12) h0 (by show 0 ≤ x_15.toInt ∧ x_15.toInt ≤ 3599; omega)) (gdV q_2125 q_2127 q_146 q_162 q_2128) hdV_X12_kept ⟨rfl, rfl⟩ ⟨(Nat.le_of_ble_eq_true rfl), (Nat.le_of_ble_eq_true rfl)⟩ ⟨(Nat.le_of_ble_eq_true rfl), (Nat.le_of_ble_eq_true rfl)⟩ 12 rfl rfl rfl rfl hl23.1 rfl (Nat.le_of_ble_eq_true rfl) dX12_keepsVillage_112) (fun r_26 u_25 H1 locs hp hw27 => ?_)
        obtain ⟨nkeptAt_28, rfl⟩ : ∃ z, z = u_25 := ⟨_, rfl⟩
        generalize H1 = H at hw27 ⊢
        have hw29 : WD D A s.heap (MW cI cJ M mr (upd (upd mi 6 r_5) 68 nkeptAt_28) (va_up (va_up (va_up (va_up (va_up mf 7 g_16) 8 g_17) 9 g_18) 10 g_19) 11 g_20) mg) H locs := hw27
        obtain ⟨hp_30, hp_31⟩ := hp
        have hp_30 : nkeptAt_28.toInt = x_15.toInt + 1 := hp_30
        have hp_31 : r_26 = (mf 69) (x_15).toNatClampNeg := hp_31
        have er_26 := hp_31
        refine x_put (pc := 115) (T := TX12) (N := 70) (ci := 12) (ws' := (MW cI cJ M mr (upd (upd (upd mi 6 r_5) 12 r_26) 68 nkeptAt_28) (va_up (va_up (va_up (va_up (va_up mf 7 g_16) 8 g_17) 9 g_18) 10 g_19) 11 g_20) mg)) E hw29 inX12 tyX12_ok nmX12 0 12 q_1411 rfl rfl (by decide) rfl rfl rfl rfl (Nat.le_of_ble_eq_true rfl) rfl dX12_keepsVillage_115 (fun H locs hw32 => ?_)
        refine lv_aload_n (pc := 118) E.1 E.2.1 dX12_keepsVillage_118 rfl (lv_at hl23 1 rfl) ?_
        refine lv_aload_n (pc := 119) E.1 E.2.1 dX12_keepsVillage_119 rfl (lv_at hl23 1 rfl) ?_
        refine lv_aload_n (pc := 120) E.1 E.2.1 dX12_keepsVillage_120 rfl (lv_at hl23 1 rfl) ?_
        refine x_get (pc := 121) (T := TX12) (N := 70) (ci := 12) (v := .int (mi 13)) E hw32 inX12 0 13 q_1412 rfl rfl (by decide) rfl rfl dX12_keepsVillage_121 ?_
        refine cm_i (pc := 124) hw32 (rn_M (As := [.int (mi 13)]) (rest := [.ref M]) E hw32 (s_kept0 l D cI cJ _ M mr (upd (upd (upd mi 6 r_5) 12 r_26) 68 nkeptAt_28) (va_up (va_up (va_up (va_up (va_up mf 7 g_16) 8 g_17) 9 g_18) 10 g_19) 11 g_20) mg (mi 13) h0 (by show 0 ≤ nkeptAt_28.toInt ∧ nkeptAt_28.toInt ≤ 3599; omega)) (gdV q_2125 q_2127 q_146 q_162 q_2128) hdV_X12_kept ⟨rfl, rfl⟩ ⟨(Nat.le_of_ble_eq_true rfl), (Nat.le_of_ble_eq_true rfl)⟩ ⟨(Nat.le_of_ble_eq_true rfl), (Nat.le_of_ble_eq_true rfl)⟩ 12 rfl rfl rfl rfl hl23.1 rfl (Nat.le_of_ble_eq_true rfl) dX12_keepsVillage_124) (fun r_34 u_33 H1 locs hp hw35 => ?_)
        obtain ⟨nkeptAt_36, rfl⟩ : ∃ z, z = u_33 := ⟨_, rfl⟩
        generalize H1 = H at hw35 ⊢
        have hw37 : WD D A s.heap (MW cI cJ M mr (upd (upd (upd mi 6 r_5) 12 r_26) 68 nkeptAt_36) (va_up (va_up (va_up (va_up (va_up mf 7 g_16) 8 g_17) 9 g_18) 10 g_19) 11 g_20) mg) H locs := hw35
        obtain ⟨hp_38, hp_39⟩ := hp
        have hp_38 : nkeptAt_36.toInt = nkeptAt_28.toInt + 1 := hp_38
        have hp_39 : r_34 = (mf 69) (nkeptAt_28).toNatClampNeg := hp_39
        have er_34 := hp_39
        refine x_put (pc := 127) (T := TX12) (N := 70) (ci := 12) (ws' := (MW cI cJ M mr (upd (upd (upd (upd mi 6 r_5) 12 r_26) 13 r_34) 68 nkeptAt_36) (va_up (va_up (va_up (va_up (va_up mf 7 g_16) 8 g_17) 9 g_18) 10 g_19) 11 g_20) mg)) E hw37 inX12 tyX12_ok nmX12 0 13 q_1412 rfl rfl (by decide) rfl rfl rfl rfl (Nat.le_of_ble_eq_true rfl) rfl dX12_keepsVillage_127 (fun H locs hw40 => ?_)
        refine lv_aload_n (pc := 130) E.1 E.2.1 dX12_keepsVillage_130 rfl (lv_at hl23 1 rfl) ?_
        refine lv_aload_n (pc := 131) E.1 E.2.1 dX12_keepsVillage_131 rfl (lv_at hl23 1 rfl) ?_
        refine lv_aload_n (pc := 132) E.1 E.2.1 dX12_keepsVillage_132 rfl (lv_at hl23 1 rfl) ?_
        refine x_get (pc := 133) (T := TX12) (N := 70) (ci := 12) (v := .int (mi 14)) E hw40 inX12 0 14 q_1413 rfl rfl (by decide) rfl rfl dX12_keepsVillage_133 ?_
        refine cm_i (pc := 136) hw40 (rn_M (As := [.int (mi 14)]) (rest := [.ref M]) E hw40 (s_kept0 l D cI cJ _ M mr (upd (upd (upd (upd mi 6 r_5) 12 r_26) 13 r_34) 68 nkeptAt_36) (va_up (va_up (va_up (va_up (va_up mf 7 g_16) 8 g_17) 9 g_18) 10 g_19) 11 g_20) mg (mi 14) h0 (by show 0 ≤ nkeptAt_36.toInt ∧ nkeptAt_36.toInt ≤ 3599; omega)) (gdV q_2125 q_2127 q_146 q_162 q_2128) hdV_X12_kept ⟨rfl, rfl⟩ ⟨(Nat.le_of_ble_eq_true rfl), (Nat.le_of_ble_eq_true rfl)⟩ ⟨(Nat.le_of_ble_eq_true rfl), (Nat.le_of_ble_eq_true rfl)⟩ 12 rfl rfl rfl rfl hl23.1 rfl (Nat.le_of_ble_eq_true rfl) dX12_keepsVillage_136) (fun r_42 u_41 H1 locs hp hw43 => ?_)
        obtain ⟨nkeptAt_44, rfl⟩ : ∃ z, z = u_41 := ⟨_, rfl⟩
        generalize H1 = H at hw43 ⊢
        have hw45 : WD D A s.heap (MW cI cJ M mr (upd (upd (upd (upd mi 6 r_5) 12 r_26) 13 r_34) 68 nkeptAt_44) (va_up (va_up (va_up (va_up (va_up mf 7 g_16) 8 g_17) 9 g_18) 10 g_19) 11 g_20) mg) H locs := hw43
        obtain ⟨hp_46, hp_47⟩ := hp
        have hp_46 : nkeptAt_44.toInt = nkeptAt_36.toInt + 1 := hp_46
        have hp_47 : r_42 = (mf 69) (nkeptAt_36).toNatClampNeg := hp_47
        have er_42 := hp_47
        refine x_put (pc := 139) (T := TX12) (N := 70) (ci := 12) (ws' := (MW cI cJ M mr (upd (upd (upd (upd (upd mi 6 r_5) 12 r_26) 13 r_34) 14 r_42) 68 nkeptAt_44) (va_up (va_up (va_up (va_up (va_up mf 7 g_16) 8 g_17) 9 g_18) 10 g_19) 11 g_20) mg)) E hw45 inX12 tyX12_ok nmX12 0 14 q_1413 rfl rfl (by decide) rfl rfl rfl rfl (Nat.le_of_ble_eq_true rfl) rfl dX12_keepsVillage_139 (fun H locs hw48 => ?_)
        refine lv_aload_n (pc := 142) E.1 E.2.1 dX12_keepsVillage_142 rfl (lv_at hl23 1 rfl) ?_
        refine lv_aload_n (pc := 143) E.1 E.2.1 dX12_keepsVillage_143 rfl (lv_at hl23 1 rfl) ?_
        refine lv_aload_n (pc := 144) E.1 E.2.1 dX12_keepsVillage_144 rfl (lv_at hl23 1 rfl) ?_
        refine x_get (pc := 145) (T := TX12) (N := 70) (ci := 12) (v := .int (mi 15)) E hw48 inX12 0 15 q_1414 rfl rfl (by decide) rfl rfl dX12_keepsVillage_145 ?_
        refine cm_i (pc := 148) hw48 (rn_M (As := [.int (mi 15)]) (rest := [.ref M]) E hw48 (s_kept0 l D cI cJ _ M mr (upd (upd (upd (upd (upd mi 6 r_5) 12 r_26) 13 r_34) 14 r_42) 68 nkeptAt_44) (va_up (va_up (va_up (va_up (va_up mf 7 g_16) 8 g_17) 9 g_18) 10 g_19) 11 g_20) mg (mi 15) h0 (by show 0 ≤ nkeptAt_44.toInt ∧ nkeptAt_44.toInt ≤ 3599; omega)) (gdV q_2125 q_2127 q_146 q_162 q_2128) hdV_X12_kept ⟨rfl, rfl⟩ ⟨(Nat.le_of_ble_eq_true rfl), (Nat.le_of_ble_eq_true rfl)⟩ ⟨(Nat.le_of_ble_eq_true rfl), (Nat.le_of_ble_eq_true rfl)⟩ 12 rfl rfl rfl rfl hl23.1 rfl (Nat.le_of_ble_eq_true rfl) dX12_keepsVillage_148) (fun r_50 u_49 H1 locs hp hw51 => ?_)
        obtain ⟨nkeptAt_52, rfl⟩ : ∃ z, z = u_49 := ⟨_, rfl⟩
        generalize H1 = H at hw51 ⊢
        have hw53 : WD D A s.heap (MW cI cJ M mr (upd (upd (upd (upd (upd mi 6 r_5) 12 r_26) 13 r_34) 14 r_42) 68 nkeptAt_52) (va_up (va_up (va_up (va_up (va_up mf 7 g_16) 8 g_17) 9 g_18) 10 g_19) 11 g_20) mg) H locs := hw51
        obtain ⟨hp_54, hp_55⟩ := hp
        have hp_54 : nkeptAt_52.toInt = nkeptAt_44.toInt + 1 := hp_54
        have hp_55 : r_50 = (mf 69) (nkeptAt_44).toNatClampNeg := hp_55
        have er_50 := hp_55
        refine x_put (pc := 151) (T := TX12) (N := 70) (ci := 12) (ws' := (MW cI cJ M mr (upd (upd (upd (upd (upd (upd mi 6 r_5) 12 r_26) 13 r_34) 14 r_42) 15 r_50) 68 nkeptAt_52) (va_up (va_up (va_up (va_up (va_up mf 7 g_16) 8 g_17) 9 g_18) 10 g_19) 11 g_20) mg)) E hw53 inX12 tyX12_ok nmX12 0 15 q_1414 rfl rfl (by decide) rfl rfl rfl rfl (Nat.le_of_ble_eq_true rfl) rfl dX12_keepsVillage_151 (fun H locs hw56 => ?_)
        refine lv_aload_n (pc := 154) E.1 E.2.1 dX12_keepsVillage_154 rfl (lv_at hl23 1 rfl) ?_
        refine lv_aload_n (pc := 155) E.1 E.2.1 dX12_keepsVillage_155 rfl (lv_at hl23 1 rfl) ?_
        refine lv_aload_n (pc := 156) E.1 E.2.1 dX12_keepsVillage_156 rfl (lv_at hl23 1 rfl) ?_
        refine x_get (pc := 157) (T := TX12) (N := 70) (ci := 12) (v := .int (mi 17)) E hw56 inX12 0 17 q_1416 rfl rfl (by decide) rfl rfl dX12_keepsVillage_157 ?_
        refine cm_i (pc := 160) hw56 (rn_M (As := [.int (mi 17)]) (rest := [.ref M]) E hw56 (s_kept0 l D cI cJ _ M mr (upd (upd (upd (upd (upd (upd mi 6 r_5) 12 r_26) 13 r_34) 14 r_42) 15 r_50) 68 nkeptAt_52) (va_up (va_up (va_up (va_up (va_up mf 7 g_16) 8 g_17) 9 g_18) 10 g_19) 11 g_20) mg (mi 17) h0 (by show 0 ≤ nkeptAt_52.toInt ∧ nkeptAt_52.toInt ≤ 3599; omega)) (gdV q_2125 q_2127 q_146 q_162 q_2128) hdV_X12_kept ⟨rfl, rfl⟩ ⟨(Nat.le_of_ble_eq_true rfl), (Nat.le_of_ble_eq_true rfl)⟩ ⟨(Nat.le_of_ble_eq_true rfl), (Nat.le_of_ble_eq_true rfl)⟩ 12 rfl rfl rfl rfl hl23.1 rfl (Nat.le_of_ble_eq_true rfl) dX12_keepsVillage_160) (fun r_58 u_57 H1 locs hp hw59 => ?_)
        obtain ⟨nkeptAt_60, rfl⟩ : ∃ z, z = u_57 := ⟨_, rfl⟩
        generalize H1 = H at hw59 ⊢
        have hw61 : WD D A s.heap (MW cI cJ M mr (upd (upd (upd (upd (upd (upd mi 6 r_5) 12 r_26) 13 r_34) 14 r_42) 15 r_50) 68 nkeptAt_60) (va_up (va_up (va_up (va_up (va_up mf 7 g_16) 8 g_17) 9 g_18) 10 g_19) 11 g_20) mg) H locs := hw59
        obtain ⟨hp_62, hp_63⟩ := hp
        have hp_62 : nkeptAt_60.toInt = nkeptAt_52.toInt + 1 := hp_62
        have hp_63 : r_58 = (mf 69) (nkeptAt_52).toNatClampNeg := hp_63
        have er_58 := hp_63
        refine x_put (pc := 163) (T := TX12) (N := 70) (ci := 12) (ws' := (MW cI cJ M mr (upd (upd (upd (upd (upd (upd (upd mi 6 r_5) 12 r_26) 13 r_34) 14 r_42) 15 r_50) 17 r_58) 68 nkeptAt_60) (va_up (va_up (va_up (va_up (va_up mf 7 g_16) 8 g_17) 9 g_18) 10 g_19) 11 g_20) mg)) E hw61 inX12 tyX12_ok nmX12 0 17 q_1416 rfl rfl (by decide) rfl rfl rfl rfl (Nat.le_of_ble_eq_true rfl) rfl dX12_keepsVillage_163 (fun H locs hw64 => ?_)
        refine lv_iconst (pc := 166) (v := 0) E.1 E.2.1 dX12_keepsVillage_166 (by decide +kernel) ?_
        refine lv_istore_n (pc := 167) (lv' := [(1, .int 0), (0, .ref M)]) E.1 E.2.1 dX12_keepsVillage_167 rfl hl23 (by decide) rfl (fun ls hl65 => ?_)
        have loop_66 : ∀ (k : Nat) (x_67 : Int32) (x_68 : Int32) (g_69 : Nat → Int32) (g_70 : Nat → Int32) (H : Heap) (locs : List Loc) (ls : Array Slot), (0 ≤ x_67.toInt) ∧ (x_67.toInt ≤ 8) ∧ (x_68.toInt = 122 + 2 * x_67.toInt) → 8 - x_67.toInt < (k : Int) → WD D A s.heap (MW cI cJ M mr (upd (upd (upd (upd (upd (upd (upd mi 6 r_5) 12 r_26) 13 r_34) 14 r_42) 15 r_50) 17 r_58) 68 x_68) (va_up (va_up (va_up (va_up (va_up (va_up (va_up mf 7 g_16) 8 g_17) 9 g_18) 10 g_19) 11 g_20) 18 g_69) 19 g_70) mg) H locs → lv_has ls 2 [(1, .int x_67), (0, .ref M)] → W p l e ({ frames := 2, cells := 0, slots := 0, locals := 61 } : Room) s m ([.ref M] : List Value).toArray below meth c H locs 0 0 (MQ below (va_Qv (fun (u : Int32 × Int32 × (Nat → Int32) × (Nat → Int32) × (Nat → Int32) × (Nat → Int32) × (Nat → Int32) × Int32 × Int32 × Int32 × Int32 × Int32 × (Nat → Int32) × (Nat → Int32)) => (u.1.toInt = 138) ∧ ((u.2.1.toInt = ((mf 69) 66).toInt ∧ SGT (mf 69) u.2.2.2.1 0 68 5 10 ∧ u.2.2.2.2.2.2.2.2.2.2.1.toInt = ((mf 69) 120).toInt ∧ u.2.2.2.2.2.2.2.2.2.2.2.1.toInt = ((mf 69) 121).toInt)) ∧ (SGT (mf 69) u.2.2.1 0 67 5 10) ∧ (u.2.2.2.2.2.2.2.1.toInt = ((mf 69) 117).toInt)) (fun u => QW D cI cJ A ((fun (u : Int32 × Int32 × (Nat → Int32) × (Nat → Int32) × (Nat → Int32) × (Nat → Int32) × (Nat → Int32) × Int32 × Int32 × Int32 × Int32 × Int32 × (Nat → Int32) × (Nat → Int32)) => (MW cI cJ M mr (upd (upd (upd (upd (upd (upd (upd mi 68 u.1) 6 u.2.1) 12 u.2.2.2.2.2.2.2.1) 13 u.2.2.2.2.2.2.2.2.1) 14 u.2.2.2.2.2.2.2.2.2.1) 15 u.2.2.2.2.2.2.2.2.2.2.1) 17 u.2.2.2.2.2.2.2.2.2.2.2.1) (va_up (va_up (va_up (va_up (va_up (va_up (va_up mf 7 u.2.2.1) 8 u.2.2.2.1) 9 u.2.2.2.2.1) 10 u.2.2.2.2.2.1) 11 u.2.2.2.2.2.2.1) 18 u.2.2.2.2.2.2.2.2.2.2.2.2.1) 19 u.2.2.2.2.2.2.2.2.2.2.2.2.2) mg)) u)) A) ([.ref M] : List Value).toArray s 0 0 A) (F0 m 168 ls []) := by
          intro k
          induction k with
          | zero =>
            intro x_67 x_68 g_69 g_70 _ _ _ hinv hm
            obtain ⟨hi_70_0, hi_70_1, hi_70_2⟩ := hinv
            exact absurd hm (by omega)
          | succ k ih_71 =>
            intro x_67 x_68 g_69 g_70 H locs ls hinv hm hw72 hl73
            obtain ⟨hi_70_0, hi_70_1, hi_70_2⟩ := hinv
            refine lv_iload_n (pc := 168) E.1 E.2.1 dX12_keepsVillage_168 rfl (lv_at hl73 0 rfl) ?_
            refine lv_bipush (pc := 169) (v := 8) E.1 E.2.1 dX12_keepsVillage_169 (by decide +kernel) ?_
            refine lv_icmp_ge (pc := 171) (tgt := 212) E.1 E.2.1 dX12_keepsVillage_171 (by decide) (fun c_74 => ?_) (fun c_74 => ?_)
            · skip
              have hc_74 := leE (a := 8) (b := x_67.toInt) (by decide +kernel) rfl c_74
              exact em_v (w1 := (fun (u : Int32 × Int32 × (Nat → Int32) × (Nat → Int32) × (Nat → Int32) × (Nat → Int32) × (Nat → Int32) × Int32 × Int32 × Int32 × Int32 × Int32 × (Nat → Int32) × (Nat → Int32)) => (MW cI cJ M mr (upd (upd (upd (upd (upd (upd (upd mi 68 u.1) 6 u.2.1) 12 u.2.2.2.2.2.2.2.1) 13 u.2.2.2.2.2.2.2.2.1) 14 u.2.2.2.2.2.2.2.2.2.1) 15 u.2.2.2.2.2.2.2.2.2.2.1) 17 u.2.2.2.2.2.2.2.2.2.2.2.1) (va_up (va_up (va_up (va_up (va_up (va_up (va_up mf 7 u.2.2.1) 8 u.2.2.2.1) 9 u.2.2.2.2.1) 10 u.2.2.2.2.2.1) 11 u.2.2.2.2.2.2.1) 18 u.2.2.2.2.2.2.2.2.2.2.2.2.1) 19 u.2.2.2.2.2.2.2.2.2.2.2.2.2) mg))) E hr hlk (x_68, r_5, g_16, g_17, g_18, g_19, g_20, r_26, r_34, r_42, r_50, r_58, g_69, g_70) hw72 ⟨(by show x_68.toInt = 138; omega), (show (r_5.toInt = ((mf 69) 66).toInt ∧ SGT (mf 69) g_17 0 68 5 10 ∧ r_50.toInt = ((mf 69) 120).toInt ∧ r_58.toInt = ((mf 69) 121).toInt) from ⟨(by rw [er_5, atI (p := 66) (by omega)]), (SGT_n hi_20_3 (by omega)), (by rw [er_50, atI (p := 120) (by omega)]), (by rw [er_58, atI (p := 121) (by omega)])⟩), (show SGT (mf 69) g_16 0 67 5 10 from (SGT_n hi_20_4 (by omega))), (show r_26.toInt = ((mf 69) 117).toInt from (by rw [er_26, atI (p := 117) (by omega)]))⟩ (Nat.le_of_ble_eq_true rfl) (Nat.le_of_ble_eq_true rfl) dX12_keepsVillage_212
            · skip
              have hc_74 := nleE (a := 8) (b := x_67.toInt) (by decide +kernel) rfl c_74
              refine lv_aload_n (pc := 174) E.1 E.2.1 dX12_keepsVillage_174 rfl (lv_at hl73 1 rfl) ?_
              refine x_get (pc := 175) (T := TX12) (N := 70) (ci := 12) (v := .ref (mr 18)) E hw72 inX12 0 18 q_1417 rfl rfl (by decide) rfl rfl dX12_keepsVillage_175 ?_
              refine lv_iload_n (pc := 178) E.1 E.2.1 dX12_keepsVillage_178 rfl (lv_at hl73 0 rfl) ?_
              refine lv_aload_n (pc := 179) E.1 E.2.1 dX12_keepsVillage_179 rfl (lv_at hl73 1 rfl) ?_
              refine lv_aload_n (pc := 180) E.1 E.2.1 dX12_keepsVillage_180 rfl (lv_at hl73 1 rfl) ?_
              refine x_get (pc := 181) (T := TX12) (N := 70) (ci := 12) (v := .ref (mr 18)) E hw72 inX12 0 18 q_1417 rfl rfl (by decide) rfl rfl dX12_keepsVillage_181 ?_
              refine lv_iload_n (pc := 184) E.1 E.2.1 dX12_keepsVillage_184 rfl (lv_at hl73 0 rfl) ?_
              refine x_iald (pc := 185) (f := g_69) E hw72 10 rfl (inbE (a := x_67.toInt) rfl (by omega)) dX12_keepsVillage_185 ?_
              refine lv_topi (fun v_75 ev_75 => ?_)
              refine cm_i (pc := 186) hw72 (rn_M (As := [.int v_75]) (rest := [.int x_67, .ref (mr 18)]) E hw72 (s_kept0 l D cI cJ _ M mr (upd (upd (upd (upd (upd (upd (upd mi 6 r_5) 12 r_26) 13 r_34) 14 r_42) 15 r_50) 17 r_58) 68 x_68) (va_up (va_up (va_up (va_up (va_up (va_up (va_up mf 7 g_16) 8 g_17) 9 g_18) 10 g_19) 11 g_20) 18 g_69) 19 g_70) mg v_75 h0 (by show 0 ≤ x_68.toInt ∧ x_68.toInt ≤ 3599; omega)) (gdV q_2125 q_2127 q_146 q_162 q_2128) hdV_X12_kept ⟨rfl, rfl⟩ ⟨(Nat.le_of_ble_eq_true rfl), (Nat.le_of_ble_eq_true rfl)⟩ ⟨(Nat.le_of_ble_eq_true rfl), (Nat.le_of_ble_eq_true rfl)⟩ 12 rfl rfl rfl rfl hl73.1 rfl (Nat.le_of_ble_eq_true rfl) dX12_keepsVillage_186) (fun r_77 u_76 H1 locs hp hw78 => ?_)
              obtain ⟨nkeptAt_79, rfl⟩ : ∃ z, z = u_76 := ⟨_, rfl⟩
              generalize H1 = H at hw78 ⊢
              have hw80 : WD D A s.heap (MW cI cJ M mr (upd (upd (upd (upd (upd (upd (upd mi 6 r_5) 12 r_26) 13 r_34) 14 r_42) 15 r_50) 17 r_58) 68 nkeptAt_79) (va_up (va_up (va_up (va_up (va_up (va_up (va_up mf 7 g_16) 8 g_17) 9 g_18) 10 g_19) 11 g_20) 18 g_69) 19 g_70) mg) H locs := hw78
              obtain ⟨hp_81, hp_82⟩ := hp
              have hp_81 : nkeptAt_79.toInt = x_68.toInt + 1 := hp_81
              have hp_82 : r_77 = (mf 69) (x_68).toNatClampNeg := hp_82
              have er_77 := hp_82
              refine x_iastG (pc := 189) (f := g_69) (wf := fun g => (MW cI cJ M mr (upd (upd (upd (upd (upd (upd (upd mi 6 r_5) 12 r_26) 13 r_34) 14 r_42) 15 r_50) 17 r_58) 68 nkeptAt_79) (va_up (va_up (va_up (va_up (va_up (va_up (va_up mf 7 g_16) 8 g_17) 9 g_18) 10 g_19) 11 g_20) 18 g) 19 g_70) mg)) E hw80 10 rfl (inbE (a := x_67.toInt) rfl (by omega)) (fun _ => rfl) dX12_keepsVillage_189 (fun g_83 H locs eg_83 hw84 => ?_)
              refine lv_aload_n (pc := 190) E.1 E.2.1 dX12_keepsVillage_190 rfl (lv_at hl73 1 rfl) ?_
              refine x_get (pc := 191) (T := TX12) (N := 70) (ci := 12) (v := .ref (mr 19)) E hw84 inX12 0 19 q_1418 rfl rfl (by decide) rfl rfl dX12_keepsVillage_191 ?_
              refine lv_iload_n (pc := 194) E.1 E.2.1 dX12_keepsVillage_194 rfl (lv_at hl73 0 rfl) ?_
              refine lv_aload_n (pc := 195) E.1 E.2.1 dX12_keepsVillage_195 rfl (lv_at hl73 1 rfl) ?_
              refine lv_aload_n (pc := 196) E.1 E.2.1 dX12_keepsVillage_196 rfl (lv_at hl73 1 rfl) ?_
              refine x_get (pc := 197) (T := TX12) (N := 70) (ci := 12) (v := .ref (mr 19)) E hw84 inX12 0 19 q_1418 rfl rfl (by decide) rfl rfl dX12_keepsVillage_197 ?_
              refine lv_iload_n (pc := 200) E.1 E.2.1 dX12_keepsVillage_200 rfl (lv_at hl73 0 rfl) ?_
              refine x_iald (pc := 201) (f := g_70) E hw84 11 rfl (inbE (a := x_67.toInt) rfl (by omega)) dX12_keepsVillage_201 ?_
              refine lv_topi (fun v_85 ev_85 => ?_)
              refine cm_i (pc := 202) hw84 (rn_M (As := [.int v_85]) (rest := [.int x_67, .ref (mr 19)]) E hw84 (s_kept0 l D cI cJ _ M mr (upd (upd (upd (upd (upd (upd (upd mi 6 r_5) 12 r_26) 13 r_34) 14 r_42) 15 r_50) 17 r_58) 68 nkeptAt_79) (va_up (va_up (va_up (va_up (va_up (va_up (va_up mf 7 g_16) 8 g_17) 9 g_18) 10 g_19) 11 g_20) 18 g_83) 19 g_70) mg v_85 h0 (by show 0 ≤ nkeptAt_79.toInt ∧ nkeptAt_79.toInt ≤ 3599; omega)) (gdV q_2125 q_2127 q_146 q_162 q_2128) hdV_X12_kept ⟨rfl, rfl⟩ ⟨(Nat.le_of_ble_eq_true rfl), (Nat.le_of_ble_eq_true rfl)⟩ ⟨(Nat.le_of_ble_eq_true rfl), (Nat.le_of_ble_eq_true rfl)⟩ 12 rfl rfl rfl rfl hl73.1 rfl (Nat.le_of_ble_eq_true rfl) dX12_keepsVillage_202) (fun r_87 u_86 H1 locs hp hw88 => ?_)
              obtain ⟨nkeptAt_89, rfl⟩ : ∃ z, z = u_86 := ⟨_, rfl⟩
              generalize H1 = H at hw88 ⊢
              have hw90 : WD D A s.heap (MW cI cJ M mr (upd (upd (upd (upd (upd (upd (upd mi 6 r_5) 12 r_26) 13 r_34) 14 r_42) 15 r_50) 17 r_58) 68 nkeptAt_89) (va_up (va_up (va_up (va_up (va_up (va_up (va_up mf 7 g_16) 8 g_17) 9 g_18) 10 g_19) 11 g_20) 18 g_83) 19 g_70) mg) H locs := hw88
              obtain ⟨hp_91, hp_92⟩ := hp
              have hp_91 : nkeptAt_89.toInt = nkeptAt_79.toInt + 1 := hp_91
              have hp_92 : r_87 = (mf 69) (nkeptAt_79).toNatClampNeg := hp_92
              have er_87 := hp_92
              refine x_iastG (pc := 205) (f := g_70) (wf := fun g => (MW cI cJ M mr (upd (upd (upd (upd (upd (upd (upd mi 6 r_5) 12 r_26) 13 r_34) 14 r_42) 15 r_50) 17 r_58) 68 nkeptAt_89) (va_up (va_up (va_up (va_up (va_up (va_up (va_up mf 7 g_16) 8 g_17) 9 g_18) 10 g_19) 11 g_20) 18 g_83) 19 g) mg)) E hw90 11 rfl (inbE (a := x_67.toInt) rfl (by omega)) (fun _ => rfl) dX12_keepsVillage_205 (fun g_93 H locs eg_93 hw94 => ?_)
              obtain ⟨v_95, ev_95⟩ : ∃ z : Int32, x_67 + Int32.ofInt (1) = z := ⟨_, rfl⟩
              have hv_95 : v_95.toInt = x_67.toInt + (1) := by rw [← ev_95]; exact incE rfl (by decide) (by omega)
              refine lv_iinc (pc := 206) (v := v_95) (lv' := [(1, .int v_95), (0, .ref M)]) E.1 E.2.1 dX12_keepsVillage_206 hl73 (k := 0) rfl ev_95 (by decide) rfl (fun ls hl96 => ?_)
              refine lv_goto (pc := 209) (tgt := 168) E.1 E.2.1 dX12_keepsVillage_209 (by decide) ?_
              exact ih_71 v_95 nkeptAt_89 g_83 g_93 _ _ _ ⟨(by show 0 ≤ v_95.toInt; omega), (by show v_95.toInt ≤ 8; omega), (by show nkeptAt_89.toInt = 122 + 2 * v_95.toInt; omega)⟩ (by omega) hw94 (lv_sub hl96 [0, 1] rfl)
        exact loop_66 (Int.toNat (8 - 0) + 1) 0 nkeptAt_60 (mf 18) (mf 19) _ _ _ ⟨(by show 0 ≤ (0 : Int32).toInt; have k_0 : (0 : Int32).toInt = 0 := (by decide +kernel); omega), (by show (0 : Int32).toInt ≤ 8; have k_0 : (0 : Int32).toInt = 0 := (by decide +kernel); omega), (by show nkeptAt_60.toInt = 122 + 2 * (0 : Int32).toInt; have k_0 : (0 : Int32).toInt = 0 := (by decide +kernel); omega)⟩ (by have k_0 : (0 : Int32).toInt = 0 := (by decide +kernel); omega) hw64 (lv_sub hl65 [0, 1] rfl)
      · skip
        have hc_24 := nleE (a := 10) (b := x_14.toInt) (by decide +kernel) rfl c_24
        refine lv_aload_n (pc := 20) E.1 E.2.1 dX12_keepsVillage_20 rfl (lv_at hl23 1 rfl) ?_
        refine x_get (pc := 21) (T := TX12) (N := 70) (ci := 12) (v := .ref (mr 7)) E hw22 inX12 0 7 q_1406 rfl rfl (by decide) rfl rfl dX12_keepsVillage_21 ?_
        refine lv_iload_n (pc := 24) E.1 E.2.1 dX12_keepsVillage_24 rfl (lv_at hl23 0 rfl) ?_
        refine lv_aload_n (pc := 25) E.1 E.2.1 dX12_keepsVillage_25 rfl (lv_at hl23 1 rfl) ?_
        refine lv_aload_n (pc := 26) E.1 E.2.1 dX12_keepsVillage_26 rfl (lv_at hl23 1 rfl) ?_
        refine x_get (pc := 27) (T := TX12) (N := 70) (ci := 12) (v := .ref (mr 7)) E hw22 inX12 0 7 q_1406 rfl rfl (by decide) rfl rfl dX12_keepsVillage_27 ?_
        refine lv_iload_n (pc := 30) E.1 E.2.1 dX12_keepsVillage_30 rfl (lv_at hl23 0 rfl) ?_
        refine x_iald (pc := 31) (f := g_16) E hw22 4 rfl (inbE (a := x_14.toInt) rfl (by omega)) dX12_keepsVillage_31 ?_
        refine lv_topi (fun v_97 ev_97 => ?_)
        refine cm_i (pc := 32) hw22 (rn_M (As := [.int v_97]) (rest := [.int x_14, .ref (mr 7)]) E hw22 (s_kept0 l D cI cJ _ M mr (upd (upd mi 6 r_5) 68 x_15) (va_up (va_up (va_up (va_up (va_up mf 7 g_16) 8 g_17) 9 g_18) 10 g_19) 11 g_20) mg v_97 h0 (by show 0 ≤ x_15.toInt ∧ x_15.toInt ≤ 3599; omega)) (gdV q_2125 q_2127 q_146 q_162 q_2128) hdV_X12_kept ⟨rfl, rfl⟩ ⟨(Nat.le_of_ble_eq_true rfl), (Nat.le_of_ble_eq_true rfl)⟩ ⟨(Nat.le_of_ble_eq_true rfl), (Nat.le_of_ble_eq_true rfl)⟩ 12 rfl rfl rfl rfl hl23.1 rfl (Nat.le_of_ble_eq_true rfl) dX12_keepsVillage_32) (fun r_99 u_98 H1 locs hp hw100 => ?_)
        obtain ⟨nkeptAt_101, rfl⟩ : ∃ z, z = u_98 := ⟨_, rfl⟩
        generalize H1 = H at hw100 ⊢
        have hw102 : WD D A s.heap (MW cI cJ M mr (upd (upd mi 6 r_5) 68 nkeptAt_101) (va_up (va_up (va_up (va_up (va_up mf 7 g_16) 8 g_17) 9 g_18) 10 g_19) 11 g_20) mg) H locs := hw100
        obtain ⟨hp_103, hp_104⟩ := hp
        have hp_103 : nkeptAt_101.toInt = x_15.toInt + 1 := hp_103
        have hp_104 : r_99 = (mf 69) (x_15).toNatClampNeg := hp_104
        have er_99 := hp_104
        refine x_iastG (pc := 35) (f := g_16) (wf := fun g => (MW cI cJ M mr (upd (upd mi 6 r_5) 68 nkeptAt_101) (va_up (va_up (va_up (va_up (va_up mf 7 g) 8 g_17) 9 g_18) 10 g_19) 11 g_20) mg)) E hw102 4 rfl (inbE (a := x_14.toInt) rfl (by omega)) (fun _ => rfl) dX12_keepsVillage_35 (fun g_105 H locs eg_105 hw106 => ?_)
        refine lv_aload_n (pc := 36) E.1 E.2.1 dX12_keepsVillage_36 rfl (lv_at hl23 1 rfl) ?_
        refine x_get (pc := 37) (T := TX12) (N := 70) (ci := 12) (v := .ref (mr 8)) E hw106 inX12 0 8 q_1407 rfl rfl (by decide) rfl rfl dX12_keepsVillage_37 ?_
        refine lv_iload_n (pc := 40) E.1 E.2.1 dX12_keepsVillage_40 rfl (lv_at hl23 0 rfl) ?_
        refine lv_aload_n (pc := 41) E.1 E.2.1 dX12_keepsVillage_41 rfl (lv_at hl23 1 rfl) ?_
        refine lv_aload_n (pc := 42) E.1 E.2.1 dX12_keepsVillage_42 rfl (lv_at hl23 1 rfl) ?_
        refine x_get (pc := 43) (T := TX12) (N := 70) (ci := 12) (v := .ref (mr 8)) E hw106 inX12 0 8 q_1407 rfl rfl (by decide) rfl rfl dX12_keepsVillage_43 ?_
        refine lv_iload_n (pc := 46) E.1 E.2.1 dX12_keepsVillage_46 rfl (lv_at hl23 0 rfl) ?_
        refine x_iald (pc := 47) (f := g_17) E hw106 5 rfl (inbE (a := x_14.toInt) rfl (by omega)) dX12_keepsVillage_47 ?_
        refine lv_topi (fun v_107 ev_107 => ?_)
        refine cm_i (pc := 48) hw106 (rn_M (As := [.int v_107]) (rest := [.int x_14, .ref (mr 8)]) E hw106 (s_kept0 l D cI cJ _ M mr (upd (upd mi 6 r_5) 68 nkeptAt_101) (va_up (va_up (va_up (va_up (va_up mf 7 g_105) 8 g_17) 9 g_18) 10 g_19) 11 g_20) mg v_107 h0 (by show 0 ≤ nkeptAt_101.toInt ∧ nkeptAt_101.toInt ≤ 3599; omega)) (gdV q_2125 q_2127 q_146 q_162 q_2128) hdV_X12_kept ⟨rfl, rfl⟩ ⟨(Nat.le_of_ble_eq_true rfl), (Nat.le_of_ble_eq_true rfl)⟩ ⟨(Nat.le_of_ble_eq_true rfl), (Nat.le_of_ble_eq_true rfl)⟩ 12 rfl rfl rfl rfl hl23.1 rfl (Nat.le_of_ble_eq_true rfl) dX12_keepsVillage_48) (fun r_109 u_108 H1 locs hp hw110 => ?_)
        obtain ⟨nkeptAt_111, rfl⟩ : ∃ z, z = u_108 := ⟨_, rfl⟩
        generalize H1 = H at hw110 ⊢
        have hw112 : WD D A s.heap (MW cI cJ M mr (upd (upd mi 6 r_5) 68 nkeptAt_111) (va_up (va_up (va_up (va_up (va_up mf 7 g_105) 8 g_17) 9 g_18) 10 g_19) 11 g_20) mg) H locs := hw110
        obtain ⟨hp_113, hp_114⟩ := hp
        have hp_113 : nkeptAt_111.toInt = nkeptAt_101.toInt + 1 := hp_113
        have hp_114 : r_109 = (mf 69) (nkeptAt_101).toNatClampNeg := hp_114
        have er_109 := hp_114
        refine x_iastG (pc := 51) (f := g_17) (wf := fun g => (MW cI cJ M mr (upd (upd mi 6 r_5) 68 nkeptAt_111) (va_up (va_up (va_up (va_up (va_up mf 7 g_105) 8 g) 9 g_18) 10 g_19) 11 g_20) mg)) E hw112 5 rfl (inbE (a := x_14.toInt) rfl (by omega)) (fun _ => rfl) dX12_keepsVillage_51 (fun g_115 H locs eg_115 hw116 => ?_)
        refine lv_aload_n (pc := 52) E.1 E.2.1 dX12_keepsVillage_52 rfl (lv_at hl23 1 rfl) ?_
        refine x_get (pc := 53) (T := TX12) (N := 70) (ci := 12) (v := .ref (mr 9)) E hw116 inX12 0 9 q_1408 rfl rfl (by decide) rfl rfl dX12_keepsVillage_53 ?_
        refine lv_iload_n (pc := 56) E.1 E.2.1 dX12_keepsVillage_56 rfl (lv_at hl23 0 rfl) ?_
        refine lv_aload_n (pc := 57) E.1 E.2.1 dX12_keepsVillage_57 rfl (lv_at hl23 1 rfl) ?_
        refine lv_aload_n (pc := 58) E.1 E.2.1 dX12_keepsVillage_58 rfl (lv_at hl23 1 rfl) ?_
        refine x_get (pc := 59) (T := TX12) (N := 70) (ci := 12) (v := .ref (mr 9)) E hw116 inX12 0 9 q_1408 rfl rfl (by decide) rfl rfl dX12_keepsVillage_59 ?_
        refine lv_iload_n (pc := 62) E.1 E.2.1 dX12_keepsVillage_62 rfl (lv_at hl23 0 rfl) ?_
        refine x_iald (pc := 63) (f := g_18) E hw116 6 rfl (inbE (a := x_14.toInt) rfl (by omega)) dX12_keepsVillage_63 ?_
        refine lv_topi (fun v_117 ev_117 => ?_)
        refine cm_i (pc := 64) hw116 (rn_M (As := [.int v_117]) (rest := [.int x_14, .ref (mr 9)]) E hw116 (s_kept0 l D cI cJ _ M mr (upd (upd mi 6 r_5) 68 nkeptAt_111) (va_up (va_up (va_up (va_up (va_up mf 7 g_105) 8 g_115) 9 g_18) 10 g_19) 11 g_20) mg v_117 h0 (by show 0 ≤ nkeptAt_111.toInt ∧ nkeptAt_111.toInt ≤ 3599; omega)) (gdV q_2125 q_2127 q_146 q_162 q_2128) hdV_X12_kept ⟨rfl, rfl⟩ ⟨(Nat.le_of_ble_eq_true rfl), (Nat.le_of_ble_eq_true rfl)⟩ ⟨(Nat.le_of_ble_eq_true rfl), (Nat.le_of_ble_eq_true rfl)⟩ 12 rfl rfl rfl rfl hl23.1 rfl (Nat.le_of_ble_eq_true rfl) dX12_keepsVillage_64) (fun r_119 u_118 H1 locs hp hw120 => ?_)
        obtain ⟨nkeptAt_121, rfl⟩ : ∃ z, z = u_118 := ⟨_, rfl⟩
        generalize H1 = H at hw120 ⊢
        have hw122 : WD D A s.heap (MW cI cJ M mr (upd (upd mi 6 r_5) 68 nkeptAt_121) (va_up (va_up (va_up (va_up (va_up mf 7 g_105) 8 g_115) 9 g_18) 10 g_19) 11 g_20) mg) H locs := hw120
        obtain ⟨hp_123, hp_124⟩ := hp
        have hp_123 : nkeptAt_121.toInt = nkeptAt_111.toInt + 1 := hp_123
        have hp_124 : r_119 = (mf 69) (nkeptAt_111).toNatClampNeg := hp_124
        have er_119 := hp_124
        refine x_iastG (pc := 67) (f := g_18) (wf := fun g => (MW cI cJ M mr (upd (upd mi 6 r_5) 68 nkeptAt_121) (va_up (va_up (va_up (va_up (va_up mf 7 g_105) 8 g_115) 9 g) 10 g_19) 11 g_20) mg)) E hw122 6 rfl (inbE (a := x_14.toInt) rfl (by omega)) (fun _ => rfl) dX12_keepsVillage_67 (fun g_125 H locs eg_125 hw126 => ?_)
        refine lv_aload_n (pc := 68) E.1 E.2.1 dX12_keepsVillage_68 rfl (lv_at hl23 1 rfl) ?_
        refine x_get (pc := 69) (T := TX12) (N := 70) (ci := 12) (v := .ref (mr 10)) E hw126 inX12 0 10 q_1409 rfl rfl (by decide) rfl rfl dX12_keepsVillage_69 ?_
        refine lv_iload_n (pc := 72) E.1 E.2.1 dX12_keepsVillage_72 rfl (lv_at hl23 0 rfl) ?_
        refine lv_aload_n (pc := 73) E.1 E.2.1 dX12_keepsVillage_73 rfl (lv_at hl23 1 rfl) ?_
        refine lv_aload_n (pc := 74) E.1 E.2.1 dX12_keepsVillage_74 rfl (lv_at hl23 1 rfl) ?_
        refine x_get (pc := 75) (T := TX12) (N := 70) (ci := 12) (v := .ref (mr 10)) E hw126 inX12 0 10 q_1409 rfl rfl (by decide) rfl rfl dX12_keepsVillage_75 ?_
        refine lv_iload_n (pc := 78) E.1 E.2.1 dX12_keepsVillage_78 rfl (lv_at hl23 0 rfl) ?_
        refine x_iald (pc := 79) (f := g_19) E hw126 7 rfl (inbE (a := x_14.toInt) rfl (by omega)) dX12_keepsVillage_79 ?_
        refine lv_topi (fun v_127 ev_127 => ?_)
        refine cm_i (pc := 80) hw126 (rn_M (As := [.int v_127]) (rest := [.int x_14, .ref (mr 10)]) E hw126 (s_kept0 l D cI cJ _ M mr (upd (upd mi 6 r_5) 68 nkeptAt_121) (va_up (va_up (va_up (va_up (va_up mf 7 g_105) 8 g_115) 9 g_125) 10 g_19) 11 g_20) mg v_127 h0 (by show 0 ≤ nkeptAt_121.toInt ∧ nkeptAt_121.toInt ≤ 3599; omega)) (gdV q_2125 q_2127 q_146 q_162 q_2128) hdV_X12_kept ⟨rfl, rfl⟩ ⟨(Nat.le_of_ble_eq_true rfl), (Nat.le_of_ble_eq_true rfl)⟩ ⟨(Nat.le_of_ble_eq_true rfl), (Nat.le_of_ble_eq_true rfl)⟩ 12 rfl rfl rfl rfl hl23.1 rfl (Nat.le_of_ble_eq_true rfl) dX12_keepsVillage_80) (fun r_129 u_128 H1 locs hp hw130 => ?_)
        obtain ⟨nkeptAt_131, rfl⟩ : ∃ z, z = u_128 := ⟨_, rfl⟩
        generalize H1 = H at hw130 ⊢
        have hw132 : WD D A s.heap (MW cI cJ M mr (upd (upd mi 6 r_5) 68 nkeptAt_131) (va_up (va_up (va_up (va_up (va_up mf 7 g_105) 8 g_115) 9 g_125) 10 g_19) 11 g_20) mg) H locs := hw130
        obtain ⟨hp_133, hp_134⟩ := hp
        have hp_133 : nkeptAt_131.toInt = nkeptAt_121.toInt + 1 := hp_133
        have hp_134 : r_129 = (mf 69) (nkeptAt_121).toNatClampNeg := hp_134
        have er_129 := hp_134
        refine x_iastG (pc := 83) (f := g_19) (wf := fun g => (MW cI cJ M mr (upd (upd mi 6 r_5) 68 nkeptAt_131) (va_up (va_up (va_up (va_up (va_up mf 7 g_105) 8 g_115) 9 g_125) 10 g) 11 g_20) mg)) E hw132 7 rfl (inbE (a := x_14.toInt) rfl (by omega)) (fun _ => rfl) dX12_keepsVillage_83 (fun g_135 H locs eg_135 hw136 => ?_)
        refine lv_aload_n (pc := 84) E.1 E.2.1 dX12_keepsVillage_84 rfl (lv_at hl23 1 rfl) ?_
        refine x_get (pc := 85) (T := TX12) (N := 70) (ci := 12) (v := .ref (mr 11)) E hw136 inX12 0 11 q_1410 rfl rfl (by decide) rfl rfl dX12_keepsVillage_85 ?_
        refine lv_iload_n (pc := 88) E.1 E.2.1 dX12_keepsVillage_88 rfl (lv_at hl23 0 rfl) ?_
        refine lv_aload_n (pc := 89) E.1 E.2.1 dX12_keepsVillage_89 rfl (lv_at hl23 1 rfl) ?_
        refine lv_aload_n (pc := 90) E.1 E.2.1 dX12_keepsVillage_90 rfl (lv_at hl23 1 rfl) ?_
        refine x_get (pc := 91) (T := TX12) (N := 70) (ci := 12) (v := .ref (mr 11)) E hw136 inX12 0 11 q_1410 rfl rfl (by decide) rfl rfl dX12_keepsVillage_91 ?_
        refine lv_iload_n (pc := 94) E.1 E.2.1 dX12_keepsVillage_94 rfl (lv_at hl23 0 rfl) ?_
        refine x_iald (pc := 95) (f := g_20) E hw136 8 rfl (inbE (a := x_14.toInt) rfl (by omega)) dX12_keepsVillage_95 ?_
        refine lv_topi (fun v_137 ev_137 => ?_)
        refine cm_i (pc := 96) hw136 (rn_M (As := [.int v_137]) (rest := [.int x_14, .ref (mr 11)]) E hw136 (s_kept0 l D cI cJ _ M mr (upd (upd mi 6 r_5) 68 nkeptAt_131) (va_up (va_up (va_up (va_up (va_up mf 7 g_105) 8 g_115) 9 g_125) 10 g_135) 11 g_20) mg v_137 h0 (by show 0 ≤ nkeptAt_131.toInt ∧ nkeptAt_131.toInt ≤ 3599; omega)) (gdV q_2125 q_2127 q_146 q_162 q_2128) hdV_X12_kept ⟨rfl, rfl⟩ ⟨(Nat.le_of_ble_eq_true rfl), (Nat.le_of_ble_eq_true rfl)⟩ ⟨(Nat.le_of_ble_eq_true rfl), (Nat.le_of_ble_eq_true rfl)⟩ 12 rfl rfl rfl rfl hl23.1 rfl (Nat.le_of_ble_eq_true rfl) dX12_keepsVillage_96) (fun r_139 u_138 H1 locs hp hw140 => ?_)
        obtain ⟨nkeptAt_141, rfl⟩ : ∃ z, z = u_138 := ⟨_, rfl⟩
        generalize H1 = H at hw140 ⊢
        have hw142 : WD D A s.heap (MW cI cJ M mr (upd (upd mi 6 r_5) 68 nkeptAt_141) (va_up (va_up (va_up (va_up (va_up mf 7 g_105) 8 g_115) 9 g_125) 10 g_135) 11 g_20) mg) H locs := hw140
        obtain ⟨hp_143, hp_144⟩ := hp
        have hp_143 : nkeptAt_141.toInt = nkeptAt_131.toInt + 1 := hp_143
        have hp_144 : r_139 = (mf 69) (nkeptAt_131).toNatClampNeg := hp_144
        have er_139 := hp_144
        refine x_iastG (pc := 99) (f := g_20) (wf := fun g => (MW cI cJ M mr (upd (upd mi 6 r_5) 68 nkeptAt_141) (va_up (va_up (va_up (va_up (va_up mf 7 g_105) 8 g_115) 9 g_125) 10 g_135) 11 g) mg)) E hw142 8 rfl (inbE (a := x_14.toInt) rfl (by omega)) (fun _ => rfl) dX12_keepsVillage_99 (fun g_145 H locs eg_145 hw146 => ?_)
        obtain ⟨v_147, ev_147⟩ : ∃ z : Int32, x_14 + Int32.ofInt (1) = z := ⟨_, rfl⟩
        have hv_147 : v_147.toInt = x_14.toInt + (1) := by rw [← ev_147]; exact incE rfl (by decide) (by omega)
        refine lv_iinc (pc := 100) (v := v_147) (lv' := [(1, .int v_147), (0, .ref M)]) E.1 E.2.1 dX12_keepsVillage_100 hl23 (k := 0) rfl ev_147 (by decide) rfl (fun ls hl148 => ?_)
        refine lv_goto (pc := 103) (tgt := 14) E.1 E.2.1 dX12_keepsVillage_103 (by decide) ?_
        exact ih_21 v_147 nkeptAt_141 g_105 g_115 g_125 g_135 g_145 _ _ _ ⟨(by show 0 ≤ v_147.toInt; omega), (by show v_147.toInt ≤ 10; omega), (by show nkeptAt_141.toInt = 67 + 5 * v_147.toInt; omega), (SGT_row hi_20_3 eg_115 (by omega) (by omega) er_109 (by omega) (m := v_147.toInt) (by omega)), (SGT_row hi_20_4 eg_105 (by omega) (by omega) er_99 (by omega) (m := v_147.toInt) (by omega))⟩ (by omega) hw146 (lv_sub hl148 [0, 1] rfl)
  exact loop_13 (Int.toNat (10 - 0) + 1) 0 nkeptAt_7 (mf 7) (mf 8) (mf 9) (mf 10) (mf 11) _ _ _ ⟨(by show 0 ≤ (0 : Int32).toInt; have k_0 : (0 : Int32).toInt = 0 := (by decide +kernel); omega), (by show (0 : Int32).toInt ≤ 10; have k_0 : (0 : Int32).toInt = 0 := (by decide +kernel); omega), (by show nkeptAt_7.toInt = 67 + 5 * (0 : Int32).toInt; have k_0 : (0 : Int32).toInt = 0 := (by decide +kernel); omega), (SGT_nil (by decide +kernel)), (SGT_nil (by decide +kernel))⟩ (by have k_0 : (0 : Int32).toInt = 0 := (by decide +kernel); omega) hw11 (lv_sub hl12 [0, 1] rfl)
