set_option maxHeartbeats 4000000 in
set_option maxRecDepth 100000 in
theorem s_stateB (l : Launch) (D : va_G) (cI cJ : ClassId) (sz M : Nat) (mr : Nat → Nat) (mi : Nat → Int32) (mf : Nat → Nat → Int32) (mg : Nat → Nat → Int64) (z_v : Int32)  : Met l yX12_state (Cond.code yX12_state cX12_state 3 (some .int) :: GW) ({ frames := 1, cells := 0, slots := 0, locals := 40 } : Room) (va_Pc [.ref M, .int z_v] (PW D cI cJ sz (MW cI cJ M mr mi mf mg) xT)) (va_Qi (fun (r : Int32) (u : Int32 × (Nat → Int32) × Int32) => (u.2.2.toInt = 0) ∧ ((u.2.1 2).toInt = ((mf 1) 2).toInt) ∧ ((u.2.1 3).toInt = ((mf 1) 3).toInt) ∧ ((u.2.1 5).toInt = ((mf 1) 5).toInt)) (fun u => QW D cI cJ (va_A (MW cI cJ M mr mi mf mg) sz) ((fun (u : Int32 × (Nat → Int32) × Int32) => (MW cI cJ M mr (upd (upd mi 0 u.1) 3 u.2.2) (va_up mf 1 u.2.1) mg)) u)) (va_A (MW cI cJ M mr mi mf mg) sz)) 0 0 (va_A (MW cI cJ M mr mi mf mg) sz) := by
  refine mk_met (y := yX12_state) (bytes := cX12_state) (maxL := 3) (avs := [.ref M, .int z_v]) (WS := (MW cI cJ M mr mi mf mg)) (Qf := fun A => va_Qi (fun (r : Int32) (u : Int32 × (Nat → Int32) × Int32) => (u.2.2.toInt = 0) ∧ ((u.2.1 2).toInt = ((mf 1) 2).toInt) ∧ ((u.2.1 3).toInt = ((mf 1) 3).toInt) ∧ ((u.2.1 5).toInt = ((mf 1) 5).toInt)) (fun u => QW D cI cJ A ((fun (u : Int32 × (Nat → Int32) × Int32) => (MW cI cJ M mr (upd (upd mi 0 u.1) 3 u.2.2) (va_up mf 1 u.2.1) mg)) u)) A) (by decide) (Nat.le_of_ble_eq_true rfl) ?_
  intro p e s m below meth c A ls E hr hlk hnm hX hw1 hl2
  have hl3 : lv_has ls 3 [(0, .ref M), (1, .int z_v)] := hl2
  refine lv_aload_n (pc := 0) E.1 E.2.1 dX12_state_0 rfl (lv_at hl3 0 rfl) ?_
  refine lv_iconst (pc := 1) (v := 0) E.1 E.2.1 dX12_state_1 (by decide +kernel) ?_
  refine x_put (pc := 2) (T := TX12) (N := 70) (ci := 12) (ws' := (MW cI cJ M mr (upd mi 0 0) mf mg)) E hw1 inX12 tyX12_ok nmX12 0 0 q_1399 rfl rfl (by decide) rfl rfl rfl rfl (Nat.le_of_ble_eq_true rfl) rfl dX12_state_2 (fun H locs hw4 => ?_)
  refine lv_aload_n (pc := 5) E.1 E.2.1 dX12_state_5 rfl (lv_at hl3 0 rfl) ?_
  refine x_get (pc := 6) (T := TX12) (N := 70) (ci := 12) (v := .ref (mr 1)) E hw4 inX12 0 1 q_1400 rfl rfl (by decide) rfl rfl dX12_state_6 ?_
  refine lv_iconst (pc := 9) (v := 1) E.1 E.2.1 dX12_state_9 (by decide +kernel) ?_
  refine x_iald (pc := 10) (f := (mf 1)) E hw4 1 rfl (inbE (a := 1) (by decide +kernel) (by omega)) dX12_state_10 ?_
  refine lv_topi (fun v_5 ev_5 => ?_)
  refine lv_istore_n (pc := 11) (lv' := [(2, .int v_5), (0, .ref M), (1, .int z_v)]) E.1 E.2.1 dX12_state_11 rfl hl3 (by decide) rfl (fun ls hl6 => ?_)
  refine lv_aload_n (pc := 12) E.1 E.2.1 dX12_state_12 rfl (lv_at hl6 1 rfl) ?_
  refine x_get (pc := 13) (T := TX12) (N := 70) (ci := 12) (v := .ref (mr 1)) E hw4 inX12 0 1 q_1400 rfl rfl (by decide) rfl rfl dX12_state_13 ?_
  refine lv_iconst (pc := 16) (v := 1) E.1 E.2.1 dX12_state_16 (by decide +kernel) ?_
  refine lv_iload_n (pc := 17) E.1 E.2.1 dX12_state_17 rfl (lv_at hl6 2 rfl) ?_
  refine x_iastG (pc := 18) (f := (mf 1)) (wf := fun g => (MW cI cJ M mr (upd mi 0 0) (va_up mf 1 g) mg)) E hw4 1 rfl (inbE (a := 1) (by decide +kernel) (by omega)) (fun _ => rfl) dX12_state_18 (fun g_7 H locs eg_7 hw8 => ?_)
  have ht_9 : (g_7 2).toInt = ((mf 1) 2).toInt := by rw [eg_7]; rfl
  have ht_10 : (g_7 3).toInt = ((mf 1) 3).toInt := by rw [eg_7]; rfl
  have ht_11 : (g_7 5).toInt = ((mf 1) 5).toInt := by rw [eg_7]; rfl
  refine lv_aload_n (pc := 19) E.1 E.2.1 dX12_state_19 rfl (lv_at hl6 1 rfl) ?_
  refine lv_iconst (pc := 20) (v := 0) E.1 E.2.1 dX12_state_20 (by decide +kernel) ?_
  refine x_put (pc := 21) (T := TX12) (N := 70) (ci := 12) (ws' := (MW cI cJ M mr (upd (upd mi 0 0) 3 0) (va_up mf 1 g_7) mg)) E hw8 inX12 tyX12_ok nmX12 0 3 q_1402 rfl rfl (by decide) rfl rfl rfl rfl (Nat.le_of_ble_eq_true rfl) rfl dX12_state_21 (fun H locs hw12 => ?_)
  refine lv_iload_n (pc := 24) E.1 E.2.1 dX12_state_24 rfl (lv_at hl6 0 rfl) ?_
  exact em_i (w1 := (fun (u : Int32 × (Nat → Int32) × Int32) => (MW cI cJ M mr (upd (upd mi 0 u.1) 3 u.2.2) (va_up mf 1 u.2.1) mg))) E hr hlk (0, g_7, 0) hw12 ⟨(by show (0 : Int32).toInt = 0; have k_0 : (0 : Int32).toInt = 0 := (by decide +kernel); have k_1 : (0 : Int32).toInt = 0 := (by decide +kernel); omega), (by show (g_7 2).toInt = ((mf 1) 2).toInt; have k_0 : (0 : Int32).toInt = 0 := (by decide +kernel); have k_1 : (0 : Int32).toInt = 0 := (by decide +kernel); omega), (by show (g_7 3).toInt = ((mf 1) 3).toInt; have k_0 : (0 : Int32).toInt = 0 := (by decide +kernel); have k_1 : (0 : Int32).toInt = 0 := (by decide +kernel); omega), (by show (g_7 5).toInt = ((mf 1) 5).toInt; have k_0 : (0 : Int32).toInt = 0 := (by decide +kernel); have k_1 : (0 : Int32).toInt = 0 := (by decide +kernel); omega)⟩ (Nat.le_of_ble_eq_true rfl) (Nat.le_of_ble_eq_true rfl) dX12_state_25
set_option maxHeartbeats 4000000 in
set_option maxRecDepth 100000 in
theorem s_friendsB (l : Launch) (D : va_G) (cI cJ : ClassId) (sz M : Nat) (mr : Nat → Nat) (mi : Nat → Int32) (mf : Nat → Nat → Int32) (mg : Nat → Nat → Int64) (z_a : Int32) (z_b : Int32) (z_are : Int32) (h0 : 0 ≤ (mi 6).toInt ∧ (mi 6).toInt ≤ 10) (h1 : 0 ≤ (mi 3).toInt ∧ (mi 3).toInt ≤ 6) : Met l yX12_friends (Cond.code yX12_friends cX12_friends 4 (some .boolean) :: GW) ({ frames := 2, cells := 0, slots := 0, locals := 61 } : Room) (va_Pc [.ref M, .int z_a, .int z_b, .int z_are] (PW D cI cJ sz (MW cI cJ M mr mi mf mg) xT)) (va_Qi (fun (r : Int32) (u : Int32 × (Nat → Int32) × Int32) => (0 ≤ u.2.2.toInt ∧ u.2.2.toInt ≤ 6) ∧ (u.2.2.toInt ≤ (mi 3).toInt)) (fun u => QW D cI cJ (va_A (MW cI cJ M mr mi mf mg) sz) ((fun (u : Int32 × (Nat → Int32) × Int32) => (MW cI cJ M mr (upd (upd mi 0 u.1) 3 u.2.2) (va_up mf 11 u.2.1) mg)) u)) (va_A (MW cI cJ M mr mi mf mg) sz)) 0 0 (va_A (MW cI cJ M mr mi mf mg) sz) := by
  refine mk_met (y := yX12_friends) (bytes := cX12_friends) (maxL := 4) (avs := [.ref M, .int z_a, .int z_b, .int z_are]) (WS := (MW cI cJ M mr mi mf mg)) (Qf := fun A => va_Qi (fun (r : Int32) (u : Int32 × (Nat → Int32) × Int32) => (0 ≤ u.2.2.toInt ∧ u.2.2.toInt ≤ 6) ∧ (u.2.2.toInt ≤ (mi 3).toInt)) (fun u => QW D cI cJ A ((fun (u : Int32 × (Nat → Int32) × Int32) => (MW cI cJ M mr (upd (upd mi 0 u.1) 3 u.2.2) (va_up mf 11 u.2.1) mg)) u)) A) (by decide) (Nat.le_of_ble_eq_true rfl) ?_
  intro p e s m below meth c A ls E hr hlk hnm hX hw1 hl2
  have hl3 : lv_has ls 4 [(0, .ref M), (1, .int z_a), (2, .int z_b), (3, .int z_are)] := hl2
  refine lv_aload_n (pc := 0) E.1 E.2.1 dX12_friends_0 rfl (lv_at hl3 0 rfl) ?_
  refine lv_iconst (pc := 1) (v := 0) E.1 E.2.1 dX12_friends_1 (by decide +kernel) ?_
  refine x_put (pc := 2) (T := TX12) (N := 70) (ci := 12) (ws' := (MW cI cJ M mr (upd mi 0 0) mf mg)) E hw1 inX12 tyX12_ok nmX12 0 0 q_1399 rfl rfl (by decide) rfl rfl rfl rfl (Nat.le_of_ble_eq_true rfl) rfl dX12_friends_2 (fun H locs hw4 => ?_)
  refine lv_aload_n (pc := 5) E.1 E.2.1 dX12_friends_5 rfl (lv_at hl3 0 rfl) ?_
  refine lv_iload_n (pc := 6) E.1 E.2.1 dX12_friends_6 rfl (lv_at hl3 1 rfl) ?_
  refine cm_i (pc := 7) hw4 (rn_M (As := [.int z_a]) (rest := []) E hw4 (s_isHouse l D cI cJ _ M mr (upd mi 0 0) mf mg z_a) (gdV q_1634 q_1636 q_48 q_162 q_1637) hdV_X12_isHouse ⟨rfl, rfl⟩ ⟨(Nat.le_of_ble_eq_true rfl), (Nat.le_of_ble_eq_true rfl)⟩ ⟨(Nat.le_of_ble_eq_true rfl), (Nat.le_of_ble_eq_true rfl)⟩ 12 rfl rfl rfl rfl hl3.1 rfl (Nat.le_of_ble_eq_true rfl) dX12_friends_7) (fun r_6 u_5 H1 locs hp hw7 => ?_)
  generalize H1 = H at hw7 ⊢
  have hw8 : WD D A s.heap (MW cI cJ M mr (upd mi 0 0) mf mg) H locs := hw7
  have hp_9 := hp
  rcases hp_9 with ⟨rfl, ha_10⟩ | ⟨rfl, ha_11⟩ | ⟨rfl, ha_12, ha_13⟩
  · skip
    have ha_10 : z_a.toInt < 0 := ha_10
    refine lv_if_eq (pc := 10) (tgt := 26) E.1 E.2.1 dX12_friends_10 (by decide) (fun _ => ?_) (fun c_14 => absurd (meqE (a := 0) (b := 0) (by decide +kernel) (by decide +kernel) (by omega)) c_14)
    refine lv_iconst (pc := 26) (v := 0) E.1 E.2.1 dX12_friends_26 (by decide +kernel) ?_
    exact em_z (w1 := (fun (u : Int32 × (Nat → Int32) × Int32) => (MW cI cJ M mr (upd (upd mi 0 u.1) 3 u.2.2) (va_up mf 11 u.2.1) mg))) E hr hlk (0, (mf 11), (mi 3)) hw8 ⟨h1, (by show (mi 3).toInt ≤ (mi 3).toInt; have k_0 : (0 : Int32).toInt = 0 := (by decide +kernel); have k_1 : (0 : Int32).toInt = 0 := (by decide +kernel); omega)⟩ (by decide +kernel) (Nat.le_of_ble_eq_true rfl) (Nat.le_of_ble_eq_true rfl) dX12_friends_27
  · skip
    have ha_11 : (mi 6).toInt ≤ z_a.toInt := ha_11
    refine lv_if_eq (pc := 10) (tgt := 26) E.1 E.2.1 dX12_friends_10 (by decide) (fun _ => ?_) (fun c_15 => absurd (meqE (a := 0) (b := 0) (by decide +kernel) (by decide +kernel) (by omega)) c_15)
    refine lv_iconst (pc := 26) (v := 0) E.1 E.2.1 dX12_friends_26 (by decide +kernel) ?_
    exact em_z (w1 := (fun (u : Int32 × (Nat → Int32) × Int32) => (MW cI cJ M mr (upd (upd mi 0 u.1) 3 u.2.2) (va_up mf 11 u.2.1) mg))) E hr hlk (0, (mf 11), (mi 3)) hw8 ⟨h1, (by show (mi 3).toInt ≤ (mi 3).toInt; have k_0 : (0 : Int32).toInt = 0 := (by decide +kernel); have k_1 : (0 : Int32).toInt = 0 := (by decide +kernel); omega)⟩ (by decide +kernel) (Nat.le_of_ble_eq_true rfl) (Nat.le_of_ble_eq_true rfl) dX12_friends_27
  · skip
    have ha_12 : 0 ≤ z_a.toInt := ha_12
    have ha_13 : z_a.toInt < (mi 6).toInt := ha_13
    refine lv_if_eq (pc := 10) (tgt := 26) E.1 E.2.1 dX12_friends_10 (by decide) (fun c_16 => absurd c_16 (mneE (a := 1) (b := 0) (by decide +kernel) (by decide +kernel) (by omega))) (fun _ => ?_)
    refine lv_aload_n (pc := 13) E.1 E.2.1 dX12_friends_13 rfl (lv_at hl3 0 rfl) ?_
    refine lv_iload_n (pc := 14) E.1 E.2.1 dX12_friends_14 rfl (lv_at hl3 2 rfl) ?_
    refine cm_i (pc := 15) hw8 (rn_M (As := [.int z_b]) (rest := []) E hw8 (s_isHouse l D cI cJ _ M mr (upd mi 0 0) mf mg z_b) (gdV q_1634 q_1636 q_48 q_162 q_1637) hdV_X12_isHouse ⟨rfl, rfl⟩ ⟨(Nat.le_of_ble_eq_true rfl), (Nat.le_of_ble_eq_true rfl)⟩ ⟨(Nat.le_of_ble_eq_true rfl), (Nat.le_of_ble_eq_true rfl)⟩ 12 rfl rfl rfl rfl hl3.1 rfl (Nat.le_of_ble_eq_true rfl) dX12_friends_15) (fun r_18 u_17 H1 locs hp hw19 => ?_)
    generalize H1 = H at hw19 ⊢
    have hw20 : WD D A s.heap (MW cI cJ M mr (upd mi 0 0) mf mg) H locs := hw19
    have hp_21 := hp
    rcases hp_21 with ⟨rfl, ha_22⟩ | ⟨rfl, ha_23⟩ | ⟨rfl, ha_24, ha_25⟩
    · skip
      have ha_22 : z_b.toInt < 0 := ha_22
      refine lv_if_eq (pc := 18) (tgt := 26) E.1 E.2.1 dX12_friends_18 (by decide) (fun _ => ?_) (fun c_26 => absurd (meqE (a := 0) (b := 0) (by decide +kernel) (by decide +kernel) (by omega)) c_26)
      refine lv_iconst (pc := 26) (v := 0) E.1 E.2.1 dX12_friends_26 (by decide +kernel) ?_
      exact em_z (w1 := (fun (u : Int32 × (Nat → Int32) × Int32) => (MW cI cJ M mr (upd (upd mi 0 u.1) 3 u.2.2) (va_up mf 11 u.2.1) mg))) E hr hlk (0, (mf 11), (mi 3)) hw20 ⟨h1, (by show (mi 3).toInt ≤ (mi 3).toInt; have k_0 : (0 : Int32).toInt = 0 := (by decide +kernel); have k_1 : (0 : Int32).toInt = 0 := (by decide +kernel); omega)⟩ (by decide +kernel) (Nat.le_of_ble_eq_true rfl) (Nat.le_of_ble_eq_true rfl) dX12_friends_27
    · skip
      have ha_23 : (mi 6).toInt ≤ z_b.toInt := ha_23
      refine lv_if_eq (pc := 18) (tgt := 26) E.1 E.2.1 dX12_friends_18 (by decide) (fun _ => ?_) (fun c_27 => absurd (meqE (a := 0) (b := 0) (by decide +kernel) (by decide +kernel) (by omega)) c_27)
      refine lv_iconst (pc := 26) (v := 0) E.1 E.2.1 dX12_friends_26 (by decide +kernel) ?_
      exact em_z (w1 := (fun (u : Int32 × (Nat → Int32) × Int32) => (MW cI cJ M mr (upd (upd mi 0 u.1) 3 u.2.2) (va_up mf 11 u.2.1) mg))) E hr hlk (0, (mf 11), (mi 3)) hw20 ⟨h1, (by show (mi 3).toInt ≤ (mi 3).toInt; have k_0 : (0 : Int32).toInt = 0 := (by decide +kernel); have k_1 : (0 : Int32).toInt = 0 := (by decide +kernel); omega)⟩ (by decide +kernel) (Nat.le_of_ble_eq_true rfl) (Nat.le_of_ble_eq_true rfl) dX12_friends_27
    · skip
      have ha_24 : 0 ≤ z_b.toInt := ha_24
      have ha_25 : z_b.toInt < (mi 6).toInt := ha_25
      refine lv_if_eq (pc := 18) (tgt := 26) E.1 E.2.1 dX12_friends_18 (by decide) (fun c_28 => absurd c_28 (mneE (a := 1) (b := 0) (by decide +kernel) (by decide +kernel) (by omega))) (fun _ => ?_)
      refine lv_iload_n (pc := 21) E.1 E.2.1 dX12_friends_21 rfl (lv_at hl3 1 rfl) ?_
      refine lv_iload_n (pc := 22) E.1 E.2.1 dX12_friends_22 rfl (lv_at hl3 2 rfl) ?_
      refine lv_icmp_ne (pc := 23) (tgt := 28) E.1 E.2.1 dX12_friends_23 (by decide) (fun c_29 => ?_) (fun c_29 => ?_)
      · skip
        have hc_29 := neE (a := z_a.toInt) (b := z_b.toInt) rfl rfl c_29
        refine lv_aload_n (pc := 28) E.1 E.2.1 dX12_friends_28 rfl (lv_at hl3 0 rfl) ?_
        refine x_get (pc := 29) (T := TX12) (N := 70) (ci := 12) (v := .ref (mr 11)) E hw20 inX12 0 11 q_1410 rfl rfl (by decide) rfl rfl dX12_friends_29 ?_
        refine lv_iload_n (pc := 32) E.1 E.2.1 dX12_friends_32 rfl (lv_at hl3 1 rfl) ?_
        refine lv_iload_n (pc := 33) E.1 E.2.1 dX12_friends_33 rfl (lv_at hl3 3 rfl) ?_
        refine lv_if_eq (pc := 34) (tgt := 50) E.1 E.2.1 dX12_friends_34 (by decide) (fun c_30 => ?_) (fun c_30 => ?_)
        · skip
          have hc_30 := eqE (a := z_are.toInt) (b := 0) rfl (by decide +kernel) c_30
          refine lv_aload_n (pc := 50) E.1 E.2.1 dX12_friends_50 rfl (lv_at hl3 0 rfl) ?_
          refine x_get (pc := 51) (T := TX12) (N := 70) (ci := 12) (v := .ref (mr 11)) E hw20 inX12 0 11 q_1410 rfl rfl (by decide) rfl rfl dX12_friends_51 ?_
          refine lv_iload_n (pc := 54) E.1 E.2.1 dX12_friends_54 rfl (lv_at hl3 1 rfl) ?_
          refine x_iald (pc := 55) (f := (mf 11)) E hw20 8 rfl (inbE (a := z_a.toInt) rfl (by omega)) dX12_friends_55 ?_
          refine lv_topi (fun v_31 ev_31 => ?_)
          refine lv_iconst (pc := 56) (v := 1) E.1 E.2.1 dX12_friends_56 (by decide +kernel) ?_
          refine lv_iload_n (pc := 57) E.1 E.2.1 dX12_friends_57 rfl (lv_at hl3 2 rfl) ?_
          refine lv_ishl (pc := 58) E.1 E.2.1 dX12_friends_58 ?_
          refine lv_topi (fun v_32 ev_32 => ?_)
          have hb1v_32 : 1 ≤ v_32.toInt ∧ v_32.toInt ≤ 512 := by rw [ev_32]; exact shl9 (by omega)
          refine lv_iconst (pc := 59) (v := (-1)) E.1 E.2.1 dX12_friends_59 (by decide +kernel) ?_
          refine lv_ixor (pc := 60) E.1 E.2.1 dX12_friends_60 ?_
          refine lv_topi (fun v_33 ev_33 => ?_)
          refine lv_iand (pc := 61) E.1 E.2.1 dX12_friends_61 ?_
          refine lv_topi (fun v_34 ev_34 => ?_)
          refine x_iastG (pc := 62) (f := (mf 11)) (wf := fun g => (MW cI cJ M mr (upd mi 0 0) (va_up mf 11 g) mg)) E hw20 8 rfl (inbE (a := z_a.toInt) rfl (by omega)) (fun _ => rfl) dX12_friends_62 (fun g_35 H locs eg_35 hw36 => ?_)
          refine lv_aload_n (pc := 63) E.1 E.2.1 dX12_friends_63 rfl (lv_at hl3 0 rfl) ?_
          refine x_get (pc := 64) (T := TX12) (N := 70) (ci := 12) (v := .ref (mr 11)) E hw36 inX12 0 11 q_1410 rfl rfl (by decide) rfl rfl dX12_friends_64 ?_
          refine lv_iload_n (pc := 67) E.1 E.2.1 dX12_friends_67 rfl (lv_at hl3 2 rfl) ?_
          refine lv_iload_n (pc := 68) E.1 E.2.1 dX12_friends_68 rfl (lv_at hl3 3 rfl) ?_
          refine lv_if_eq (pc := 69) (tgt := 85) E.1 E.2.1 dX12_friends_69 (by decide) (fun _ => ?_) (fun c_37 => absurd (meqE (a := z_are.toInt) (b := 0) rfl (by decide +kernel) (by omega)) c_37)
          refine lv_aload_n (pc := 85) E.1 E.2.1 dX12_friends_85 rfl (lv_at hl3 0 rfl) ?_
          refine x_get (pc := 86) (T := TX12) (N := 70) (ci := 12) (v := .ref (mr 11)) E hw36 inX12 0 11 q_1410 rfl rfl (by decide) rfl rfl dX12_friends_86 ?_
          refine lv_iload_n (pc := 89) E.1 E.2.1 dX12_friends_89 rfl (lv_at hl3 2 rfl) ?_
          refine x_iald (pc := 90) (f := g_35) E hw36 8 rfl (inbE (a := z_b.toInt) rfl (by omega)) dX12_friends_90 ?_
          refine lv_topi (fun v_38 ev_38 => ?_)
          refine lv_iconst (pc := 91) (v := 1) E.1 E.2.1 dX12_friends_91 (by decide +kernel) ?_
          refine lv_iload_n (pc := 92) E.1 E.2.1 dX12_friends_92 rfl (lv_at hl3 1 rfl) ?_
          refine lv_ishl (pc := 93) E.1 E.2.1 dX12_friends_93 ?_
          refine lv_topi (fun v_39 ev_39 => ?_)
          have hb1v_39 : 1 ≤ v_39.toInt ∧ v_39.toInt ≤ 512 := by rw [ev_39]; exact shl9 (by omega)
          refine lv_iconst (pc := 94) (v := (-1)) E.1 E.2.1 dX12_friends_94 (by decide +kernel) ?_
          refine lv_ixor (pc := 95) E.1 E.2.1 dX12_friends_95 ?_
          refine lv_topi (fun v_40 ev_40 => ?_)
          refine lv_iand (pc := 96) E.1 E.2.1 dX12_friends_96 ?_
          refine lv_topi (fun v_41 ev_41 => ?_)
          refine x_iastG (pc := 97) (f := g_35) (wf := fun g => (MW cI cJ M mr (upd mi 0 0) (va_up mf 11 g) mg)) E hw36 8 rfl (inbE (a := z_b.toInt) rfl (by omega)) (fun _ => rfl) dX12_friends_97 (fun g_42 H locs eg_42 hw43 => ?_)
          refine lv_aload_n (pc := 98) E.1 E.2.1 dX12_friends_98 rfl (lv_at hl3 0 rfl) ?_
          refine lv_iconst (pc := 99) (v := 0) E.1 E.2.1 dX12_friends_99 (by decide +kernel) ?_
          refine x_put (pc := 100) (T := TX12) (N := 70) (ci := 12) (ws' := (MW cI cJ M mr (upd (upd mi 0 0) 3 0) (va_up mf 11 g_42) mg)) E hw43 inX12 tyX12_ok nmX12 0 3 q_1402 rfl rfl (by decide) rfl rfl rfl rfl (Nat.le_of_ble_eq_true rfl) rfl dX12_friends_100 (fun H locs hw44 => ?_)
          refine lv_iconst (pc := 103) (v := 1) E.1 E.2.1 dX12_friends_103 (by decide +kernel) ?_
          exact em_z (w1 := (fun (u : Int32 × (Nat → Int32) × Int32) => (MW cI cJ M mr (upd (upd mi 0 u.1) 3 u.2.2) (va_up mf 11 u.2.1) mg))) E hr hlk (0, g_42, 0) hw44 ⟨(by show 0 ≤ (0 : Int32).toInt ∧ (0 : Int32).toInt ≤ 6; have k_0 : (0 : Int32).toInt = 0 := (by decide +kernel); have k_1 : (0 : Int32).toInt = 0 := (by decide +kernel); have k_2 : (1 : Int32).toInt = 1 := (by decide +kernel); omega), (by show (0 : Int32).toInt ≤ (mi 3).toInt; have k_0 : (0 : Int32).toInt = 0 := (by decide +kernel); have k_1 : (0 : Int32).toInt = 0 := (by decide +kernel); have k_2 : (1 : Int32).toInt = 1 := (by decide +kernel); omega)⟩ (by decide +kernel) (Nat.le_of_ble_eq_true rfl) (Nat.le_of_ble_eq_true rfl) dX12_friends_104
        · skip
          have hc_30 := neE (a := z_are.toInt) (b := 0) rfl (by decide +kernel) c_30
          refine lv_aload_n (pc := 37) E.1 E.2.1 dX12_friends_37 rfl (lv_at hl3 0 rfl) ?_
          refine x_get (pc := 38) (T := TX12) (N := 70) (ci := 12) (v := .ref (mr 11)) E hw20 inX12 0 11 q_1410 rfl rfl (by decide) rfl rfl dX12_friends_38 ?_
          refine lv_iload_n (pc := 41) E.1 E.2.1 dX12_friends_41 rfl (lv_at hl3 1 rfl) ?_
          refine x_iald (pc := 42) (f := (mf 11)) E hw20 8 rfl (inbE (a := z_a.toInt) rfl (by omega)) dX12_friends_42 ?_
          refine lv_topi (fun v_45 ev_45 => ?_)
          refine lv_iconst (pc := 43) (v := 1) E.1 E.2.1 dX12_friends_43 (by decide +kernel) ?_
          refine lv_iload_n (pc := 44) E.1 E.2.1 dX12_friends_44 rfl (lv_at hl3 2 rfl) ?_
          refine lv_ishl (pc := 45) E.1 E.2.1 dX12_friends_45 ?_
          refine lv_topi (fun v_46 ev_46 => ?_)
          have hb1v_46 : 1 ≤ v_46.toInt ∧ v_46.toInt ≤ 512 := by rw [ev_46]; exact shl9 (by omega)
          refine lv_ior (pc := 46) E.1 E.2.1 dX12_friends_46 ?_
          refine lv_topi (fun v_47 ev_47 => ?_)
          refine lv_goto (pc := 47) (tgt := 62) E.1 E.2.1 dX12_friends_47 (by decide) ?_
          refine x_iastG (pc := 62) (f := (mf 11)) (wf := fun g => (MW cI cJ M mr (upd mi 0 0) (va_up mf 11 g) mg)) E hw20 8 rfl (inbE (a := z_a.toInt) rfl (by omega)) (fun _ => rfl) dX12_friends_62 (fun g_48 H locs eg_48 hw49 => ?_)
          refine lv_aload_n (pc := 63) E.1 E.2.1 dX12_friends_63 rfl (lv_at hl3 0 rfl) ?_
          refine x_get (pc := 64) (T := TX12) (N := 70) (ci := 12) (v := .ref (mr 11)) E hw49 inX12 0 11 q_1410 rfl rfl (by decide) rfl rfl dX12_friends_64 ?_
          refine lv_iload_n (pc := 67) E.1 E.2.1 dX12_friends_67 rfl (lv_at hl3 2 rfl) ?_
          refine lv_iload_n (pc := 68) E.1 E.2.1 dX12_friends_68 rfl (lv_at hl3 3 rfl) ?_
          refine lv_if_eq (pc := 69) (tgt := 85) E.1 E.2.1 dX12_friends_69 (by decide) (fun c_50 => absurd c_50 (mneE (a := z_are.toInt) (b := 0) rfl (by decide +kernel) (by omega))) (fun _ => ?_)
          refine lv_aload_n (pc := 72) E.1 E.2.1 dX12_friends_72 rfl (lv_at hl3 0 rfl) ?_
          refine x_get (pc := 73) (T := TX12) (N := 70) (ci := 12) (v := .ref (mr 11)) E hw49 inX12 0 11 q_1410 rfl rfl (by decide) rfl rfl dX12_friends_73 ?_
          refine lv_iload_n (pc := 76) E.1 E.2.1 dX12_friends_76 rfl (lv_at hl3 2 rfl) ?_
          refine x_iald (pc := 77) (f := g_48) E hw49 8 rfl (inbE (a := z_b.toInt) rfl (by omega)) dX12_friends_77 ?_
          refine lv_topi (fun v_51 ev_51 => ?_)
          refine lv_iconst (pc := 78) (v := 1) E.1 E.2.1 dX12_friends_78 (by decide +kernel) ?_
          refine lv_iload_n (pc := 79) E.1 E.2.1 dX12_friends_79 rfl (lv_at hl3 1 rfl) ?_
          refine lv_ishl (pc := 80) E.1 E.2.1 dX12_friends_80 ?_
          refine lv_topi (fun v_52 ev_52 => ?_)
          have hb1v_52 : 1 ≤ v_52.toInt ∧ v_52.toInt ≤ 512 := by rw [ev_52]; exact shl9 (by omega)
          refine lv_ior (pc := 81) E.1 E.2.1 dX12_friends_81 ?_
          refine lv_topi (fun v_53 ev_53 => ?_)
          refine lv_goto (pc := 82) (tgt := 97) E.1 E.2.1 dX12_friends_82 (by decide) ?_
          refine x_iastG (pc := 97) (f := g_48) (wf := fun g => (MW cI cJ M mr (upd mi 0 0) (va_up mf 11 g) mg)) E hw49 8 rfl (inbE (a := z_b.toInt) rfl (by omega)) (fun _ => rfl) dX12_friends_97 (fun g_54 H locs eg_54 hw55 => ?_)
          refine lv_aload_n (pc := 98) E.1 E.2.1 dX12_friends_98 rfl (lv_at hl3 0 rfl) ?_
          refine lv_iconst (pc := 99) (v := 0) E.1 E.2.1 dX12_friends_99 (by decide +kernel) ?_
          refine x_put (pc := 100) (T := TX12) (N := 70) (ci := 12) (ws' := (MW cI cJ M mr (upd (upd mi 0 0) 3 0) (va_up mf 11 g_54) mg)) E hw55 inX12 tyX12_ok nmX12 0 3 q_1402 rfl rfl (by decide) rfl rfl rfl rfl (Nat.le_of_ble_eq_true rfl) rfl dX12_friends_100 (fun H locs hw56 => ?_)
          refine lv_iconst (pc := 103) (v := 1) E.1 E.2.1 dX12_friends_103 (by decide +kernel) ?_
          exact em_z (w1 := (fun (u : Int32 × (Nat → Int32) × Int32) => (MW cI cJ M mr (upd (upd mi 0 u.1) 3 u.2.2) (va_up mf 11 u.2.1) mg))) E hr hlk (0, g_54, 0) hw56 ⟨(by show 0 ≤ (0 : Int32).toInt ∧ (0 : Int32).toInt ≤ 6; have k_0 : (0 : Int32).toInt = 0 := (by decide +kernel); have k_1 : (0 : Int32).toInt = 0 := (by decide +kernel); have k_2 : (1 : Int32).toInt = 1 := (by decide +kernel); omega), (by show (0 : Int32).toInt ≤ (mi 3).toInt; have k_0 : (0 : Int32).toInt = 0 := (by decide +kernel); have k_1 : (0 : Int32).toInt = 0 := (by decide +kernel); have k_2 : (1 : Int32).toInt = 1 := (by decide +kernel); omega)⟩ (by decide +kernel) (Nat.le_of_ble_eq_true rfl) (Nat.le_of_ble_eq_true rfl) dX12_friends_104
      · skip
        have hc_29 := eqE (a := z_a.toInt) (b := z_b.toInt) rfl rfl c_29
        refine lv_iconst (pc := 26) (v := 0) E.1 E.2.1 dX12_friends_26 (by decide +kernel) ?_
        exact em_z (w1 := (fun (u : Int32 × (Nat → Int32) × Int32) => (MW cI cJ M mr (upd (upd mi 0 u.1) 3 u.2.2) (va_up mf 11 u.2.1) mg))) E hr hlk (0, (mf 11), (mi 3)) hw20 ⟨h1, (by show (mi 3).toInt ≤ (mi 3).toInt; have k_0 : (0 : Int32).toInt = 0 := (by decide +kernel); have k_1 : (0 : Int32).toInt = 0 := (by decide +kernel); omega)⟩ (by decide +kernel) (Nat.le_of_ble_eq_true rfl) (Nat.le_of_ble_eq_true rfl) dX12_friends_27
set_option maxHeartbeats 4000000 in
set_option maxRecDepth 100000 in
theorem s_feedB (l : Launch) (D : va_G) (cI cJ : ClassId) (sz M : Nat) (mr : Nat → Nat) (mi : Nat → Int32) (mf : Nat → Nat → Int32) (mg : Nat → Nat → Int64) (z_a : Int32) (z_b : Int32) (z_c : Int32) (z_d : Int32) (z_e : Int32) (h0 : 0 ≤ (mi 21).toInt ∧ (mi 21).toInt ≤ 400) : Met l yX12_feed (Cond.code yX12_feed cX12_feed 6 (some .int) :: GW) ({ frames := 2, cells := 0, slots := 0, locals := 62 } : Room) (va_Pc [.ref M, .int z_a, .int z_b, .int z_c, .int z_d, .int z_e] (PW D cI cJ sz (MW cI cJ M mr mi mf mg) xT)) (va_Qi (fun (r : Int32) (u : Int32 × (Nat → Int32) × Int32) => (0 ≤ u.2.2.toInt ∧ u.2.2.toInt ≤ 400) ∧ ((r = (-1) ∧ 381 ≤ (mi 21).toInt ∧ u.2.2.toInt = (mi 21).toInt) ∨ ((mi 21).toInt ≤ 380 ∧ u.2.2.toInt = (mi 21).toInt + 20 ∧ r.toInt = (mi 21).toInt + 20))) (fun u => QW D cI cJ (va_A (MW cI cJ M mr mi mf mg) sz) ((fun (u : Int32 × (Nat → Int32) × Int32) => (MW cI cJ M mr (upd (upd mi 0 u.1) 21 u.2.2) (va_up mf 20 u.2.1) mg)) u)) (va_A (MW cI cJ M mr mi mf mg) sz)) 0 0 (va_A (MW cI cJ M mr mi mf mg) sz) := by
  refine mk_met (y := yX12_feed) (bytes := cX12_feed) (maxL := 6) (avs := [.ref M, .int z_a, .int z_b, .int z_c, .int z_d, .int z_e]) (WS := (MW cI cJ M mr mi mf mg)) (Qf := fun A => va_Qi (fun (r : Int32) (u : Int32 × (Nat → Int32) × Int32) => (0 ≤ u.2.2.toInt ∧ u.2.2.toInt ≤ 400) ∧ ((r = (-1) ∧ 381 ≤ (mi 21).toInt ∧ u.2.2.toInt = (mi 21).toInt) ∨ ((mi 21).toInt ≤ 380 ∧ u.2.2.toInt = (mi 21).toInt + 20 ∧ r.toInt = (mi 21).toInt + 20))) (fun u => QW D cI cJ A ((fun (u : Int32 × (Nat → Int32) × Int32) => (MW cI cJ M mr (upd (upd mi 0 u.1) 21 u.2.2) (va_up mf 20 u.2.1) mg)) u)) A) (by decide) (Nat.le_of_ble_eq_true rfl) ?_
  intro p e s m below meth c A ls E hr hlk hnm hX hw1 hl2
  have hl3 : lv_has ls 6 [(0, .ref M), (1, .int z_a), (2, .int z_b), (3, .int z_c), (4, .int z_d), (5, .int z_e)] := hl2
  refine lv_aload_n (pc := 0) E.1 E.2.1 dX12_feed_0 rfl (lv_at hl3 0 rfl) ?_
  refine lv_iconst (pc := 1) (v := 0) E.1 E.2.1 dX12_feed_1 (by decide +kernel) ?_
  refine x_put (pc := 2) (T := TX12) (N := 70) (ci := 12) (ws' := (MW cI cJ M mr (upd mi 0 0) mf mg)) E hw1 inX12 tyX12_ok nmX12 0 0 q_1399 rfl rfl (by decide) rfl rfl rfl rfl (Nat.le_of_ble_eq_true rfl) rfl dX12_feed_2 (fun H locs hw4 => ?_)
  refine lv_aload_n (pc := 5) E.1 E.2.1 dX12_feed_5 rfl (lv_at hl3 0 rfl) ?_
  refine x_get (pc := 6) (T := TX12) (N := 70) (ci := 12) (v := .int (mi 21)) E hw4 inX12 0 21 q_1420 rfl rfl (by decide) rfl rfl dX12_feed_6 ?_
  refine lv_sipush (pc := 9) (v := 380) E.1 E.2.1 dX12_feed_9 (by decide +kernel) ?_
  refine lv_icmp_le (pc := 12) (tgt := 17) E.1 E.2.1 dX12_feed_12 (by decide) (fun c_5 => ?_) (fun c_5 => ?_)
  · skip
    have hc_5 := leE (a := (mi 21).toInt) (b := 380) rfl (by decide +kernel) c_5
    refine lv_aload_n (pc := 17) E.1 E.2.1 dX12_feed_17 rfl (lv_at hl3 0 rfl) ?_
    refine lv_iload_n (pc := 18) E.1 E.2.1 dX12_feed_18 rfl (lv_at hl3 1 rfl) ?_
    refine cm_v (pc := 19) hw4 (rn_M (As := [.int z_a]) (rest := []) E hw4 (s_types l D cI cJ _ M mr (upd mi 0 0) mf mg z_a (by show 0 ≤ (mi 21).toInt ∧ (mi 21).toInt ≤ 396; omega)) (gdV q_1650 q_1652 q_50 q_162 q_1653) hdV_X12_types ⟨rfl, rfl⟩ ⟨(Nat.le_of_ble_eq_true rfl), (Nat.le_of_ble_eq_true rfl)⟩ ⟨(Nat.le_of_ble_eq_true rfl), (Nat.le_of_ble_eq_true rfl)⟩ 12 rfl rfl rfl rfl hl3.1 rfl (Nat.le_of_ble_eq_true rfl) dX12_feed_19) (fun u_6 H1 locs hp hw8 => ?_)
    obtain ⟨gtape_9, ntaped_10⟩ := u_6
    generalize H1 = H at hw8 ⊢
    have hw11 : WD D A s.heap (MW cI cJ M mr (upd (upd mi 0 0) 21 ntaped_10) (va_up mf 20 gtape_9) mg) H locs := hw8
    have hp_12 := hp
    have hp_12 : ntaped_10.toInt = (mi 21).toInt + 4 := hp_12
    refine lv_aload_n (pc := 22) E.1 E.2.1 dX12_feed_22 rfl (lv_at hl3 0 rfl) ?_
    refine lv_iload_n (pc := 23) E.1 E.2.1 dX12_feed_23 rfl (lv_at hl3 2 rfl) ?_
    refine cm_v (pc := 24) hw11 (rn_M (As := [.int z_b]) (rest := []) E hw11 (s_types l D cI cJ _ M mr (upd (upd mi 0 0) 21 ntaped_10) (va_up mf 20 gtape_9) mg z_b (by show 0 ≤ ntaped_10.toInt ∧ ntaped_10.toInt ≤ 396; omega)) (gdV q_1650 q_1652 q_50 q_162 q_1653) hdV_X12_types ⟨rfl, rfl⟩ ⟨(Nat.le_of_ble_eq_true rfl), (Nat.le_of_ble_eq_true rfl)⟩ ⟨(Nat.le_of_ble_eq_true rfl), (Nat.le_of_ble_eq_true rfl)⟩ 12 rfl rfl rfl rfl hl3.1 rfl (Nat.le_of_ble_eq_true rfl) dX12_feed_24) (fun u_13 H1 locs hp hw15 => ?_)
    obtain ⟨gtape_16, ntaped_17⟩ := u_13
    generalize H1 = H at hw15 ⊢
    have hw18 : WD D A s.heap (MW cI cJ M mr (upd (upd mi 0 0) 21 ntaped_17) (va_up mf 20 gtape_16) mg) H locs := hw15
    have hp_19 := hp
    have hp_19 : ntaped_17.toInt = ntaped_10.toInt + 4 := hp_19
    refine lv_aload_n (pc := 27) E.1 E.2.1 dX12_feed_27 rfl (lv_at hl3 0 rfl) ?_
    refine lv_iload_n (pc := 28) E.1 E.2.1 dX12_feed_28 rfl (lv_at hl3 3 rfl) ?_
    refine cm_v (pc := 29) hw18 (rn_M (As := [.int z_c]) (rest := []) E hw18 (s_types l D cI cJ _ M mr (upd (upd mi 0 0) 21 ntaped_17) (va_up mf 20 gtape_16) mg z_c (by show 0 ≤ ntaped_17.toInt ∧ ntaped_17.toInt ≤ 396; omega)) (gdV q_1650 q_1652 q_50 q_162 q_1653) hdV_X12_types ⟨rfl, rfl⟩ ⟨(Nat.le_of_ble_eq_true rfl), (Nat.le_of_ble_eq_true rfl)⟩ ⟨(Nat.le_of_ble_eq_true rfl), (Nat.le_of_ble_eq_true rfl)⟩ 12 rfl rfl rfl rfl hl3.1 rfl (Nat.le_of_ble_eq_true rfl) dX12_feed_29) (fun u_20 H1 locs hp hw22 => ?_)
    obtain ⟨gtape_23, ntaped_24⟩ := u_20
    generalize H1 = H at hw22 ⊢
    have hw25 : WD D A s.heap (MW cI cJ M mr (upd (upd mi 0 0) 21 ntaped_24) (va_up mf 20 gtape_23) mg) H locs := hw22
    have hp_26 := hp
    have hp_26 : ntaped_24.toInt = ntaped_17.toInt + 4 := hp_26
    refine lv_aload_n (pc := 32) E.1 E.2.1 dX12_feed_32 rfl (lv_at hl3 0 rfl) ?_
    refine lv_iload (pc := 33) E.1 E.2.1 dX12_feed_33 (lv_at hl3 4 rfl) ?_
    refine cm_v (pc := 35) hw25 (rn_M (As := [.int z_d]) (rest := []) E hw25 (s_types l D cI cJ _ M mr (upd (upd mi 0 0) 21 ntaped_24) (va_up mf 20 gtape_23) mg z_d (by show 0 ≤ ntaped_24.toInt ∧ ntaped_24.toInt ≤ 396; omega)) (gdV q_1650 q_1652 q_50 q_162 q_1653) hdV_X12_types ⟨rfl, rfl⟩ ⟨(Nat.le_of_ble_eq_true rfl), (Nat.le_of_ble_eq_true rfl)⟩ ⟨(Nat.le_of_ble_eq_true rfl), (Nat.le_of_ble_eq_true rfl)⟩ 12 rfl rfl rfl rfl hl3.1 rfl (Nat.le_of_ble_eq_true rfl) dX12_feed_35) (fun u_27 H1 locs hp hw29 => ?_)
    obtain ⟨gtape_30, ntaped_31⟩ := u_27
    generalize H1 = H at hw29 ⊢
    have hw32 : WD D A s.heap (MW cI cJ M mr (upd (upd mi 0 0) 21 ntaped_31) (va_up mf 20 gtape_30) mg) H locs := hw29
    have hp_33 := hp
    have hp_33 : ntaped_31.toInt = ntaped_24.toInt + 4 := hp_33
    refine lv_aload_n (pc := 38) E.1 E.2.1 dX12_feed_38 rfl (lv_at hl3 0 rfl) ?_
    refine lv_iload (pc := 39) E.1 E.2.1 dX12_feed_39 (lv_at hl3 5 rfl) ?_
    refine cm_v (pc := 41) hw32 (rn_M (As := [.int z_e]) (rest := []) E hw32 (s_types l D cI cJ _ M mr (upd (upd mi 0 0) 21 ntaped_31) (va_up mf 20 gtape_30) mg z_e (by show 0 ≤ ntaped_31.toInt ∧ ntaped_31.toInt ≤ 396; omega)) (gdV q_1650 q_1652 q_50 q_162 q_1653) hdV_X12_types ⟨rfl, rfl⟩ ⟨(Nat.le_of_ble_eq_true rfl), (Nat.le_of_ble_eq_true rfl)⟩ ⟨(Nat.le_of_ble_eq_true rfl), (Nat.le_of_ble_eq_true rfl)⟩ 12 rfl rfl rfl rfl hl3.1 rfl (Nat.le_of_ble_eq_true rfl) dX12_feed_41) (fun u_34 H1 locs hp hw36 => ?_)
    obtain ⟨gtape_37, ntaped_38⟩ := u_34
    generalize H1 = H at hw36 ⊢
    have hw39 : WD D A s.heap (MW cI cJ M mr (upd (upd mi 0 0) 21 ntaped_38) (va_up mf 20 gtape_37) mg) H locs := hw36
    have hp_40 := hp
    have hp_40 : ntaped_38.toInt = ntaped_31.toInt + 4 := hp_40
    refine lv_aload_n (pc := 44) E.1 E.2.1 dX12_feed_44 rfl (lv_at hl3 0 rfl) ?_
    refine x_get (pc := 45) (T := TX12) (N := 70) (ci := 12) (v := .int ntaped_38) E hw39 inX12 0 21 q_1420 rfl rfl (by decide) rfl rfl dX12_feed_45 ?_
    exact em_i (w1 := (fun (u : Int32 × (Nat → Int32) × Int32) => (MW cI cJ M mr (upd (upd mi 0 u.1) 21 u.2.2) (va_up mf 20 u.2.1) mg))) E hr hlk (0, gtape_37, ntaped_38) hw39 ⟨(by show 0 ≤ ntaped_38.toInt ∧ ntaped_38.toInt ≤ 400; have k_0 : (0 : Int32).toInt = 0 := (by decide +kernel); omega), (Or.inr (⟨(by show (mi 21).toInt ≤ 380; omega), (by show ntaped_38.toInt = (mi 21).toInt + 20; omega), (by show ntaped_38.toInt = (mi 21).toInt + 20; omega)⟩))⟩ (Nat.le_of_ble_eq_true rfl) (Nat.le_of_ble_eq_true rfl) dX12_feed_48
  · skip
    have hc_5 := nleE (a := (mi 21).toInt) (b := 380) rfl (by decide +kernel) c_5
    refine lv_iconst (pc := 15) (v := (-1)) E.1 E.2.1 dX12_feed_15 (by decide +kernel) ?_
    exact em_i (w1 := (fun (u : Int32 × (Nat → Int32) × Int32) => (MW cI cJ M mr (upd (upd mi 0 u.1) 21 u.2.2) (va_up mf 20 u.2.1) mg))) E hr hlk (0, (mf 20), (mi 21)) hw4 ⟨h0, (Or.inl ⟨rfl, (by show 381 ≤ (mi 21).toInt; omega), rfl⟩)⟩ (Nat.le_of_ble_eq_true rfl) (Nat.le_of_ble_eq_true rfl) dX12_feed_16
set_option maxHeartbeats 4000000 in
set_option maxRecDepth 100000 in
theorem s_endB (l : Launch) (D : va_G) (cI cJ : ClassId) (sz M : Nat) (mr : Nat → Nat) (mi : Nat → Int32) (mf : Nat → Nat → Int32) (mg : Nat → Nat → Int64) (z_k : Int32) (h0 : 0 ≤ (mi 21).toInt ∧ (mi 21).toInt ≤ 400) : Met l yX12_end (Cond.code yX12_end cX12_end 2 (some .boolean) :: GW) ({ frames := 2, cells := 0, slots := 0, locals := 63 } : Room) (va_Pc [.ref M, .int z_k] (PW D cI cJ sz (MW cI cJ M mr mi mf mg) xT)) (va_Qi (fun (r : Int32) (u : Int32 × Int32) => (0 ≤ u.2.toInt ∧ u.2.toInt ≤ 400) ∧ ((r = 0 ∧ z_k.toInt ≤ (-1) ∧ u.2.toInt = (mi 21).toInt) ∨ (r = 0 ∧ (mi 21).toInt + 1 ≤ z_k.toInt ∧ u.2.toInt = (mi 21).toInt) ∨ (r = 1 ∧ 0 ≤ z_k.toInt ∧ z_k.toInt ≤ (mi 21).toInt ∧ u.2.toInt = z_k.toInt))) (fun u => QW D cI cJ (va_A (MW cI cJ M mr mi mf mg) sz) ((fun (u : Int32 × Int32) => (MW cI cJ M mr (upd (upd mi 0 u.1) 21 u.2) mf mg)) u)) (va_A (MW cI cJ M mr mi mf mg) sz)) 0 0 (va_A (MW cI cJ M mr mi mf mg) sz) := by
  refine mk_met (y := yX12_end) (bytes := cX12_end) (maxL := 2) (avs := [.ref M, .int z_k]) (WS := (MW cI cJ M mr mi mf mg)) (Qf := fun A => va_Qi (fun (r : Int32) (u : Int32 × Int32) => (0 ≤ u.2.toInt ∧ u.2.toInt ≤ 400) ∧ ((r = 0 ∧ z_k.toInt ≤ (-1) ∧ u.2.toInt = (mi 21).toInt) ∨ (r = 0 ∧ (mi 21).toInt + 1 ≤ z_k.toInt ∧ u.2.toInt = (mi 21).toInt) ∨ (r = 1 ∧ 0 ≤ z_k.toInt ∧ z_k.toInt ≤ (mi 21).toInt ∧ u.2.toInt = z_k.toInt))) (fun u => QW D cI cJ A ((fun (u : Int32 × Int32) => (MW cI cJ M mr (upd (upd mi 0 u.1) 21 u.2) mf mg)) u)) A) (by decide) (Nat.le_of_ble_eq_true rfl) ?_
  intro p e s m below meth c A ls E hr hlk hnm hX hw1 hl2
  have hl3 : lv_has ls 2 [(0, .ref M), (1, .int z_k)] := hl2
  refine lv_aload_n (pc := 0) E.1 E.2.1 dX12_end_0 rfl (lv_at hl3 0 rfl) ?_
  refine lv_iconst (pc := 1) (v := 0) E.1 E.2.1 dX12_end_1 (by decide +kernel) ?_
  refine x_put (pc := 2) (T := TX12) (N := 70) (ci := 12) (ws' := (MW cI cJ M mr (upd mi 0 0) mf mg)) E hw1 inX12 tyX12_ok nmX12 0 0 q_1399 rfl rfl (by decide) rfl rfl rfl rfl (Nat.le_of_ble_eq_true rfl) rfl dX12_end_2 (fun H locs hw4 => ?_)
  refine lv_aload_n (pc := 5) E.1 E.2.1 dX12_end_5 rfl (lv_at hl3 0 rfl) ?_
  refine lv_iload_n (pc := 6) E.1 E.2.1 dX12_end_6 rfl (lv_at hl3 1 rfl) ?_
  refine lv_iconst (pc := 7) (v := 0) E.1 E.2.1 dX12_end_7 (by decide +kernel) ?_
  refine lv_aload_n (pc := 8) E.1 E.2.1 dX12_end_8 rfl (lv_at hl3 0 rfl) ?_
  refine x_get (pc := 9) (T := TX12) (N := 70) (ci := 12) (v := .int (mi 21)) E hw4 inX12 0 21 q_1420 rfl rfl (by decide) rfl rfl dX12_end_9 ?_
  refine cm_i (pc := 12) hw4 (rn_M (As := [.int z_k, .int 0, .int (mi 21)]) (rest := []) E hw4 (s_isIn l D cI cJ _ M mr (upd mi 0 0) mf mg z_k 0 (mi 21)) (gdV q_1622 q_1624 q_46 q_162 q_1625) hdV_X12_isIn ⟨rfl, rfl⟩ ⟨(Nat.le_of_ble_eq_true rfl), (Nat.le_of_ble_eq_true rfl)⟩ ⟨(Nat.le_of_ble_eq_true rfl), (Nat.le_of_ble_eq_true rfl)⟩ 12 rfl rfl rfl rfl hl3.1 rfl (Nat.le_of_ble_eq_true rfl) dX12_end_12) (fun r_6 u_5 H1 locs hp hw7 => ?_)
  generalize H1 = H at hw7 ⊢
  have hw8 : WD D A s.heap (MW cI cJ M mr (upd mi 0 0) mf mg) H locs := hw7
  have hp_9 := hp
  rcases hp_9 with ⟨rfl, ha_10⟩ | ⟨rfl, ha_11⟩ | ⟨rfl, ha_12, ha_13⟩
  · skip
    have ha_10 : z_k.toInt < (0 : Int32).toInt := ha_10
    rw [show (0 : Int32).toInt = 0 from by decide +kernel] at ha_10
    refine lv_if_ne (pc := 15) (tgt := 20) E.1 E.2.1 dX12_end_15 (by decide) (fun c_14 => absurd (meqE (a := 0) (b := 0) (by decide +kernel) (by decide +kernel) (by omega)) c_14) (fun _ => ?_)
    refine lv_iconst (pc := 18) (v := 0) E.1 E.2.1 dX12_end_18 (by decide +kernel) ?_
    exact em_z (w1 := (fun (u : Int32 × Int32) => (MW cI cJ M mr (upd (upd mi 0 u.1) 21 u.2) mf mg))) E hr hlk (0, (mi 21)) hw8 ⟨h0, (Or.inl ⟨rfl, (by show z_k.toInt ≤ (-1); omega), rfl⟩)⟩ (by decide +kernel) (Nat.le_of_ble_eq_true rfl) (Nat.le_of_ble_eq_true rfl) dX12_end_19
  · skip
    have ha_11 : (mi 21).toInt < z_k.toInt := ha_11
    refine lv_if_ne (pc := 15) (tgt := 20) E.1 E.2.1 dX12_end_15 (by decide) (fun c_15 => absurd (meqE (a := 0) (b := 0) (by decide +kernel) (by decide +kernel) (by omega)) c_15) (fun _ => ?_)
    refine lv_iconst (pc := 18) (v := 0) E.1 E.2.1 dX12_end_18 (by decide +kernel) ?_
    exact em_z (w1 := (fun (u : Int32 × Int32) => (MW cI cJ M mr (upd (upd mi 0 u.1) 21 u.2) mf mg))) E hr hlk (0, (mi 21)) hw8 ⟨h0, (Or.inr (Or.inl ⟨rfl, (by show (mi 21).toInt + 1 ≤ z_k.toInt; omega), rfl⟩))⟩ (by decide +kernel) (Nat.le_of_ble_eq_true rfl) (Nat.le_of_ble_eq_true rfl) dX12_end_19
  · skip
    have ha_12 : (0 : Int32).toInt ≤ z_k.toInt := ha_12
    rw [show (0 : Int32).toInt = 0 from by decide +kernel] at ha_12
    have ha_13 : z_k.toInt ≤ (mi 21).toInt := ha_13
    refine lv_if_ne (pc := 15) (tgt := 20) E.1 E.2.1 dX12_end_15 (by decide) (fun _ => ?_) (fun c_16 => absurd c_16 (mneE (a := 1) (b := 0) (by decide +kernel) (by decide +kernel) (by omega)))
    refine lv_aload_n (pc := 20) E.1 E.2.1 dX12_end_20 rfl (lv_at hl3 0 rfl) ?_
    refine lv_iload_n (pc := 21) E.1 E.2.1 dX12_end_21 rfl (lv_at hl3 1 rfl) ?_
    refine x_put (pc := 22) (T := TX12) (N := 70) (ci := 12) (ws' := (MW cI cJ M mr (upd (upd mi 0 0) 21 z_k) mf mg)) E hw8 inX12 tyX12_ok nmX12 0 21 q_1420 rfl rfl (by decide) rfl rfl rfl rfl (Nat.le_of_ble_eq_true rfl) rfl dX12_end_22 (fun H locs hw17 => ?_)
    refine lv_iconst (pc := 25) (v := 1) E.1 E.2.1 dX12_end_25 (by decide +kernel) ?_
    exact em_z (w1 := (fun (u : Int32 × Int32) => (MW cI cJ M mr (upd (upd mi 0 u.1) 21 u.2) mf mg))) E hr hlk (0, z_k) hw17 ⟨(by show 0 ≤ z_k.toInt ∧ z_k.toInt ≤ 400; have k_0 : (0 : Int32).toInt = 0 := (by decide +kernel); have k_1 : (1 : Int32).toInt = 1 := (by decide +kernel); omega), (Or.inr (Or.inr (⟨rfl, (by show 0 ≤ z_k.toInt; omega), (by show z_k.toInt ≤ (mi 21).toInt; omega), rfl⟩)))⟩ (by decide +kernel) (Nat.le_of_ble_eq_true rfl) (Nat.le_of_ble_eq_true rfl) dX12_end_26
set_option maxHeartbeats 4000000 in
set_option maxRecDepth 100000 in
theorem s_undoB (l : Launch) (D : va_G) (cI cJ : ClassId) (sz M : Nat) (mr : Nat → Nat) (mi : Nat → Int32) (mf : Nat → Nat → Int32) (mg : Nat → Nat → Int64)  (h0 : 0 ≤ (mi 6).toInt ∧ (mi 6).toInt ≤ 10) (h1 : 0 ≤ (mi 3).toInt ∧ (mi 3).toInt ≤ 6) (h2 : 0 ≤ ((mf 1) 2).toInt ∧ ((mf 1) 2).toInt ≤ 150) (h3 : 0 ≤ ((mf 1) 3).toInt ∧ ((mf 1) 3).toInt ≤ 9) (h4 : 0 ≤ ((mf 1) 5).toInt ∧ ((mf 1) 5).toInt ≤ 200) (lf_rows : rowsOK (mi 3).toInt (mi 6).toInt (mf 2)) (lf_lamp : (((mi 6).toInt = 0 ∧ ((mf 1) 3).toInt = 0) ∨ ((mf 1) 3).toInt < (mi 6).toInt)) : Met l yX12_undo (Cond.code yX12_undo cX12_undo 2 (some .boolean) :: GW) ({ frames := 1, cells := 0, slots := 0, locals := 40 } : Room) (va_Pc [.ref M] (PW D cI cJ sz (MW cI cJ M mr mi mf mg) xT)) (va_Qi (fun (r : Int32) (u : Int32 × Int32 × (Nat → Int32)) => (0 ≤ u.2.1.toInt ∧ u.2.1.toInt ≤ 6) ∧ (0 ≤ (u.2.2 2).toInt ∧ (u.2.2 2).toInt ≤ 150) ∧ (0 ≤ (u.2.2 3).toInt ∧ (u.2.2 3).toInt ≤ 9) ∧ (0 ≤ (u.2.2 5).toInt ∧ (u.2.2 5).toInt ≤ 200) ∧ (rowsOK u.2.1.toInt (mi 6).toInt (mf 2)) ∧ ((((mi 6).toInt = 0 ∧ (u.2.2 3).toInt = 0) ∨ (u.2.2 3).toInt < (mi 6).toInt))) (fun u => QW D cI cJ (va_A (MW cI cJ M mr mi mf mg) sz) ((fun (u : Int32 × Int32 × (Nat → Int32)) => (MW cI cJ M mr (upd (upd mi 0 u.1) 3 u.2.1) (va_up mf 1 u.2.2) mg)) u)) (va_A (MW cI cJ M mr mi mf mg) sz)) 0 0 (va_A (MW cI cJ M mr mi mf mg) sz) := by
  refine mk_met (y := yX12_undo) (bytes := cX12_undo) (maxL := 2) (avs := [.ref M]) (WS := (MW cI cJ M mr mi mf mg)) (Qf := fun A => va_Qi (fun (r : Int32) (u : Int32 × Int32 × (Nat → Int32)) => (0 ≤ u.2.1.toInt ∧ u.2.1.toInt ≤ 6) ∧ (0 ≤ (u.2.2 2).toInt ∧ (u.2.2 2).toInt ≤ 150) ∧ (0 ≤ (u.2.2 3).toInt ∧ (u.2.2 3).toInt ≤ 9) ∧ (0 ≤ (u.2.2 5).toInt ∧ (u.2.2 5).toInt ≤ 200) ∧ (rowsOK u.2.1.toInt (mi 6).toInt (mf 2)) ∧ ((((mi 6).toInt = 0 ∧ (u.2.2 3).toInt = 0) ∨ (u.2.2 3).toInt < (mi 6).toInt))) (fun u => QW D cI cJ A ((fun (u : Int32 × Int32 × (Nat → Int32)) => (MW cI cJ M mr (upd (upd mi 0 u.1) 3 u.2.1) (va_up mf 1 u.2.2) mg)) u)) A) (by decide) (Nat.le_of_ble_eq_true rfl) ?_
  intro p e s m below meth c A ls E hr hlk hnm hX hw1 hl2
  have hl3 : lv_has ls 2 [(0, .ref M)] := hl2
  refine lv_aload_n (pc := 0) E.1 E.2.1 dX12_undo_0 rfl (lv_at hl3 0 rfl) ?_
  refine lv_iconst (pc := 1) (v := 0) E.1 E.2.1 dX12_undo_1 (by decide +kernel) ?_
  refine x_put (pc := 2) (T := TX12) (N := 70) (ci := 12) (ws' := (MW cI cJ M mr (upd mi 0 0) mf mg)) E hw1 inX12 tyX12_ok nmX12 0 0 q_1399 rfl rfl (by decide) rfl rfl rfl rfl (Nat.le_of_ble_eq_true rfl) rfl dX12_undo_2 (fun H locs hw4 => ?_)
  refine lv_aload_n (pc := 5) E.1 E.2.1 dX12_undo_5 rfl (lv_at hl3 0 rfl) ?_
  refine x_get (pc := 6) (T := TX12) (N := 70) (ci := 12) (v := .int (mi 3)) E hw4 inX12 0 3 q_1402 rfl rfl (by decide) rfl rfl dX12_undo_6 ?_
  refine lv_if_ne (pc := 9) (tgt := 14) E.1 E.2.1 dX12_undo_9 (by decide) (fun c_5 => ?_) (fun c_5 => ?_)
  · skip
    have hc_5 := neE (a := (mi 3).toInt) (b := 0) rfl (by decide +kernel) c_5
    refine lv_aload_n (pc := 14) E.1 E.2.1 dX12_undo_14 rfl (lv_at hl3 0 rfl) ?_
    refine lv_aload_n (pc := 15) E.1 E.2.1 dX12_undo_15 rfl (lv_at hl3 0 rfl) ?_
    refine x_get (pc := 16) (T := TX12) (N := 70) (ci := 12) (v := .int (mi 3)) E hw4 inX12 0 3 q_1402 rfl rfl (by decide) rfl rfl dX12_undo_16 ?_
    refine lv_iconst (pc := 19) (v := 1) E.1 E.2.1 dX12_undo_19 (by decide +kernel) ?_
    refine lv_isub (pc := 20) E.1 E.2.1 dX12_undo_20 ?_
    refine lv_topi (fun v_6 ev_6 => ?_)
    have hv_6 : v_6.toInt = (mi 3).toInt - 1 := by rw [ev_6]; exact subE rfl (by decide +kernel) (by omega)
    refine x_put (pc := 21) (T := TX12) (N := 70) (ci := 12) (ws' := (MW cI cJ M mr (upd (upd mi 0 0) 3 v_6) mf mg)) E hw4 inX12 tyX12_ok nmX12 0 3 q_1402 rfl rfl (by decide) rfl rfl rfl rfl (Nat.le_of_ble_eq_true rfl) rfl dX12_undo_21 (fun H locs hw7 => ?_)
    refine lv_iconst (pc := 24) (v := 0) E.1 E.2.1 dX12_undo_24 (by decide +kernel) ?_
    refine lv_istore_n (pc := 25) (lv' := [(1, .int 0), (0, .ref M)]) E.1 E.2.1 dX12_undo_25 rfl hl3 (by decide) rfl (fun ls hl8 => ?_)
    have loop_9 : ∀ (k : Nat) (x_10 : Int32) (g_11 : Nat → Int32) (H : Heap) (locs : List Loc) (ls : Array Slot), (0 ≤ x_10.toInt ∧ x_10.toInt ≤ 66) ∧ (CP g_11 (mf 2) 0 (66 * v_6.toNatClampNeg) x_10.toInt) → 66 - x_10.toInt < (k : Int) → WD D A s.heap (MW cI cJ M mr (upd (upd mi 0 0) 3 v_6) (va_up mf 1 g_11) mg) H locs → lv_has ls 2 [(1, .int x_10), (0, .ref M)] → W p l e ({ frames := 1, cells := 0, slots := 0, locals := 40 } : Room) s m ([.ref M] : List Value).toArray below meth c H locs 0 0 (MQ below (va_Qi (fun (r : Int32) (u : Int32 × Int32 × (Nat → Int32)) => (0 ≤ u.2.1.toInt ∧ u.2.1.toInt ≤ 6) ∧ (0 ≤ (u.2.2 2).toInt ∧ (u.2.2 2).toInt ≤ 150) ∧ (0 ≤ (u.2.2 3).toInt ∧ (u.2.2 3).toInt ≤ 9) ∧ (0 ≤ (u.2.2 5).toInt ∧ (u.2.2 5).toInt ≤ 200) ∧ (rowsOK u.2.1.toInt (mi 6).toInt (mf 2)) ∧ ((((mi 6).toInt = 0 ∧ (u.2.2 3).toInt = 0) ∨ (u.2.2 3).toInt < (mi 6).toInt))) (fun u => QW D cI cJ A ((fun (u : Int32 × Int32 × (Nat → Int32)) => (MW cI cJ M mr (upd (upd mi 0 u.1) 3 u.2.1) (va_up mf 1 u.2.2) mg)) u)) A) ([.ref M] : List Value).toArray s 0 0 A) (F0 m 26 ls []) := by
      intro k
      induction k with
      | zero =>
        intro x_10 g_11 _ _ _ hinv hm
        obtain ⟨hi_11_0, hi_11_1⟩ := hinv
        exact absurd hm (by omega)
      | succ k ih_12 =>
        intro x_10 g_11 H locs ls hinv hm hw13 hl14
        obtain ⟨hi_11_0, hi_11_1⟩ := hinv
        refine lv_iload_n (pc := 26) E.1 E.2.1 dX12_undo_26 rfl (lv_at hl14 0 rfl) ?_
        refine lv_bipush (pc := 27) (v := 66) E.1 E.2.1 dX12_undo_27 (by decide +kernel) ?_
        refine lv_icmp_ge (pc := 29) (tgt := 58) E.1 E.2.1 dX12_undo_29 (by decide) (fun c_15 => ?_) (fun c_15 => ?_)
        · skip
          have hc_15 := leE (a := 66) (b := x_10.toInt) (by decide +kernel) rfl c_15
          have q9 := idxI (x := v_6) (by omega)
          have hro := lf_rows v_6.toNatClampNeg (by omega)
          have ht_16 : (g_11 2).toInt = ((mf 2) (66 * v_6.toNatClampNeg + 2)).toInt := congrArg Int32.toInt ((Nat.zero_add 2) ▸ hi_11_1 2 (by omega))
          have ht_17 : (g_11 3).toInt = ((mf 2) (66 * v_6.toNatClampNeg + 3)).toInt := congrArg Int32.toInt ((Nat.zero_add 3) ▸ hi_11_1 3 (by omega))
          have ht_18 : (g_11 5).toInt = ((mf 2) (66 * v_6.toNatClampNeg + 5)).toInt := congrArg Int32.toInt ((Nat.zero_add 5) ▸ hi_11_1 5 (by omega))
          obtain ⟨⟨hro1, hro2⟩, ⟨hro3, hro4⟩, hro5, hro6⟩ := hro
          refine lv_iconst (pc := 58) (v := 1) E.1 E.2.1 dX12_undo_58 (by decide +kernel) ?_
          exact em_z (w1 := (fun (u : Int32 × Int32 × (Nat → Int32)) => (MW cI cJ M mr (upd (upd mi 0 u.1) 3 u.2.1) (va_up mf 1 u.2.2) mg))) E hr hlk (0, v_6, g_11) hw13 ⟨(by show 0 ≤ v_6.toInt ∧ v_6.toInt ≤ 6; have k_0 : (0 : Int32).toInt = 0 := (by decide +kernel); have k_1 : (1 : Int32).toInt = 1 := (by decide +kernel); omega), (by show 0 ≤ (g_11 2).toInt ∧ (g_11 2).toInt ≤ 150; have k_0 : (0 : Int32).toInt = 0 := (by decide +kernel); have k_1 : (1 : Int32).toInt = 1 := (by decide +kernel); omega), (by show 0 ≤ (g_11 3).toInt ∧ (g_11 3).toInt ≤ 9; have k_0 : (0 : Int32).toInt = 0 := (by decide +kernel); have k_1 : (1 : Int32).toInt = 1 := (by decide +kernel); omega), (by show 0 ≤ (g_11 5).toInt ∧ (g_11 5).toInt ≤ 200; have k_0 : (0 : Int32).toInt = 0 := (by decide +kernel); have k_1 : (1 : Int32).toInt = 1 := (by decide +kernel); omega), (show rowsOK v_6.toInt (mi 6).toInt (mf 2) from (rowsOK_less lf_rows (by omega))), (show (((mi 6).toInt = 0 ∧ (g_11 3).toInt = 0) ∨ (g_11 3).toInt < (mi 6).toInt) from (Or.inr (by omega)))⟩ (by decide +kernel) (Nat.le_of_ble_eq_true rfl) (Nat.le_of_ble_eq_true rfl) dX12_undo_59
        · skip
          have hc_15 := nleE (a := 66) (b := x_10.toInt) (by decide +kernel) rfl c_15
          refine lv_aload_n (pc := 32) E.1 E.2.1 dX12_undo_32 rfl (lv_at hl14 1 rfl) ?_
          refine x_get (pc := 33) (T := TX12) (N := 70) (ci := 12) (v := .ref (mr 1)) E hw13 inX12 0 1 q_1400 rfl rfl (by decide) rfl rfl dX12_undo_33 ?_
          refine lv_iload_n (pc := 36) E.1 E.2.1 dX12_undo_36 rfl (lv_at hl14 0 rfl) ?_
          refine lv_aload_n (pc := 37) E.1 E.2.1 dX12_undo_37 rfl (lv_at hl14 1 rfl) ?_
          refine x_get (pc := 38) (T := TX12) (N := 70) (ci := 12) (v := .ref (mr 2)) E hw13 inX12 0 2 q_1401 rfl rfl (by decide) rfl rfl dX12_undo_38 ?_
          refine lv_bipush (pc := 41) (v := 66) E.1 E.2.1 dX12_undo_41 (by decide +kernel) ?_
          refine lv_aload_n (pc := 43) E.1 E.2.1 dX12_undo_43 rfl (lv_at hl14 1 rfl) ?_
          refine x_get (pc := 44) (T := TX12) (N := 70) (ci := 12) (v := .int v_6) E hw13 inX12 0 3 q_1402 rfl rfl (by decide) rfl rfl dX12_undo_44 ?_
          refine lv_imul (pc := 47) E.1 E.2.1 dX12_undo_47 ?_
          refine lv_topi (fun v_19 ev_19 => ?_)
          have hv_19 : v_19.toInt = 66 * v_6.toInt := by rw [ev_19]; exact mulE (by decide +kernel) rfl (by omega)
          refine lv_iload_n (pc := 48) E.1 E.2.1 dX12_undo_48 rfl (lv_at hl14 0 rfl) ?_
          refine lv_iadd (pc := 49) E.1 E.2.1 dX12_undo_49 ?_
          refine lv_topi (fun v_20 ev_20 => ?_)
          have hv_20 : v_20.toInt = v_19.toInt + x_10.toInt := by rw [ev_20]; exact addE rfl rfl (by omega)
          refine x_iald (pc := 50) (f := (mf 2)) E hw13 2 rfl (inbE (a := v_20.toInt) rfl (by omega)) dX12_undo_50 ?_
          refine lv_topi (fun v_21 ev_21 => ?_)
          refine x_iastG (pc := 51) (f := g_11) (wf := fun g => (MW cI cJ M mr (upd (upd mi 0 0) 3 v_6) (va_up mf 1 g) mg)) E hw13 1 rfl (inbE (a := x_10.toInt) rfl (by omega)) (fun _ => rfl) dX12_undo_51 (fun g_22 H locs eg_22 hw23 => ?_)
          obtain ⟨v_27, ev_27⟩ : ∃ z : Int32, x_10 + Int32.ofInt (1) = z := ⟨_, rfl⟩
          have hv_27 : v_27.toInt = x_10.toInt + (1) := by rw [← ev_27]; exact incE rfl (by decide) (by omega)
          refine lv_iinc (pc := 52) (v := v_27) (lv' := [(1, .int v_27), (0, .ref M)]) E.1 E.2.1 dX12_undo_52 hl14 (k := 0) rfl ev_27 (by decide) rfl (fun ls hl28 => ?_)
          refine lv_goto (pc := 55) (tgt := 26) E.1 E.2.1 dX12_undo_55 (by decide) ?_
          exact ih_12 v_27 g_22 _ _ _ ⟨(by show 0 ≤ v_27.toInt ∧ v_27.toInt ≤ 66; omega), (CP_step (i := x_10) (j := v_27) hi_11_1 eg_22 ev_21 (by omega) (by have q9 := idxI (x := v_6) (by omega); omega) (by omega) (by omega))⟩ (by omega) hw23 (lv_sub hl28 [0, 1] rfl)
    exact loop_9 (Int.toNat (66 - 0) + 1) 0 (mf 1) _ _ _ ⟨(by show 0 ≤ (0 : Int32).toInt ∧ (0 : Int32).toInt ≤ 66; have k_0 : (0 : Int32).toInt = 0 := (by decide +kernel); omega), (CP_nil (by decide +kernel))⟩ (by have k_0 : (0 : Int32).toInt = 0 := (by decide +kernel); omega) hw7 (lv_sub hl8 [0, 1] rfl)
  · skip
    have hc_5 := eqE (a := (mi 3).toInt) (b := 0) rfl (by decide +kernel) c_5
    refine lv_iconst (pc := 12) (v := 0) E.1 E.2.1 dX12_undo_12 (by decide +kernel) ?_
    exact em_z (w1 := (fun (u : Int32 × Int32 × (Nat → Int32)) => (MW cI cJ M mr (upd (upd mi 0 u.1) 3 u.2.1) (va_up mf 1 u.2.2) mg))) E hr hlk (0, (mi 3), (mf 1)) hw4 ⟨h1, h2, h3, h4, (show rowsOK (mi 3).toInt (mi 6).toInt (mf 2) from lf_rows), (show (((mi 6).toInt = 0 ∧ ((mf 1) 3).toInt = 0) ∨ ((mf 1) 3).toInt < (mi 6).toInt) from lf_lamp)⟩ (by decide +kernel) (Nat.le_of_ble_eq_true rfl) (Nat.le_of_ble_eq_true rfl) dX12_undo_13
