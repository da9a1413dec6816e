set_option maxHeartbeats 4000000 in
set_option maxRecDepth 100000 in
theorem s_stateB (l : Launch) (D : va_G) (cI cJ : ClassId) (sz M : Nat) (mr : Nat → Nat) (mi : Nat → Int32) (mf : Nat → Nat → Int32) (mg : Nat → Nat → Int64) (z_v : Int32)  : Met l yX12_state (Cond.code yX12_state cX12_state 3 (some .int) :: GW) ({ frames := 1, cells := 0, slots := 0, locals := 40 } : Room) (va_Pc [.ref M, .int z_v] (PW D cI cJ sz (MW cI cJ M mr mi mf mg) xT)) (va_Qi (fun (r : Int32) (u : Int32 × (Nat → Int32) × Int32) => (u.2.2.toInt = 0) ∧ ((u.2.1 2).toInt = ((mf 1) 2).toInt) ∧ ((u.2.1 3).toInt = ((mf 1) 3).toInt) ∧ ((u.2.1 5).toInt = ((mf 1) 5).toInt)) (fun u => QW D cI cJ (va_A (MW cI cJ M mr mi mf mg) sz) ((fun (u : Int32 × (Nat → Int32) × Int32) => (MW cI cJ M mr (upd (upd mi 0 u.1) 3 u.2.2) (va_up mf 1 u.2.1) mg)) u)) (va_A (MW cI cJ M mr mi mf mg) sz)) 0 0 (va_A (MW cI cJ M mr mi mf mg) sz) := by
  refine mk_met (y := yX12_state) (bytes := cX12_state) (maxL := 3) (avs := [.ref M, .int z_v]) (WS := (MW cI cJ M mr mi mf mg)) (Qf := fun A => va_Qi (fun (r : Int32) (u : Int32 × (Nat → Int32) × Int32) => (u.2.2.toInt = 0) ∧ ((u.2.1 2).toInt = ((mf 1) 2).toInt) ∧ ((u.2.1 3).toInt = ((mf 1) 3).toInt) ∧ ((u.2.1 5).toInt = ((mf 1) 5).toInt)) (fun u => QW D cI cJ A ((fun (u : Int32 × (Nat → Int32) × Int32) => (MW cI cJ M mr (upd (upd mi 0 u.1) 3 u.2.2) (va_up mf 1 u.2.1) mg)) u)) A) (by decide) (Nat.le_of_ble_eq_true rfl) ?_
  intro p e s m below meth c A ls E hr hlk hnm hX hw1 hl2
  have hl3 : lv_has ls 3 [(0, .ref M), (1, .int z_v)] := hl2
  refine lv_aload_n (pc := 0) E.1 E.2.1 dX12_state_0 rfl (lv_at hl3 0 rfl) ?_
  refine lv_iconst (pc := 1) (v := 0) E.1 E.2.1 dX12_state_1 (by decide +kernel) ?_
  refine x_put (pc := 2) (T := TX12) (N := 70) (ci := 12) (ws' := (MW cI cJ M mr (upd mi 0 0) mf mg)) E hw1 inX12 tyX12_ok nmX12 0 0 q_1399 rfl rfl (by decide) rfl rfl rfl rfl (Nat.le_of_ble_eq_true rfl) rfl dX12_state_2 (fun H locs hw4 => ?_)
  refine lv_aload_n (pc := 5) E.1 E.2.1 dX12_state_5 rfl (lv_at hl3 0 rfl) ?_
  refine x_get (pc := 6) (T := TX12) (N := 70) (ci := 12) (v := .ref (mr 1)) E hw4 inX12 0 1 q_1400 rfl rfl (by decide) rfl rfl dX12_state_6 ?_
  refine lv_iconst (pc := 9) (v := 1) E.1 E.2.1 dX12_state_9 (by decide +kernel) ?_
  refine x_iald (pc := 10) (f := (mf 1)) E hw4 1 rfl (inbE (a := 1) (n := 66) (by decide +kernel) (by omega)) dX12_state_10 ?_
  refine lv_topi (fun v_5 ev_5 => ?_)
  refine lv_istore_n (pc := 11) (lv' := [(2, .int v_5), (0, .ref M), (1, .int z_v)]) E.1 E.2.1 dX12_state_11 rfl hl3 (by decide) rfl (fun ls hl6 => ?_)
  refine lv_aload_n (pc := 12) E.1 E.2.1 dX12_state_12 rfl (lv_at hl6 1 rfl) ?_
  refine x_get (pc := 13) (T := TX12) (N := 70) (ci := 12) (v := .ref (mr 1)) E hw4 inX12 0 1 q_1400 rfl rfl (by decide) rfl rfl dX12_state_13 ?_
  refine lv_iconst (pc := 16) (v := 1) E.1 E.2.1 dX12_state_16 (by decide +kernel) ?_
  refine lv_iload_n (pc := 17) E.1 E.2.1 dX12_state_17 rfl (lv_at hl6 2 rfl) ?_
  refine x_iastG (pc := 18) (f := (mf 1)) (wf := fun g => (MW cI cJ M mr (upd mi 0 0) (va_up mf 1 g) mg)) E hw4 1 rfl (inbE (a := 1) (n := 66) (by decide +kernel) (by omega)) (fun _ => rfl) dX12_state_18 (fun g_7 H locs eg_7 hw8 => ?_)
  have ht_9 : (g_7 2).toInt = ((mf 1) 2).toInt := by rw [eg_7]; rfl
  have ht_10 : (g_7 3).toInt = ((mf 1) 3).toInt := by rw [eg_7]; rfl
  have ht_11 : (g_7 5).toInt = ((mf 1) 5).toInt := by rw [eg_7]; rfl
  refine lv_aload_n (pc := 19) E.1 E.2.1 dX12_state_19 rfl (lv_at hl6 1 rfl) ?_
  refine lv_iconst (pc := 20) (v := 0) E.1 E.2.1 dX12_state_20 (by decide +kernel) ?_
  refine x_put (pc := 21) (T := TX12) (N := 70) (ci := 12) (ws' := (MW cI cJ M mr (upd (upd mi 0 0) 3 0) (va_up mf 1 g_7) mg)) E hw8 inX12 tyX12_ok nmX12 0 3 q_1402 rfl rfl (by decide) rfl rfl rfl rfl (Nat.le_of_ble_eq_true rfl) rfl dX12_state_21 (fun H locs hw12 => ?_)
  refine lv_iload_n (pc := 24) E.1 E.2.1 dX12_state_24 rfl (lv_at hl6 0 rfl) ?_
  exact em_i (w1 := (fun (u : Int32 × (Nat → Int32) × Int32) => (MW cI cJ M mr (upd (upd mi 0 u.1) 3 u.2.2) (va_up mf 1 u.2.1) mg))) E hr hlk (0, g_7, 0) hw12 ⟨(by show (0 : Int32).toInt = 0; have k_0 : (0 : Int32).toInt = 0 := (by decide +kernel); have k_1 : (0 : Int32).toInt = 0 := (by decide +kernel); omega), (by show (g_7 2).toInt = ((mf 1) 2).toInt; have k_0 : (0 : Int32).toInt = 0 := (by decide +kernel); have k_1 : (0 : Int32).toInt = 0 := (by decide +kernel); omega), (by show (g_7 3).toInt = ((mf 1) 3).toInt; have k_0 : (0 : Int32).toInt = 0 := (by decide +kernel); have k_1 : (0 : Int32).toInt = 0 := (by decide +kernel); omega), (by show (g_7 5).toInt = ((mf 1) 5).toInt; have k_0 : (0 : Int32).toInt = 0 := (by decide +kernel); have k_1 : (0 : Int32).toInt = 0 := (by decide +kernel); omega)⟩ (Nat.le_of_ble_eq_true rfl) (Nat.le_of_ble_eq_true rfl) dX12_state_25
set_option maxHeartbeats 4000000 in
set_option maxRecDepth 100000 in
theorem s_feedB (l : Launch) (D : va_G) (cI cJ : ClassId) (sz M : Nat) (mr : Nat → Nat) (mi : Nat → Int32) (mf : Nat → Nat → Int32) (mg : Nat → Nat → Int64) (z_a : Int32) (z_b : Int32) (z_c : Int32) (z_d : Int32) (z_e : Int32) (h0 : 0 ≤ (mi 21).toInt ∧ (mi 21).toInt ≤ 400) : Met l yX12_feed (Cond.code yX12_feed cX12_feed 6 (some .int) :: GW) ({ frames := 2, cells := 0, slots := 0, locals := 62 } : Room) (va_Pc [.ref M, .int z_a, .int z_b, .int z_c, .int z_d, .int z_e] (PW D cI cJ sz (MW cI cJ M mr mi mf mg) xT)) (va_Qi (fun (r : Int32) (u : Int32 × (Nat → Int32) × Int32) => (0 ≤ u.2.2.toInt ∧ u.2.2.toInt ≤ 400) ∧ ((r = (-1) ∧ 381 ≤ (mi 21).toInt ∧ u.2.2.toInt = (mi 21).toInt) ∨ ((mi 21).toInt ≤ 380 ∧ u.2.2.toInt = (mi 21).toInt + 20 ∧ r.toInt = (mi 21).toInt + 20))) (fun u => QW D cI cJ (va_A (MW cI cJ M mr mi mf mg) sz) ((fun (u : Int32 × (Nat → Int32) × Int32) => (MW cI cJ M mr (upd (upd mi 0 u.1) 21 u.2.2) (va_up mf 20 u.2.1) mg)) u)) (va_A (MW cI cJ M mr mi mf mg) sz)) 0 0 (va_A (MW cI cJ M mr mi mf mg) sz) := by
  refine mk_met (y := yX12_feed) (bytes := cX12_feed) (maxL := 6) (avs := [.ref M, .int z_a, .int z_b, .int z_c, .int z_d, .int z_e]) (WS := (MW cI cJ M mr mi mf mg)) (Qf := fun A => va_Qi (fun (r : Int32) (u : Int32 × (Nat → Int32) × Int32) => (0 ≤ u.2.2.toInt ∧ u.2.2.toInt ≤ 400) ∧ ((r = (-1) ∧ 381 ≤ (mi 21).toInt ∧ u.2.2.toInt = (mi 21).toInt) ∨ ((mi 21).toInt ≤ 380 ∧ u.2.2.toInt = (mi 21).toInt + 20 ∧ r.toInt = (mi 21).toInt + 20))) (fun u => QW D cI cJ A ((fun (u : Int32 × (Nat → Int32) × Int32) => (MW cI cJ M mr (upd (upd mi 0 u.1) 21 u.2.2) (va_up mf 20 u.2.1) mg)) u)) A) (by decide) (Nat.le_of_ble_eq_true rfl) ?_
  intro p e s m below meth c A ls E hr hlk hnm hX hw1 hl2
  have hl3 : lv_has ls 6 [(0, .ref M), (1, .int z_a), (2, .int z_b), (3, .int z_c), (4, .int z_d), (5, .int z_e)] := hl2
  refine lv_aload_n (pc := 0) E.1 E.2.1 dX12_feed_0 rfl (lv_at hl3 0 rfl) ?_
  refine lv_iconst (pc := 1) (v := 0) E.1 E.2.1 dX12_feed_1 (by decide +kernel) ?_
  refine x_put (pc := 2) (T := TX12) (N := 70) (ci := 12) (ws' := (MW cI cJ M mr (upd mi 0 0) mf mg)) E hw1 inX12 tyX12_ok nmX12 0 0 q_1399 rfl rfl (by decide) rfl rfl rfl rfl (Nat.le_of_ble_eq_true rfl) rfl dX12_feed_2 (fun H locs hw4 => ?_)
  refine lv_aload_n (pc := 5) E.1 E.2.1 dX12_feed_5 rfl (lv_at hl3 0 rfl) ?_
  refine x_get (pc := 6) (T := TX12) (N := 70) (ci := 12) (v := .int (mi 21)) E hw4 inX12 0 21 q_1420 rfl rfl (by decide) rfl rfl dX12_feed_6 ?_
  refine lv_sipush (pc := 9) (v := 380) E.1 E.2.1 dX12_feed_9 (by decide +kernel) ?_
  refine lv_icmp_le (pc := 12) (tgt := 17) E.1 E.2.1 dX12_feed_12 (by decide) (fun c_5 => ?_) (fun c_5 => ?_)
  · skip
    have hc_5 := leE (a := (mi 21).toInt) (b := 380) rfl (by decide +kernel) c_5
    refine lv_aload_n (pc := 17) E.1 E.2.1 dX12_feed_17 rfl (lv_at hl3 0 rfl) ?_
    refine lv_iload_n (pc := 18) E.1 E.2.1 dX12_feed_18 rfl (lv_at hl3 1 rfl) ?_
    refine cm_v (pc := 19) hw4 (rn_M (As := [.int z_a]) (rest := []) E hw4 (s_types l D cI cJ _ M mr (upd mi 0 0) mf mg z_a (by show 0 ≤ (mi 21).toInt ∧ (mi 21).toInt ≤ 396; omega)) (gdV q_1650 q_1652 q_50 q_162 q_1653) hdV_X12_types ⟨rfl, rfl⟩ ⟨(Nat.le_of_ble_eq_true rfl), (Nat.le_of_ble_eq_true rfl)⟩ ⟨(Nat.le_of_ble_eq_true rfl), (Nat.le_of_ble_eq_true rfl)⟩ 12 rfl rfl rfl rfl hl3.1 rfl (Nat.le_of_ble_eq_true rfl) dX12_feed_19) (fun u_6 H1 locs hp hw8 => ?_)
    obtain ⟨gtape_9, ntaped_10⟩ := u_6
    generalize H1 = H at hw8 ⊢
    have hw11 : WD D A s.heap (MW cI cJ M mr (upd (upd mi 0 0) 21 ntaped_10) (va_up mf 20 gtape_9) mg) H locs := hw8
    have hp_12 := hp
    have hp_12 : ntaped_10.toInt = (mi 21).toInt + 4 := hp_12
    refine lv_aload_n (pc := 22) E.1 E.2.1 dX12_feed_22 rfl (lv_at hl3 0 rfl) ?_
    refine lv_iload_n (pc := 23) E.1 E.2.1 dX12_feed_23 rfl (lv_at hl3 2 rfl) ?_
    refine cm_v (pc := 24) hw11 (rn_M (As := [.int z_b]) (rest := []) E hw11 (s_types l D cI cJ _ M mr (upd (upd mi 0 0) 21 ntaped_10) (va_up mf 20 gtape_9) mg z_b (by show 0 ≤ ntaped_10.toInt ∧ ntaped_10.toInt ≤ 396; omega)) (gdV q_1650 q_1652 q_50 q_162 q_1653) hdV_X12_types ⟨rfl, rfl⟩ ⟨(Nat.le_of_ble_eq_true rfl), (Nat.le_of_ble_eq_true rfl)⟩ ⟨(Nat.le_of_ble_eq_true rfl), (Nat.le_of_ble_eq_true rfl)⟩ 12 rfl rfl rfl rfl hl3.1 rfl (Nat.le_of_ble_eq_true rfl) dX12_feed_24) (fun u_13 H1 locs hp hw15 => ?_)
    obtain ⟨gtape_16, ntaped_17⟩ := u_13
    generalize H1 = H at hw15 ⊢
    have hw18 : WD D A s.heap (MW cI cJ M mr (upd (upd mi 0 0) 21 ntaped_17) (va_up mf 20 gtape_16) mg) H locs := hw15
    have hp_19 := hp
    have hp_19 : ntaped_17.toInt = ntaped_10.toInt + 4 := hp_19
    refine lv_aload_n (pc := 27) E.1 E.2.1 dX12_feed_27 rfl (lv_at hl3 0 rfl) ?_
    refine lv_iload_n (pc := 28) E.1 E.2.1 dX12_feed_28 rfl (lv_at hl3 3 rfl) ?_
    refine cm_v (pc := 29) hw18 (rn_M (As := [.int z_c]) (rest := []) E hw18 (s_types l D cI cJ _ M mr (upd (upd mi 0 0) 21 ntaped_17) (va_up mf 20 gtape_16) mg z_c (by show 0 ≤ ntaped_17.toInt ∧ ntaped_17.toInt ≤ 396; omega)) (gdV q_1650 q_1652 q_50 q_162 q_1653) hdV_X12_types ⟨rfl, rfl⟩ ⟨(Nat.le_of_ble_eq_true rfl), (Nat.le_of_ble_eq_true rfl)⟩ ⟨(Nat.le_of_ble_eq_true rfl), (Nat.le_of_ble_eq_true rfl)⟩ 12 rfl rfl rfl rfl hl3.1 rfl (Nat.le_of_ble_eq_true rfl) dX12_feed_29) (fun u_20 H1 locs hp hw22 => ?_)
    obtain ⟨gtape_23, ntaped_24⟩ := u_20
    generalize H1 = H at hw22 ⊢
    have hw25 : WD D A s.heap (MW cI cJ M mr (upd (upd mi 0 0) 21 ntaped_24) (va_up mf 20 gtape_23) mg) H locs := hw22
    have hp_26 := hp
    have hp_26 : ntaped_24.toInt = ntaped_17.toInt + 4 := hp_26
    refine lv_aload_n (pc := 32) E.1 E.2.1 dX12_feed_32 rfl (lv_at hl3 0 rfl) ?_
    refine lv_iload (pc := 33) E.1 E.2.1 dX12_feed_33 (lv_at hl3 4 rfl) ?_
    refine cm_v (pc := 35) hw25 (rn_M (As := [.int z_d]) (rest := []) E hw25 (s_types l D cI cJ _ M mr (upd (upd mi 0 0) 21 ntaped_24) (va_up mf 20 gtape_23) mg z_d (by show 0 ≤ ntaped_24.toInt ∧ ntaped_24.toInt ≤ 396; omega)) (gdV q_1650 q_1652 q_50 q_162 q_1653) hdV_X12_types ⟨rfl, rfl⟩ ⟨(Nat.le_of_ble_eq_true rfl), (Nat.le_of_ble_eq_true rfl)⟩ ⟨(Nat.le_of_ble_eq_true rfl), (Nat.le_of_ble_eq_true rfl)⟩ 12 rfl rfl rfl rfl hl3.1 rfl (Nat.le_of_ble_eq_true rfl) dX12_feed_35) (fun u_27 H1 locs hp hw29 => ?_)
    obtain ⟨gtape_30, ntaped_31⟩ := u_27
    generalize H1 = H at hw29 ⊢
    have hw32 : WD D A s.heap (MW cI cJ M mr (upd (upd mi 0 0) 21 ntaped_31) (va_up mf 20 gtape_30) mg) H locs := hw29
    have hp_33 := hp
    have hp_33 : ntaped_31.toInt = ntaped_24.toInt + 4 := hp_33
    refine lv_aload_n (pc := 38) E.1 E.2.1 dX12_feed_38 rfl (lv_at hl3 0 rfl) ?_
    refine lv_iload (pc := 39) E.1 E.2.1 dX12_feed_39 (lv_at hl3 5 rfl) ?_
    refine cm_v (pc := 41) hw32 (rn_M (As := [.int z_e]) (rest := []) E hw32 (s_types l D cI cJ _ M mr (upd (upd mi 0 0) 21 ntaped_31) (va_up mf 20 gtape_30) mg z_e (by show 0 ≤ ntaped_31.toInt ∧ ntaped_31.toInt ≤ 396; omega)) (gdV q_1650 q_1652 q_50 q_162 q_1653) hdV_X12_types ⟨rfl, rfl⟩ ⟨(Nat.le_of_ble_eq_true rfl), (Nat.le_of_ble_eq_true rfl)⟩ ⟨(Nat.le_of_ble_eq_true rfl), (Nat.le_of_ble_eq_true rfl)⟩ 12 rfl rfl rfl rfl hl3.1 rfl (Nat.le_of_ble_eq_true rfl) dX12_feed_41) (fun u_34 H1 locs hp hw36 => ?_)
    obtain ⟨gtape_37, ntaped_38⟩ := u_34
    generalize H1 = H at hw36 ⊢
    have hw39 : WD D A s.heap (MW cI cJ M mr (upd (upd mi 0 0) 21 ntaped_38) (va_up mf 20 gtape_37) mg) H locs := hw36
    have hp_40 := hp
    have hp_40 : ntaped_38.toInt = ntaped_31.toInt + 4 := hp_40
    refine lv_aload_n (pc := 44) E.1 E.2.1 dX12_feed_44 rfl (lv_at hl3 0 rfl) ?_
    refine x_get (pc := 45) (T := TX12) (N := 70) (ci := 12) (v := .int ntaped_38) E hw39 inX12 0 21 q_1420 rfl rfl (by decide) rfl rfl dX12_feed_45 ?_
    exact em_i (w1 := (fun (u : Int32 × (Nat → Int32) × Int32) => (MW cI cJ M mr (upd (upd mi 0 u.1) 21 u.2.2) (va_up mf 20 u.2.1) mg))) E hr hlk (0, gtape_37, ntaped_38) hw39 ⟨(by show 0 ≤ ntaped_38.toInt ∧ ntaped_38.toInt ≤ 400; have k_0 : (0 : Int32).toInt = 0 := (by decide +kernel); omega), (Or.inr (⟨(by show (mi 21).toInt ≤ 380; omega), (by show ntaped_38.toInt = (mi 21).toInt + 20; omega), (by show ntaped_38.toInt = (mi 21).toInt + 20; omega)⟩))⟩ (Nat.le_of_ble_eq_true rfl) (Nat.le_of_ble_eq_true rfl) dX12_feed_48
  · skip
    have hc_5 := nleE (a := (mi 21).toInt) (b := 380) rfl (by decide +kernel) c_5
    refine lv_iconst (pc := 15) (v := (-1)) E.1 E.2.1 dX12_feed_15 (by decide +kernel) ?_
    exact em_i (w1 := (fun (u : Int32 × (Nat → Int32) × Int32) => (MW cI cJ M mr (upd (upd mi 0 u.1) 21 u.2.2) (va_up mf 20 u.2.1) mg))) E hr hlk (0, (mf 20), (mi 21)) hw4 ⟨h0, (Or.inl ⟨rfl, (by show 381 ≤ (mi 21).toInt; omega), rfl⟩)⟩ (Nat.le_of_ble_eq_true rfl) (Nat.le_of_ble_eq_true rfl) dX12_feed_16
set_option maxHeartbeats 4000000 in
set_option maxRecDepth 100000 in
theorem s_endB (l : Launch) (D : va_G) (cI cJ : ClassId) (sz M : Nat) (mr : Nat → Nat) (mi : Nat → Int32) (mf : Nat → Nat → Int32) (mg : Nat → Nat → Int64) (z_k : Int32) (h0 : 0 ≤ (mi 21).toInt ∧ (mi 21).toInt ≤ 400) : Met l yX12_end (Cond.code yX12_end cX12_end 2 (some .boolean) :: GW) ({ frames := 2, cells := 0, slots := 0, locals := 63 } : Room) (va_Pc [.ref M, .int z_k] (PW D cI cJ sz (MW cI cJ M mr mi mf mg) xT)) (va_Qi (fun (r : Int32) (u : Int32 × Int32) => (0 ≤ u.2.toInt ∧ u.2.toInt ≤ 400) ∧ ((r = 0 ∧ z_k.toInt ≤ (-1) ∧ u.2.toInt = (mi 21).toInt) ∨ (r = 0 ∧ (mi 21).toInt + 1 ≤ z_k.toInt ∧ u.2.toInt = (mi 21).toInt) ∨ (r = 1 ∧ 0 ≤ z_k.toInt ∧ z_k.toInt ≤ (mi 21).toInt ∧ u.2.toInt = z_k.toInt))) (fun u => QW D cI cJ (va_A (MW cI cJ M mr mi mf mg) sz) ((fun (u : Int32 × Int32) => (MW cI cJ M mr (upd (upd mi 0 u.1) 21 u.2) mf mg)) u)) (va_A (MW cI cJ M mr mi mf mg) sz)) 0 0 (va_A (MW cI cJ M mr mi mf mg) sz) := by
  refine mk_met (y := yX12_end) (bytes := cX12_end) (maxL := 2) (avs := [.ref M, .int z_k]) (WS := (MW cI cJ M mr mi mf mg)) (Qf := fun A => va_Qi (fun (r : Int32) (u : Int32 × Int32) => (0 ≤ u.2.toInt ∧ u.2.toInt ≤ 400) ∧ ((r = 0 ∧ z_k.toInt ≤ (-1) ∧ u.2.toInt = (mi 21).toInt) ∨ (r = 0 ∧ (mi 21).toInt + 1 ≤ z_k.toInt ∧ u.2.toInt = (mi 21).toInt) ∨ (r = 1 ∧ 0 ≤ z_k.toInt ∧ z_k.toInt ≤ (mi 21).toInt ∧ u.2.toInt = z_k.toInt))) (fun u => QW D cI cJ A ((fun (u : Int32 × Int32) => (MW cI cJ M mr (upd (upd mi 0 u.1) 21 u.2) mf mg)) u)) A) (by decide) (Nat.le_of_ble_eq_true rfl) ?_
  intro p e s m below meth c A ls E hr hlk hnm hX hw1 hl2
  have hl3 : lv_has ls 2 [(0, .ref M), (1, .int z_k)] := hl2
  refine lv_aload_n (pc := 0) E.1 E.2.1 dX12_end_0 rfl (lv_at hl3 0 rfl) ?_
  refine lv_iconst (pc := 1) (v := 0) E.1 E.2.1 dX12_end_1 (by decide +kernel) ?_
  refine x_put (pc := 2) (T := TX12) (N := 70) (ci := 12) (ws' := (MW cI cJ M mr (upd mi 0 0) mf mg)) E hw1 inX12 tyX12_ok nmX12 0 0 q_1399 rfl rfl (by decide) rfl rfl rfl rfl (Nat.le_of_ble_eq_true rfl) rfl dX12_end_2 (fun H locs hw4 => ?_)
  refine lv_aload_n (pc := 5) E.1 E.2.1 dX12_end_5 rfl (lv_at hl3 0 rfl) ?_
  refine lv_iload_n (pc := 6) E.1 E.2.1 dX12_end_6 rfl (lv_at hl3 1 rfl) ?_
  refine lv_iconst (pc := 7) (v := 0) E.1 E.2.1 dX12_end_7 (by decide +kernel) ?_
  refine lv_aload_n (pc := 8) E.1 E.2.1 dX12_end_8 rfl (lv_at hl3 0 rfl) ?_
  refine x_get (pc := 9) (T := TX12) (N := 70) (ci := 12) (v := .int (mi 21)) E hw4 inX12 0 21 q_1420 rfl rfl (by decide) rfl rfl dX12_end_9 ?_
  refine cm_i (pc := 12) hw4 (rn_M (As := [.int z_k, .int 0, .int (mi 21)]) (rest := []) E hw4 (s_isIn l D cI cJ _ M mr (upd mi 0 0) mf mg z_k 0 (mi 21)) (gdV q_1622 q_1624 q_46 q_162 q_1625) hdV_X12_isIn ⟨rfl, rfl⟩ ⟨(Nat.le_of_ble_eq_true rfl), (Nat.le_of_ble_eq_true rfl)⟩ ⟨(Nat.le_of_ble_eq_true rfl), (Nat.le_of_ble_eq_true rfl)⟩ 12 rfl rfl rfl rfl hl3.1 rfl (Nat.le_of_ble_eq_true rfl) dX12_end_12) (fun r_6 u_5 H1 locs hp hw7 => ?_)
  generalize H1 = H at hw7 ⊢
  have hw8 : WD D A s.heap (MW cI cJ M mr (upd mi 0 0) mf mg) H locs := hw7
  have hp_9 := hp
  rcases hp_9 with ⟨rfl, ha_10⟩ | ⟨rfl, ha_11⟩ | ⟨rfl, ha_12, ha_13⟩
  · skip
    have ha_10 : z_k.toInt < (0 : Int32).toInt := ha_10
    rw [show (0 : Int32).toInt = 0 from by decide +kernel] at ha_10
    refine lv_if_ne (pc := 15) (tgt := 20) E.1 E.2.1 dX12_end_15 (by decide) (fun c_14 => absurd (meqE (a := 0) (b := 0) (by decide +kernel) (by decide +kernel) (by omega)) c_14) (fun _ => ?_)
    refine lv_iconst (pc := 18) (v := 0) E.1 E.2.1 dX12_end_18 (by decide +kernel) ?_
    exact em_z (w1 := (fun (u : Int32 × Int32) => (MW cI cJ M mr (upd (upd mi 0 u.1) 21 u.2) mf mg))) E hr hlk (0, (mi 21)) hw8 ⟨h0, (Or.inl ⟨rfl, (by show z_k.toInt ≤ (-1); omega), rfl⟩)⟩ (by decide +kernel) (Nat.le_of_ble_eq_true rfl) (Nat.le_of_ble_eq_true rfl) dX12_end_19
  · skip
    have ha_11 : (mi 21).toInt < z_k.toInt := ha_11
    refine lv_if_ne (pc := 15) (tgt := 20) E.1 E.2.1 dX12_end_15 (by decide) (fun c_15 => absurd (meqE (a := 0) (b := 0) (by decide +kernel) (by decide +kernel) (by omega)) c_15) (fun _ => ?_)
    refine lv_iconst (pc := 18) (v := 0) E.1 E.2.1 dX12_end_18 (by decide +kernel) ?_
    exact em_z (w1 := (fun (u : Int32 × Int32) => (MW cI cJ M mr (upd (upd mi 0 u.1) 21 u.2) mf mg))) E hr hlk (0, (mi 21)) hw8 ⟨h0, (Or.inr (Or.inl ⟨rfl, (by show (mi 21).toInt + 1 ≤ z_k.toInt; omega), rfl⟩))⟩ (by decide +kernel) (Nat.le_of_ble_eq_true rfl) (Nat.le_of_ble_eq_true rfl) dX12_end_19
  · skip
    have ha_12 : (0 : Int32).toInt ≤ z_k.toInt := ha_12
    rw [show (0 : Int32).toInt = 0 from by decide +kernel] at ha_12
    have ha_13 : z_k.toInt ≤ (mi 21).toInt := ha_13
    refine lv_if_ne (pc := 15) (tgt := 20) E.1 E.2.1 dX12_end_15 (by decide) (fun _ => ?_) (fun c_16 => absurd c_16 (mneE (a := 1) (b := 0) (by decide +kernel) (by decide +kernel) (by omega)))
    refine lv_aload_n (pc := 20) E.1 E.2.1 dX12_end_20 rfl (lv_at hl3 0 rfl) ?_
    refine lv_iload_n (pc := 21) E.1 E.2.1 dX12_end_21 rfl (lv_at hl3 1 rfl) ?_
    refine x_put (pc := 22) (T := TX12) (N := 70) (ci := 12) (ws' := (MW cI cJ M mr (upd (upd mi 0 0) 21 z_k) mf mg)) E hw8 inX12 tyX12_ok nmX12 0 21 q_1420 rfl rfl (by decide) rfl rfl rfl rfl (Nat.le_of_ble_eq_true rfl) rfl dX12_end_22 (fun H locs hw17 => ?_)
    refine lv_iconst (pc := 25) (v := 1) E.1 E.2.1 dX12_end_25 (by decide +kernel) ?_
    exact em_z (w1 := (fun (u : Int32 × Int32) => (MW cI cJ M mr (upd (upd mi 0 u.1) 21 u.2) mf mg))) E hr hlk (0, z_k) hw17 ⟨(by show 0 ≤ z_k.toInt ∧ z_k.toInt ≤ 400; have k_0 : (0 : Int32).toInt = 0 := (by decide +kernel); have k_1 : (1 : Int32).toInt = 1 := (by decide +kernel); omega), (Or.inr (Or.inr (⟨rfl, (by show 0 ≤ z_k.toInt; omega), (by show z_k.toInt ≤ (mi 21).toInt; omega), rfl⟩)))⟩ (by decide +kernel) (Nat.le_of_ble_eq_true rfl) (Nat.le_of_ble_eq_true rfl) dX12_end_26
set_option maxHeartbeats 4000000 in
set_option maxRecDepth 100000 in
theorem s_undoB (l : Launch) (D : va_G) (cI cJ : ClassId) (sz M : Nat) (mr : Nat → Nat) (mi : Nat → Int32) (mf : Nat → Nat → Int32) (mg : Nat → Nat → Int64)  (h0 : 0 ≤ (mi 6).toInt ∧ (mi 6).toInt ≤ 10) (h1 : 0 ≤ (mi 3).toInt ∧ (mi 3).toInt ≤ 6) (h2 : 0 ≤ ((mf 1) 2).toInt ∧ ((mf 1) 2).toInt ≤ 150) (h3 : 0 ≤ ((mf 1) 3).toInt ∧ ((mf 1) 3).toInt ≤ 9) (h4 : 0 ≤ ((mf 1) 5).toInt ∧ ((mf 1) 5).toInt ≤ 200) (lf_rows : rowsOK (mi 3).toInt (mi 6).toInt (mf 2)) (lf_lamp : (((mi 6).toInt = 0 ∧ ((mf 1) 3).toInt = 0) ∨ ((mf 1) 3).toInt < (mi 6).toInt)) : Met l yX12_undo (Cond.code yX12_undo cX12_undo 2 (some .boolean) :: GW) ({ frames := 1, cells := 0, slots := 0, locals := 40 } : Room) (va_Pc [.ref M] (PW D cI cJ sz (MW cI cJ M mr mi mf mg) xT)) (va_Qi (fun (r : Int32) (u : Int32 × Int32 × (Nat → Int32)) => (0 ≤ u.2.1.toInt ∧ u.2.1.toInt ≤ 6) ∧ (0 ≤ (u.2.2 2).toInt ∧ (u.2.2 2).toInt ≤ 150) ∧ (0 ≤ (u.2.2 3).toInt ∧ (u.2.2 3).toInt ≤ 9) ∧ (0 ≤ (u.2.2 5).toInt ∧ (u.2.2 5).toInt ≤ 200) ∧ (rowsOK u.2.1.toInt (mi 6).toInt (mf 2)) ∧ ((((mi 6).toInt = 0 ∧ (u.2.2 3).toInt = 0) ∨ (u.2.2 3).toInt < (mi 6).toInt))) (fun u => QW D cI cJ (va_A (MW cI cJ M mr mi mf mg) sz) ((fun (u : Int32 × Int32 × (Nat → Int32)) => (MW cI cJ M mr (upd (upd mi 0 u.1) 3 u.2.1) (va_up mf 1 u.2.2) mg)) u)) (va_A (MW cI cJ M mr mi mf mg) sz)) 0 0 (va_A (MW cI cJ M mr mi mf mg) sz) := by
  refine mk_met (y := yX12_undo) (bytes := cX12_undo) (maxL := 2) (avs := [.ref M]) (WS := (MW cI cJ M mr mi mf mg)) (Qf := fun A => va_Qi (fun (r : Int32) (u : Int32 × Int32 × (Nat → Int32)) => (0 ≤ u.2.1.toInt ∧ u.2.1.toInt ≤ 6) ∧ (0 ≤ (u.2.2 2).toInt ∧ (u.2.2 2).toInt ≤ 150) ∧ (0 ≤ (u.2.2 3).toInt ∧ (u.2.2 3).toInt ≤ 9) ∧ (0 ≤ (u.2.2 5).toInt ∧ (u.2.2 5).toInt ≤ 200) ∧ (rowsOK u.2.1.toInt (mi 6).toInt (mf 2)) ∧ ((((mi 6).toInt = 0 ∧ (u.2.2 3).toInt = 0) ∨ (u.2.2 3).toInt < (mi 6).toInt))) (fun u => QW D cI cJ A ((fun (u : Int32 × Int32 × (Nat → Int32)) => (MW cI cJ M mr (upd (upd mi 0 u.1) 3 u.2.1) (va_up mf 1 u.2.2) mg)) u)) A) (by decide) (Nat.le_of_ble_eq_true rfl) ?_
  intro p e s m below meth c A ls E hr hlk hnm hX hw1 hl2
  have hl3 : lv_has ls 2 [(0, .ref M)] := hl2
  refine lv_aload_n (pc := 0) E.1 E.2.1 dX12_undo_0 rfl (lv_at hl3 0 rfl) ?_
  refine lv_iconst (pc := 1) (v := 0) E.1 E.2.1 dX12_undo_1 (by decide +kernel) ?_
  refine x_put (pc := 2) (T := TX12) (N := 70) (ci := 12) (ws' := (MW cI cJ M mr (upd mi 0 0) mf mg)) E hw1 inX12 tyX12_ok nmX12 0 0 q_1399 rfl rfl (by decide) rfl rfl rfl rfl (Nat.le_of_ble_eq_true rfl) rfl dX12_undo_2 (fun H locs hw4 => ?_)
  refine lv_aload_n (pc := 5) E.1 E.2.1 dX12_undo_5 rfl (lv_at hl3 0 rfl) ?_
  refine x_get (pc := 6) (T := TX12) (N := 70) (ci := 12) (v := .int (mi 3)) E hw4 inX12 0 3 q_1402 rfl rfl (by decide) rfl rfl dX12_undo_6 ?_
  refine lv_if_ne (pc := 9) (tgt := 14) E.1 E.2.1 dX12_undo_9 (by decide) (fun c_5 => ?_) (fun c_5 => ?_)
  · skip
    have hc_5 := neE (a := (mi 3).toInt) (b := 0) rfl (by decide +kernel) c_5
    refine lv_aload_n (pc := 14) E.1 E.2.1 dX12_undo_14 rfl (lv_at hl3 0 rfl) ?_
    refine lv_aload_n (pc := 15) E.1 E.2.1 dX12_undo_15 rfl (lv_at hl3 0 rfl) ?_
    refine x_get (pc := 16) (T := TX12) (N := 70) (ci := 12) (v := .int (mi 3)) E hw4 inX12 0 3 q_1402 rfl rfl (by decide) rfl rfl dX12_undo_16 ?_
    refine lv_iconst (pc := 19) (v := 1) E.1 E.2.1 dX12_undo_19 (by decide +kernel) ?_
    refine lv_isub (pc := 20) E.1 E.2.1 dX12_undo_20 ?_
    refine lv_topi (fun v_6 ev_6 => ?_)
    have hv_6 : v_6.toInt = (mi 3).toInt - 1 := by rw [ev_6]; exact subE rfl (by decide +kernel) (by omega)
    refine x_put (pc := 21) (T := TX12) (N := 70) (ci := 12) (ws' := (MW cI cJ M mr (upd (upd mi 0 0) 3 v_6) mf mg)) E hw4 inX12 tyX12_ok nmX12 0 3 q_1402 rfl rfl (by decide) rfl rfl rfl rfl (Nat.le_of_ble_eq_true rfl) rfl dX12_undo_21 (fun H locs hw7 => ?_)
    refine lv_iconst (pc := 24) (v := 0) E.1 E.2.1 dX12_undo_24 (by decide +kernel) ?_
    refine lv_istore_n (pc := 25) (lv' := [(1, .int 0), (0, .ref M)]) E.1 E.2.1 dX12_undo_25 rfl hl3 (by decide) rfl (fun ls hl8 => ?_)
    have loop_9 : ∀ (k : Nat) (x_10 : Int32) (g_11 : Nat → Int32) (H : Heap) (locs : List Loc) (ls : Array Slot), (0 ≤ x_10.toInt ∧ x_10.toInt ≤ 66) ∧ (CP g_11 (mf 2) 0 (66 * v_6.toNatClampNeg) x_10.toInt) → 66 - x_10.toInt < (k : Int) → WD D A s.heap (MW cI cJ M mr (upd (upd mi 0 0) 3 v_6) (va_up mf 1 g_11) mg) H locs → lv_has ls 2 [(1, .int x_10), (0, .ref M)] → W p l e ({ frames := 1, cells := 0, slots := 0, locals := 40 } : Room) s m ([.ref M] : List Value).toArray below meth c H locs 0 0 (MQ below (va_Qi (fun (r : Int32) (u : Int32 × Int32 × (Nat → Int32)) => (0 ≤ u.2.1.toInt ∧ u.2.1.toInt ≤ 6) ∧ (0 ≤ (u.2.2 2).toInt ∧ (u.2.2 2).toInt ≤ 150) ∧ (0 ≤ (u.2.2 3).toInt ∧ (u.2.2 3).toInt ≤ 9) ∧ (0 ≤ (u.2.2 5).toInt ∧ (u.2.2 5).toInt ≤ 200) ∧ (rowsOK u.2.1.toInt (mi 6).toInt (mf 2)) ∧ ((((mi 6).toInt = 0 ∧ (u.2.2 3).toInt = 0) ∨ (u.2.2 3).toInt < (mi 6).toInt))) (fun u => QW D cI cJ A ((fun (u : Int32 × Int32 × (Nat → Int32)) => (MW cI cJ M mr (upd (upd mi 0 u.1) 3 u.2.1) (va_up mf 1 u.2.2) mg)) u)) A) ([.ref M] : List Value).toArray s 0 0 A) (F0 m 26 ls []) := by
      intro k
      induction k with
      | zero =>
        intro x_10 g_11 _ _ _ hinv hm
        obtain ⟨hi_11_0, hi_11_1⟩ := hinv
        exact absurd hm (by omega)
      | succ k ih_12 =>
        intro x_10 g_11 H locs ls hinv hm hw13 hl14
        obtain ⟨hi_11_0, hi_11_1⟩ := hinv
        refine lv_iload_n (pc := 26) E.1 E.2.1 dX12_undo_26 rfl (lv_at hl14 0 rfl) ?_
        refine lv_bipush (pc := 27) (v := 66) E.1 E.2.1 dX12_undo_27 (by decide +kernel) ?_
        refine lv_icmp_ge (pc := 29) (tgt := 58) E.1 E.2.1 dX12_undo_29 (by decide) (fun c_15 => ?_) (fun c_15 => ?_)
        · skip
          have hc_15 := leE (a := 66) (b := x_10.toInt) (by decide +kernel) rfl c_15
          have q9 := idxI (x := v_6) (by omega)
          have hro := lf_rows v_6.toNatClampNeg (by omega)
          have ht_16 : (g_11 2).toInt = ((mf 2) (66 * v_6.toNatClampNeg + 2)).toInt := congrArg Int32.toInt ((Nat.zero_add 2) ▸ hi_11_1 2 (by omega))
          have ht_17 : (g_11 3).toInt = ((mf 2) (66 * v_6.toNatClampNeg + 3)).toInt := congrArg Int32.toInt ((Nat.zero_add 3) ▸ hi_11_1 3 (by omega))
          have ht_18 : (g_11 5).toInt = ((mf 2) (66 * v_6.toNatClampNeg + 5)).toInt := congrArg Int32.toInt ((Nat.zero_add 5) ▸ hi_11_1 5 (by omega))
          obtain ⟨⟨hro1, hro2⟩, ⟨hro3, hro4⟩, hro5, hro6⟩ := hro
          refine lv_iconst (pc := 58) (v := 1) E.1 E.2.1 dX12_undo_58 (by decide +kernel) ?_
          exact em_z (w1 := (fun (u : Int32 × Int32 × (Nat → Int32)) => (MW cI cJ M mr (upd (upd mi 0 u.1) 3 u.2.1) (va_up mf 1 u.2.2) mg))) E hr hlk (0, v_6, g_11) hw13 ⟨(by show 0 ≤ v_6.toInt ∧ v_6.toInt ≤ 6; have k_0 : (0 : Int32).toInt = 0 := (by decide +kernel); have k_1 : (1 : Int32).toInt = 1 := (by decide +kernel); omega), (by show 0 ≤ (g_11 2).toInt ∧ (g_11 2).toInt ≤ 150; have k_0 : (0 : Int32).toInt = 0 := (by decide +kernel); have k_1 : (1 : Int32).toInt = 1 := (by decide +kernel); omega), (by show 0 ≤ (g_11 3).toInt ∧ (g_11 3).toInt ≤ 9; have k_0 : (0 : Int32).toInt = 0 := (by decide +kernel); have k_1 : (1 : Int32).toInt = 1 := (by decide +kernel); omega), (by show 0 ≤ (g_11 5).toInt ∧ (g_11 5).toInt ≤ 200; have k_0 : (0 : Int32).toInt = 0 := (by decide +kernel); have k_1 : (1 : Int32).toInt = 1 := (by decide +kernel); omega), (show rowsOK v_6.toInt (mi 6).toInt (mf 2) from (rowsOK_less lf_rows (by omega))), (show (((mi 6).toInt = 0 ∧ (g_11 3).toInt = 0) ∨ (g_11 3).toInt < (mi 6).toInt) from (Or.inr (by omega)))⟩ (by decide +kernel) (Nat.le_of_ble_eq_true rfl) (Nat.le_of_ble_eq_true rfl) dX12_undo_59
        · skip
          have hc_15 := nleE (a := 66) (b := x_10.toInt) (by decide +kernel) rfl c_15
          refine lv_aload_n (pc := 32) E.1 E.2.1 dX12_undo_32 rfl (lv_at hl14 1 rfl) ?_
          refine x_get (pc := 33) (T := TX12) (N := 70) (ci := 12) (v := .ref (mr 1)) E hw13 inX12 0 1 q_1400 rfl rfl (by decide) rfl rfl dX12_undo_33 ?_
          refine lv_iload_n (pc := 36) E.1 E.2.1 dX12_undo_36 rfl (lv_at hl14 0 rfl) ?_
          refine lv_aload_n (pc := 37) E.1 E.2.1 dX12_undo_37 rfl (lv_at hl14 1 rfl) ?_
          refine x_get (pc := 38) (T := TX12) (N := 70) (ci := 12) (v := .ref (mr 2)) E hw13 inX12 0 2 q_1401 rfl rfl (by decide) rfl rfl dX12_undo_38 ?_
          refine lv_bipush (pc := 41) (v := 66) E.1 E.2.1 dX12_undo_41 (by decide +kernel) ?_
          refine lv_aload_n (pc := 43) E.1 E.2.1 dX12_undo_43 rfl (lv_at hl14 1 rfl) ?_
          refine x_get (pc := 44) (T := TX12) (N := 70) (ci := 12) (v := .int v_6) E hw13 inX12 0 3 q_1402 rfl rfl (by decide) rfl rfl dX12_undo_44 ?_
          refine lv_imul (pc := 47) E.1 E.2.1 dX12_undo_47 ?_
          refine lv_topi (fun v_19 ev_19 => ?_)
          have hv_19 : v_19.toInt = 66 * v_6.toInt := by rw [ev_19]; exact mulE (by decide +kernel) rfl (by omega)
          refine lv_iload_n (pc := 48) E.1 E.2.1 dX12_undo_48 rfl (lv_at hl14 0 rfl) ?_
          refine lv_iadd (pc := 49) E.1 E.2.1 dX12_undo_49 ?_
          refine lv_topi (fun v_20 ev_20 => ?_)
          have hv_20 : v_20.toInt = v_19.toInt + x_10.toInt := by rw [ev_20]; exact addE rfl rfl (by omega)
          refine x_iald (pc := 50) (f := (mf 2)) E hw13 2 rfl (inbE (a := v_20.toInt) (n := 396) rfl (by omega)) dX12_undo_50 ?_
          refine lv_topi (fun v_21 ev_21 => ?_)
          refine x_iastG (pc := 51) (f := g_11) (wf := fun g => (MW cI cJ M mr (upd (upd mi 0 0) 3 v_6) (va_up mf 1 g) mg)) E hw13 1 rfl (inbE (a := x_10.toInt) (n := 66) rfl (by omega)) (fun _ => rfl) dX12_undo_51 (fun g_22 H locs eg_22 hw23 => ?_)
          obtain ⟨v_27, ev_27⟩ : ∃ z : Int32, x_10 + Int32.ofInt (1) = z := ⟨_, rfl⟩
          have hv_27 : v_27.toInt = x_10.toInt + (1) := by rw [← ev_27]; exact incE rfl (by decide) (by omega)
          refine lv_iinc (pc := 52) (v := v_27) (lv' := [(1, .int v_27), (0, .ref M)]) E.1 E.2.1 dX12_undo_52 hl14 (k := 0) rfl ev_27 (by decide) rfl (fun ls hl28 => ?_)
          refine lv_goto (pc := 55) (tgt := 26) E.1 E.2.1 dX12_undo_55 (by decide) ?_
          exact ih_12 v_27 g_22 _ _ _ ⟨(by show 0 ≤ v_27.toInt ∧ v_27.toInt ≤ 66; omega), (CP_step (i := x_10) (j := v_27) hi_11_1 eg_22 ev_21 (by omega) (by have q9 := idxI (x := v_6) (by omega); omega) (by omega) (by omega))⟩ (by omega) hw23 (lv_sub hl28 [0, 1] rfl)
    exact loop_9 (Int.toNat (66 - 0) + 1) 0 (mf 1) _ _ _ ⟨(by show 0 ≤ (0 : Int32).toInt ∧ (0 : Int32).toInt ≤ 66; have k_0 : (0 : Int32).toInt = 0 := (by decide +kernel); omega), (CP_nil (by decide +kernel))⟩ (by have k_0 : (0 : Int32).toInt = 0 := (by decide +kernel); omega) hw7 (lv_sub hl8 [0, 1] rfl)
  · skip
    have hc_5 := eqE (a := (mi 3).toInt) (b := 0) rfl (by decide +kernel) c_5
    refine lv_iconst (pc := 12) (v := 0) E.1 E.2.1 dX12_undo_12 (by decide +kernel) ?_
    exact em_z (w1 := (fun (u : Int32 × Int32 × (Nat → Int32)) => (MW cI cJ M mr (upd (upd mi 0 u.1) 3 u.2.1) (va_up mf 1 u.2.2) mg))) E hr hlk (0, (mi 3), (mf 1)) hw4 ⟨h1, h2, h3, h4, (show rowsOK (mi 3).toInt (mi 6).toInt (mf 2) from lf_rows), (show (((mi 6).toInt = 0 ∧ ((mf 1) 3).toInt = 0) ∨ ((mf 1) 3).toInt < (mi 6).toInt) from lf_lamp)⟩ (by decide +kernel) (Nat.le_of_ble_eq_true rfl) (Nat.le_of_ble_eq_true rfl) dX12_undo_13
set_option maxHeartbeats 4000000 in
set_option maxRecDepth 100000 in
theorem s_houseB (l : Launch) (D : va_G) (cI cJ : ClassId) (sz M : Nat) (mr : Nat → Nat) (mi : Nat → Int32) (mf : Nat → Nat → Int32) (mg : Nat → Nat → Int64) (z_place : Int32) (z_people : Int32) (z_oil : Int32) (h0 : 0 ≤ (mi 6).toInt ∧ (mi 6).toInt ≤ 10) (h1 : 0 ≤ (mi 3).toInt ∧ (mi 3).toInt ≤ 6) (lf_rows : rowsOK (mi 3).toInt (mi 6).toInt (mf 2)) (lf_people : pplOK (mi 6).toInt (mf 8)) : Met l yX12_house (Cond.code yX12_house cX12_house 5 (some .int) :: GW) ({ frames := 2, cells := 0, slots := 0, locals := 63 } : Room) (va_Pc [.ref M, .int z_place, .int z_people, .int z_oil] (PW D cI cJ sz (MW cI cJ M mr mi mf mg) xT)) (va_Qi (fun (r : Int32) (u : Int32 × (Nat → Int32) × (Nat → Int32) × (Nat → Int32) × (Nat → Int32) × (Nat → Int32) × (Nat → Int32) × Int32 × Int32) => (0 ≤ u.2.2.2.2.2.2.2.1.toInt ∧ u.2.2.2.2.2.2.2.1.toInt ≤ 10) ∧ ((mi 6).toInt ≤ u.2.2.2.2.2.2.2.1.toInt) ∧ (u.2.2.2.2.2.2.2.1.toInt ≤ (mi 6).toInt + 1) ∧ (0 ≤ u.2.2.2.2.2.2.2.2.toInt ∧ u.2.2.2.2.2.2.2.2.toInt ≤ 6) ∧ ((u.2.2.2.2.2.2.1 2).toInt = ((mf 1) 2).toInt) ∧ ((u.2.2.2.2.2.2.1 3).toInt = ((mf 1) 3).toInt) ∧ ((u.2.2.2.2.2.2.1 5).toInt = ((mf 1) 5).toInt) ∧ (rowsOK u.2.2.2.2.2.2.2.2.toInt u.2.2.2.2.2.2.2.1.toInt (mf 2)) ∧ (pplOK u.2.2.2.2.2.2.2.1.toInt u.2.2.1) ∧ (HST (mi 6).toInt u.2.2.2.2.2.2.2.1.toInt (mf 7) u.2.1 z_place z_people.toInt z_oil.toInt) ∧ (((u.2.2.2.2.2.2.2.1.toInt = (mi 6).toInt + 1 ∧ BUP (mf 11) u.2.2.2.2.2.1 (mi 6).toInt 0) ∨ (u.2.2.2.2.2.2.2.1.toInt = (mi 6).toInt ∧ u.2.2.2.2.2.1 = (mf 11))))) (fun u => QW D cI cJ (va_A (MW cI cJ M mr mi mf mg) sz) ((fun (u : Int32 × (Nat → Int32) × (Nat → Int32) × (Nat → Int32) × (Nat → Int32) × (Nat → Int32) × (Nat → Int32) × Int32 × Int32) => (MW cI cJ M mr (upd (upd (upd mi 0 u.1) 6 u.2.2.2.2.2.2.2.1) 3 u.2.2.2.2.2.2.2.2) (va_up (va_up (va_up (va_up (va_up (va_up mf 7 u.2.1) 8 u.2.2.1) 9 u.2.2.2.1) 10 u.2.2.2.2.1) 11 u.2.2.2.2.2.1) 1 u.2.2.2.2.2.2.1) mg)) u)) (va_A (MW cI cJ M mr mi mf mg) sz)) 0 0 (va_A (MW cI cJ M mr mi mf mg) sz) := by
  refine mk_met (y := yX12_house) (bytes := cX12_house) (maxL := 5) (avs := [.ref M, .int z_place, .int z_people, .int z_oil]) (WS := (MW cI cJ M mr mi mf mg)) (Qf := fun A => va_Qi (fun (r : Int32) (u : Int32 × (Nat → Int32) × (Nat → Int32) × (Nat → Int32) × (Nat → Int32) × (Nat → Int32) × (Nat → Int32) × Int32 × Int32) => (0 ≤ u.2.2.2.2.2.2.2.1.toInt ∧ u.2.2.2.2.2.2.2.1.toInt ≤ 10) ∧ ((mi 6).toInt ≤ u.2.2.2.2.2.2.2.1.toInt) ∧ (u.2.2.2.2.2.2.2.1.toInt ≤ (mi 6).toInt + 1) ∧ (0 ≤ u.2.2.2.2.2.2.2.2.toInt ∧ u.2.2.2.2.2.2.2.2.toInt ≤ 6) ∧ ((u.2.2.2.2.2.2.1 2).toInt = ((mf 1) 2).toInt) ∧ ((u.2.2.2.2.2.2.1 3).toInt = ((mf 1) 3).toInt) ∧ ((u.2.2.2.2.2.2.1 5).toInt = ((mf 1) 5).toInt) ∧ (rowsOK u.2.2.2.2.2.2.2.2.toInt u.2.2.2.2.2.2.2.1.toInt (mf 2)) ∧ (pplOK u.2.2.2.2.2.2.2.1.toInt u.2.2.1) ∧ (HST (mi 6).toInt u.2.2.2.2.2.2.2.1.toInt (mf 7) u.2.1 z_place z_people.toInt z_oil.toInt) ∧ (((u.2.2.2.2.2.2.2.1.toInt = (mi 6).toInt + 1 ∧ BUP (mf 11) u.2.2.2.2.2.1 (mi 6).toInt 0) ∨ (u.2.2.2.2.2.2.2.1.toInt = (mi 6).toInt ∧ u.2.2.2.2.2.1 = (mf 11))))) (fun u => QW D cI cJ A ((fun (u : Int32 × (Nat → Int32) × (Nat → Int32) × (Nat → Int32) × (Nat → Int32) × (Nat → Int32) × (Nat → Int32) × Int32 × Int32) => (MW cI cJ M mr (upd (upd (upd mi 0 u.1) 6 u.2.2.2.2.2.2.2.1) 3 u.2.2.2.2.2.2.2.2) (va_up (va_up (va_up (va_up (va_up (va_up mf 7 u.2.1) 8 u.2.2.1) 9 u.2.2.2.1) 10 u.2.2.2.2.1) 11 u.2.2.2.2.2.1) 1 u.2.2.2.2.2.2.1) mg)) u)) A) (by decide) (Nat.le_of_ble_eq_true rfl) ?_
  intro p e s m below meth c A ls E hr hlk hnm hX hw1 hl2
  have hl3 : lv_has ls 5 [(0, .ref M), (1, .int z_place), (2, .int z_people), (3, .int z_oil)] := hl2
  refine lv_aload_n (pc := 0) E.1 E.2.1 dX12_house_0 rfl (lv_at hl3 0 rfl) ?_
  refine lv_iconst (pc := 1) (v := 0) E.1 E.2.1 dX12_house_1 (by decide +kernel) ?_
  refine x_put (pc := 2) (T := TX12) (N := 70) (ci := 12) (ws' := (MW cI cJ M mr (upd mi 0 0) mf mg)) E hw1 inX12 tyX12_ok nmX12 0 0 q_1399 rfl rfl (by decide) rfl rfl rfl rfl (Nat.le_of_ble_eq_true rfl) rfl dX12_house_2 (fun H locs hw4 => ?_)
  refine lv_aload_n (pc := 5) E.1 E.2.1 dX12_house_5 rfl (lv_at hl3 0 rfl) ?_
  refine lv_iload_n (pc := 6) E.1 E.2.1 dX12_house_6 rfl (lv_at hl3 1 rfl) ?_
  refine lv_iconst (pc := 7) (v := 0) E.1 E.2.1 dX12_house_7 (by decide +kernel) ?_
  refine lv_bipush (pc := 8) (v := 63) E.1 E.2.1 dX12_house_8 (by decide +kernel) ?_
  refine cm_i (pc := 10) hw4 (rn_M (As := [.int z_place, .int 0, .int 63]) (rest := []) E hw4 (s_isIn l D cI cJ _ M mr (upd mi 0 0) mf mg z_place 0 63) (gdV q_1622 q_1624 q_46 q_162 q_1625) hdV_X12_isIn ⟨rfl, rfl⟩ ⟨(Nat.le_of_ble_eq_true rfl), (Nat.le_of_ble_eq_true rfl)⟩ ⟨(Nat.le_of_ble_eq_true rfl), (Nat.le_of_ble_eq_true rfl)⟩ 12 rfl rfl rfl rfl hl3.1 rfl (Nat.le_of_ble_eq_true rfl) dX12_house_10) (fun r_6 u_5 H1 locs hp hw7 => ?_)
  generalize H1 = H at hw7 ⊢
  have hw8 : WD D A s.heap (MW cI cJ M mr (upd mi 0 0) mf mg) H locs := hw7
  have hp_9 := hp
  rcases hp_9 with ⟨rfl, ha_10⟩ | ⟨rfl, ha_11⟩ | ⟨rfl, ha_12, ha_13⟩
  · skip
    have ha_10 : z_place.toInt < (0 : Int32).toInt := ha_10
    rw [show (0 : Int32).toInt = 0 from by decide +kernel] at ha_10
    refine lv_if_eq (pc := 13) (tgt := 48) E.1 E.2.1 dX12_house_13 (by decide) (fun _ => ?_) (fun c_14 => absurd (meqE (a := 0) (b := 0) (by decide +kernel) (by decide +kernel) (by omega)) c_14)
    refine lv_iconst (pc := 48) (v := (-1)) E.1 E.2.1 dX12_house_48 (by decide +kernel) ?_
    exact em_i (w1 := (fun (u : Int32 × (Nat → Int32) × (Nat → Int32) × (Nat → Int32) × (Nat → Int32) × (Nat → Int32) × (Nat → Int32) × Int32 × Int32) => (MW cI cJ M mr (upd (upd (upd mi 0 u.1) 6 u.2.2.2.2.2.2.2.1) 3 u.2.2.2.2.2.2.2.2) (va_up (va_up (va_up (va_up (va_up (va_up mf 7 u.2.1) 8 u.2.2.1) 9 u.2.2.2.1) 10 u.2.2.2.2.1) 11 u.2.2.2.2.2.1) 1 u.2.2.2.2.2.2.1) mg))) E hr hlk (0, (mf 7), (mf 8), (mf 9), (mf 10), (mf 11), (mf 1), (mi 6), (mi 3)) hw8 ⟨h0, (by show (mi 6).toInt ≤ (mi 6).toInt; have k_0 : (0 : Int32).toInt = 0 := (by decide +kernel); have k_1 : ((-1) : Int32).toInt = -1 := (by decide +kernel); omega), (by show (mi 6).toInt ≤ (mi 6).toInt + 1; have k_0 : (0 : Int32).toInt = 0 := (by decide +kernel); have k_1 : ((-1) : Int32).toInt = -1 := (by decide +kernel); omega), h1, rfl, rfl, rfl, (show rowsOK (mi 3).toInt (mi 6).toInt (mf 2) from lf_rows), (show pplOK (mi 6).toInt (mf 8) from lf_people), (show HST (mi 6).toInt (mi 6).toInt (mf 7) (mf 7) z_place z_people.toInt z_oil.toInt from (Or.inr ⟨fun h => by obtain ⟨⟨h1, h2⟩, ⟨h3, h4⟩, h5, h6, h7, -⟩ := h; omega, rfl, rfl⟩)), (show (((mi 6).toInt = (mi 6).toInt + 1 ∧ BUP (mf 11) (mf 11) (mi 6).toInt 0) ∨ ((mi 6).toInt = (mi 6).toInt ∧ (mf 11) = (mf 11))) from (Or.inr ⟨rfl, rfl⟩))⟩ (Nat.le_of_ble_eq_true rfl) (Nat.le_of_ble_eq_true rfl) dX12_house_49
  · skip
    have ha_11 : (63 : Int32).toInt < z_place.toInt := ha_11
    rw [show (63 : Int32).toInt = 63 from by decide +kernel] at ha_11
    refine lv_if_eq (pc := 13) (tgt := 48) E.1 E.2.1 dX12_house_13 (by decide) (fun _ => ?_) (fun c_15 => absurd (meqE (a := 0) (b := 0) (by decide +kernel) (by decide +kernel) (by omega)) c_15)
    refine lv_iconst (pc := 48) (v := (-1)) E.1 E.2.1 dX12_house_48 (by decide +kernel) ?_
    exact em_i (w1 := (fun (u : Int32 × (Nat → Int32) × (Nat → Int32) × (Nat → Int32) × (Nat → Int32) × (Nat → Int32) × (Nat → Int32) × Int32 × Int32) => (MW cI cJ M mr (upd (upd (upd mi 0 u.1) 6 u.2.2.2.2.2.2.2.1) 3 u.2.2.2.2.2.2.2.2) (va_up (va_up (va_up (va_up (va_up (va_up mf 7 u.2.1) 8 u.2.2.1) 9 u.2.2.2.1) 10 u.2.2.2.2.1) 11 u.2.2.2.2.2.1) 1 u.2.2.2.2.2.2.1) mg))) E hr hlk (0, (mf 7), (mf 8), (mf 9), (mf 10), (mf 11), (mf 1), (mi 6), (mi 3)) hw8 ⟨h0, (by show (mi 6).toInt ≤ (mi 6).toInt; have k_0 : (0 : Int32).toInt = 0 := (by decide +kernel); have k_1 : ((-1) : Int32).toInt = -1 := (by decide +kernel); omega), (by show (mi 6).toInt ≤ (mi 6).toInt + 1; have k_0 : (0 : Int32).toInt = 0 := (by decide +kernel); have k_1 : ((-1) : Int32).toInt = -1 := (by decide +kernel); omega), h1, rfl, rfl, rfl, (show rowsOK (mi 3).toInt (mi 6).toInt (mf 2) from lf_rows), (show pplOK (mi 6).toInt (mf 8) from lf_people), (show HST (mi 6).toInt (mi 6).toInt (mf 7) (mf 7) z_place z_people.toInt z_oil.toInt from (Or.inr ⟨fun h => by obtain ⟨⟨h1, h2⟩, ⟨h3, h4⟩, h5, h6, h7, -⟩ := h; omega, rfl, rfl⟩)), (show (((mi 6).toInt = (mi 6).toInt + 1 ∧ BUP (mf 11) (mf 11) (mi 6).toInt 0) ∨ ((mi 6).toInt = (mi 6).toInt ∧ (mf 11) = (mf 11))) from (Or.inr ⟨rfl, rfl⟩))⟩ (Nat.le_of_ble_eq_true rfl) (Nat.le_of_ble_eq_true rfl) dX12_house_49
  · skip
    have ha_12 : (0 : Int32).toInt ≤ z_place.toInt := ha_12
    rw [show (0 : Int32).toInt = 0 from by decide +kernel] at ha_12
    have ha_13 : z_place.toInt ≤ (63 : Int32).toInt := ha_13
    rw [show (63 : Int32).toInt = 63 from by decide +kernel] at ha_13
    refine lv_if_eq (pc := 13) (tgt := 48) E.1 E.2.1 dX12_house_13 (by decide) (fun c_16 => absurd c_16 (mneE (a := 1) (b := 0) (by decide +kernel) (by decide +kernel) (by omega))) (fun _ => ?_)
    refine lv_aload_n (pc := 16) E.1 E.2.1 dX12_house_16 rfl (lv_at hl3 0 rfl) ?_
    refine lv_iload_n (pc := 17) E.1 E.2.1 dX12_house_17 rfl (lv_at hl3 2 rfl) ?_
    refine lv_iconst (pc := 18) (v := 1) E.1 E.2.1 dX12_house_18 (by decide +kernel) ?_
    refine lv_bipush (pc := 19) (v := 20) E.1 E.2.1 dX12_house_19 (by decide +kernel) ?_
    refine cm_i (pc := 21) hw8 (rn_M (As := [.int z_people, .int 1, .int 20]) (rest := []) E hw8 (s_isIn l D cI cJ _ M mr (upd mi 0 0) mf mg z_people 1 20) (gdV q_1622 q_1624 q_46 q_162 q_1625) hdV_X12_isIn ⟨rfl, rfl⟩ ⟨(Nat.le_of_ble_eq_true rfl), (Nat.le_of_ble_eq_true rfl)⟩ ⟨(Nat.le_of_ble_eq_true rfl), (Nat.le_of_ble_eq_true rfl)⟩ 12 rfl rfl rfl rfl hl3.1 rfl (Nat.le_of_ble_eq_true rfl) dX12_house_21) (fun r_18 u_17 H1 locs hp hw19 => ?_)
    generalize H1 = H at hw19 ⊢
    have hw20 : WD D A s.heap (MW cI cJ M mr (upd mi 0 0) mf mg) H locs := hw19
    have hp_21 := hp
    rcases hp_21 with ⟨rfl, ha_22⟩ | ⟨rfl, ha_23⟩ | ⟨rfl, ha_24, ha_25⟩
    · skip
      have ha_22 : z_people.toInt < (1 : Int32).toInt := ha_22
      rw [show (1 : Int32).toInt = 1 from by decide +kernel] at ha_22
      refine lv_if_eq (pc := 24) (tgt := 48) E.1 E.2.1 dX12_house_24 (by decide) (fun _ => ?_) (fun c_26 => absurd (meqE (a := 0) (b := 0) (by decide +kernel) (by decide +kernel) (by omega)) c_26)
      refine lv_iconst (pc := 48) (v := (-1)) E.1 E.2.1 dX12_house_48 (by decide +kernel) ?_
      exact em_i (w1 := (fun (u : Int32 × (Nat → Int32) × (Nat → Int32) × (Nat → Int32) × (Nat → Int32) × (Nat → Int32) × (Nat → Int32) × Int32 × Int32) => (MW cI cJ M mr (upd (upd (upd mi 0 u.1) 6 u.2.2.2.2.2.2.2.1) 3 u.2.2.2.2.2.2.2.2) (va_up (va_up (va_up (va_up (va_up (va_up mf 7 u.2.1) 8 u.2.2.1) 9 u.2.2.2.1) 10 u.2.2.2.2.1) 11 u.2.2.2.2.2.1) 1 u.2.2.2.2.2.2.1) mg))) E hr hlk (0, (mf 7), (mf 8), (mf 9), (mf 10), (mf 11), (mf 1), (mi 6), (mi 3)) hw20 ⟨h0, (by show (mi 6).toInt ≤ (mi 6).toInt; have k_0 : (0 : Int32).toInt = 0 := (by decide +kernel); have k_1 : ((-1) : Int32).toInt = -1 := (by decide +kernel); omega), (by show (mi 6).toInt ≤ (mi 6).toInt + 1; have k_0 : (0 : Int32).toInt = 0 := (by decide +kernel); have k_1 : ((-1) : Int32).toInt = -1 := (by decide +kernel); omega), h1, rfl, rfl, rfl, (show rowsOK (mi 3).toInt (mi 6).toInt (mf 2) from lf_rows), (show pplOK (mi 6).toInt (mf 8) from lf_people), (show HST (mi 6).toInt (mi 6).toInt (mf 7) (mf 7) z_place z_people.toInt z_oil.toInt from (Or.inr ⟨fun h => by obtain ⟨⟨h1, h2⟩, ⟨h3, h4⟩, h5, h6, h7, -⟩ := h; omega, rfl, rfl⟩)), (show (((mi 6).toInt = (mi 6).toInt + 1 ∧ BUP (mf 11) (mf 11) (mi 6).toInt 0) ∨ ((mi 6).toInt = (mi 6).toInt ∧ (mf 11) = (mf 11))) from (Or.inr ⟨rfl, rfl⟩))⟩ (Nat.le_of_ble_eq_true rfl) (Nat.le_of_ble_eq_true rfl) dX12_house_49
    · skip
      have ha_23 : (20 : Int32).toInt < z_people.toInt := ha_23
      rw [show (20 : Int32).toInt = 20 from by decide +kernel] at ha_23
      refine lv_if_eq (pc := 24) (tgt := 48) E.1 E.2.1 dX12_house_24 (by decide) (fun _ => ?_) (fun c_27 => absurd (meqE (a := 0) (b := 0) (by decide +kernel) (by decide +kernel) (by omega)) c_27)
      refine lv_iconst (pc := 48) (v := (-1)) E.1 E.2.1 dX12_house_48 (by decide +kernel) ?_
      exact em_i (w1 := (fun (u : Int32 × (Nat → Int32) × (Nat → Int32) × (Nat → Int32) × (Nat → Int32) × (Nat → Int32) × (Nat → Int32) × Int32 × Int32) => (MW cI cJ M mr (upd (upd (upd mi 0 u.1) 6 u.2.2.2.2.2.2.2.1) 3 u.2.2.2.2.2.2.2.2) (va_up (va_up (va_up (va_up (va_up (va_up mf 7 u.2.1) 8 u.2.2.1) 9 u.2.2.2.1) 10 u.2.2.2.2.1) 11 u.2.2.2.2.2.1) 1 u.2.2.2.2.2.2.1) mg))) E hr hlk (0, (mf 7), (mf 8), (mf 9), (mf 10), (mf 11), (mf 1), (mi 6), (mi 3)) hw20 ⟨h0, (by show (mi 6).toInt ≤ (mi 6).toInt; have k_0 : (0 : Int32).toInt = 0 := (by decide +kernel); have k_1 : ((-1) : Int32).toInt = -1 := (by decide +kernel); omega), (by show (mi 6).toInt ≤ (mi 6).toInt + 1; have k_0 : (0 : Int32).toInt = 0 := (by decide +kernel); have k_1 : ((-1) : Int32).toInt = -1 := (by decide +kernel); omega), h1, rfl, rfl, rfl, (show rowsOK (mi 3).toInt (mi 6).toInt (mf 2) from lf_rows), (show pplOK (mi 6).toInt (mf 8) from lf_people), (show HST (mi 6).toInt (mi 6).toInt (mf 7) (mf 7) z_place z_people.toInt z_oil.toInt from (Or.inr ⟨fun h => by obtain ⟨⟨h1, h2⟩, ⟨h3, h4⟩, h5, h6, h7, -⟩ := h; omega, rfl, rfl⟩)), (show (((mi 6).toInt = (mi 6).toInt + 1 ∧ BUP (mf 11) (mf 11) (mi 6).toInt 0) ∨ ((mi 6).toInt = (mi 6).toInt ∧ (mf 11) = (mf 11))) from (Or.inr ⟨rfl, rfl⟩))⟩ (Nat.le_of_ble_eq_true rfl) (Nat.le_of_ble_eq_true rfl) dX12_house_49
    · skip
      have ha_24 : (1 : Int32).toInt ≤ z_people.toInt := ha_24
      rw [show (1 : Int32).toInt = 1 from by decide +kernel] at ha_24
      have ha_25 : z_people.toInt ≤ (20 : Int32).toInt := ha_25
      rw [show (20 : Int32).toInt = 20 from by decide +kernel] at ha_25
      refine lv_if_eq (pc := 24) (tgt := 48) E.1 E.2.1 dX12_house_24 (by decide) (fun c_28 => absurd c_28 (mneE (a := 1) (b := 0) (by decide +kernel) (by decide +kernel) (by omega))) (fun _ => ?_)
      refine lv_aload_n (pc := 27) E.1 E.2.1 dX12_house_27 rfl (lv_at hl3 0 rfl) ?_
      refine lv_iload_n (pc := 28) E.1 E.2.1 dX12_house_28 rfl (lv_at hl3 3 rfl) ?_
      refine lv_iconst (pc := 29) (v := 0) E.1 E.2.1 dX12_house_29 (by decide +kernel) ?_
      refine lv_sipush (pc := 30) (v := 999) E.1 E.2.1 dX12_house_30 (by decide +kernel) ?_
      refine cm_i (pc := 33) hw20 (rn_M (As := [.int z_oil, .int 0, .int 999]) (rest := []) E hw20 (s_isIn l D cI cJ _ M mr (upd mi 0 0) mf mg z_oil 0 999) (gdV q_1622 q_1624 q_46 q_162 q_1625) hdV_X12_isIn ⟨rfl, rfl⟩ ⟨(Nat.le_of_ble_eq_true rfl), (Nat.le_of_ble_eq_true rfl)⟩ ⟨(Nat.le_of_ble_eq_true rfl), (Nat.le_of_ble_eq_true rfl)⟩ 12 rfl rfl rfl rfl hl3.1 rfl (Nat.le_of_ble_eq_true rfl) dX12_house_33) (fun r_30 u_29 H1 locs hp hw31 => ?_)
      generalize H1 = H at hw31 ⊢
      have hw32 : WD D A s.heap (MW cI cJ M mr (upd mi 0 0) mf mg) H locs := hw31
      have hp_33 := hp
      rcases hp_33 with ⟨rfl, ha_34⟩ | ⟨rfl, ha_35⟩ | ⟨rfl, ha_36, ha_37⟩
      · skip
        have ha_34 : z_oil.toInt < (0 : Int32).toInt := ha_34
        rw [show (0 : Int32).toInt = 0 from by decide +kernel] at ha_34
        refine lv_if_eq (pc := 36) (tgt := 48) E.1 E.2.1 dX12_house_36 (by decide) (fun _ => ?_) (fun c_38 => absurd (meqE (a := 0) (b := 0) (by decide +kernel) (by decide +kernel) (by omega)) c_38)
        refine lv_iconst (pc := 48) (v := (-1)) E.1 E.2.1 dX12_house_48 (by decide +kernel) ?_
        exact em_i (w1 := (fun (u : Int32 × (Nat → Int32) × (Nat → Int32) × (Nat → Int32) × (Nat → Int32) × (Nat → Int32) × (Nat → Int32) × Int32 × Int32) => (MW cI cJ M mr (upd (upd (upd mi 0 u.1) 6 u.2.2.2.2.2.2.2.1) 3 u.2.2.2.2.2.2.2.2) (va_up (va_up (va_up (va_up (va_up (va_up mf 7 u.2.1) 8 u.2.2.1) 9 u.2.2.2.1) 10 u.2.2.2.2.1) 11 u.2.2.2.2.2.1) 1 u.2.2.2.2.2.2.1) mg))) E hr hlk (0, (mf 7), (mf 8), (mf 9), (mf 10), (mf 11), (mf 1), (mi 6), (mi 3)) hw32 ⟨h0, (by show (mi 6).toInt ≤ (mi 6).toInt; have k_0 : (0 : Int32).toInt = 0 := (by decide +kernel); have k_1 : ((-1) : Int32).toInt = -1 := (by decide +kernel); omega), (by show (mi 6).toInt ≤ (mi 6).toInt + 1; have k_0 : (0 : Int32).toInt = 0 := (by decide +kernel); have k_1 : ((-1) : Int32).toInt = -1 := (by decide +kernel); omega), h1, rfl, rfl, rfl, (show rowsOK (mi 3).toInt (mi 6).toInt (mf 2) from lf_rows), (show pplOK (mi 6).toInt (mf 8) from lf_people), (show HST (mi 6).toInt (mi 6).toInt (mf 7) (mf 7) z_place z_people.toInt z_oil.toInt from (Or.inr ⟨fun h => by obtain ⟨⟨h1, h2⟩, ⟨h3, h4⟩, h5, h6, h7, -⟩ := h; omega, rfl, rfl⟩)), (show (((mi 6).toInt = (mi 6).toInt + 1 ∧ BUP (mf 11) (mf 11) (mi 6).toInt 0) ∨ ((mi 6).toInt = (mi 6).toInt ∧ (mf 11) = (mf 11))) from (Or.inr ⟨rfl, rfl⟩))⟩ (Nat.le_of_ble_eq_true rfl) (Nat.le_of_ble_eq_true rfl) dX12_house_49
      · skip
        have ha_35 : (999 : Int32).toInt < z_oil.toInt := ha_35
        rw [show (999 : Int32).toInt = 999 from by decide +kernel] at ha_35
        refine lv_if_eq (pc := 36) (tgt := 48) E.1 E.2.1 dX12_house_36 (by decide) (fun _ => ?_) (fun c_39 => absurd (meqE (a := 0) (b := 0) (by decide +kernel) (by decide +kernel) (by omega)) c_39)
        refine lv_iconst (pc := 48) (v := (-1)) E.1 E.2.1 dX12_house_48 (by decide +kernel) ?_
        exact em_i (w1 := (fun (u : Int32 × (Nat → Int32) × (Nat → Int32) × (Nat → Int32) × (Nat → Int32) × (Nat → Int32) × (Nat → Int32) × Int32 × Int32) => (MW cI cJ M mr (upd (upd (upd mi 0 u.1) 6 u.2.2.2.2.2.2.2.1) 3 u.2.2.2.2.2.2.2.2) (va_up (va_up (va_up (va_up (va_up (va_up mf 7 u.2.1) 8 u.2.2.1) 9 u.2.2.2.1) 10 u.2.2.2.2.1) 11 u.2.2.2.2.2.1) 1 u.2.2.2.2.2.2.1) mg))) E hr hlk (0, (mf 7), (mf 8), (mf 9), (mf 10), (mf 11), (mf 1), (mi 6), (mi 3)) hw32 ⟨h0, (by show (mi 6).toInt ≤ (mi 6).toInt; have k_0 : (0 : Int32).toInt = 0 := (by decide +kernel); have k_1 : ((-1) : Int32).toInt = -1 := (by decide +kernel); omega), (by show (mi 6).toInt ≤ (mi 6).toInt + 1; have k_0 : (0 : Int32).toInt = 0 := (by decide +kernel); have k_1 : ((-1) : Int32).toInt = -1 := (by decide +kernel); omega), h1, rfl, rfl, rfl, (show rowsOK (mi 3).toInt (mi 6).toInt (mf 2) from lf_rows), (show pplOK (mi 6).toInt (mf 8) from lf_people), (show HST (mi 6).toInt (mi 6).toInt (mf 7) (mf 7) z_place z_people.toInt z_oil.toInt from (Or.inr ⟨fun h => by obtain ⟨⟨h1, h2⟩, ⟨h3, h4⟩, h5, h6, h7, -⟩ := h; omega, rfl, rfl⟩)), (show (((mi 6).toInt = (mi 6).toInt + 1 ∧ BUP (mf 11) (mf 11) (mi 6).toInt 0) ∨ ((mi 6).toInt = (mi 6).toInt ∧ (mf 11) = (mf 11))) from (Or.inr ⟨rfl, rfl⟩))⟩ (Nat.le_of_ble_eq_true rfl) (Nat.le_of_ble_eq_true rfl) dX12_house_49
      · skip
        have ha_36 : (0 : Int32).toInt ≤ z_oil.toInt := ha_36
        rw [show (0 : Int32).toInt = 0 from by decide +kernel] at ha_36
        have ha_37 : z_oil.toInt ≤ (999 : Int32).toInt := ha_37
        rw [show (999 : Int32).toInt = 999 from by decide +kernel] at ha_37
        refine lv_if_eq (pc := 36) (tgt := 48) E.1 E.2.1 dX12_house_36 (by decide) (fun c_40 => absurd c_40 (mneE (a := 1) (b := 0) (by decide +kernel) (by decide +kernel) (by omega))) (fun _ => ?_)
        refine lv_aload_n (pc := 39) E.1 E.2.1 dX12_house_39 rfl (lv_at hl3 0 rfl) ?_
        refine x_get (pc := 40) (T := TX12) (N := 70) (ci := 12) (v := .int (mi 6)) E hw32 inX12 0 6 q_1405 rfl rfl (by decide) rfl rfl dX12_house_40 ?_
        refine lv_bipush (pc := 43) (v := 10) E.1 E.2.1 dX12_house_43 (by decide +kernel) ?_
        refine lv_icmp_ne (pc := 45) (tgt := 50) E.1 E.2.1 dX12_house_45 (by decide) (fun c_41 => ?_) (fun c_41 => ?_)
        · skip
          have hc_41 := neE (a := (mi 6).toInt) (b := 10) rfl (by decide +kernel) c_41
          refine lv_iconst (pc := 50) (v := 0) E.1 E.2.1 dX12_house_50 (by decide +kernel) ?_
          refine lv_istore (pc := 51) (lv' := [(4, .int 0), (0, .ref M), (1, .int z_place), (2, .int z_people), (3, .int z_oil)]) E.1 E.2.1 dX12_house_51 hl3 (by decide) rfl (fun ls hl42 => ?_)
          have loop_43 : ∀ (k : Nat) (x_44 : Int32) (H : Heap) (locs : List Loc) (ls : Array Slot), (0 ≤ x_44.toInt) ∧ (x_44.toInt ≤ (mi 6).toInt) ∧ (∀ j : Nat, (j : Int) < x_44.toInt → ((mf 7) j).toInt ≠ z_place.toInt) → (mi 6).toInt - x_44.toInt < (k : Int) → WD D A s.heap (MW cI cJ M mr (upd mi 0 0) mf mg) H locs → lv_has ls 5 [(4, .int x_44), (0, .ref M), (1, .int z_place), (2, .int z_people), (3, .int z_oil)] → W p l e ({ frames := 2, cells := 0, slots := 0, locals := 63 } : Room) s m ([.ref M, .int z_place, .int z_people, .int z_oil] : List Value).toArray below meth c H locs 0 0 (MQ below (va_Qi (fun (r : Int32) (u : Int32 × (Nat → Int32) × (Nat → Int32) × (Nat → Int32) × (Nat → Int32) × (Nat → Int32) × (Nat → Int32) × Int32 × Int32) => (0 ≤ u.2.2.2.2.2.2.2.1.toInt ∧ u.2.2.2.2.2.2.2.1.toInt ≤ 10) ∧ ((mi 6).toInt ≤ u.2.2.2.2.2.2.2.1.toInt) ∧ (u.2.2.2.2.2.2.2.1.toInt ≤ (mi 6).toInt + 1) ∧ (0 ≤ u.2.2.2.2.2.2.2.2.toInt ∧ u.2.2.2.2.2.2.2.2.toInt ≤ 6) ∧ ((u.2.2.2.2.2.2.1 2).toInt = ((mf 1) 2).toInt) ∧ ((u.2.2.2.2.2.2.1 3).toInt = ((mf 1) 3).toInt) ∧ ((u.2.2.2.2.2.2.1 5).toInt = ((mf 1) 5).toInt) ∧ (rowsOK u.2.2.2.2.2.2.2.2.toInt u.2.2.2.2.2.2.2.1.toInt (mf 2)) ∧ (pplOK u.2.2.2.2.2.2.2.1.toInt u.2.2.1) ∧ (HST (mi 6).toInt u.2.2.2.2.2.2.2.1.toInt (mf 7) u.2.1 z_place z_people.toInt z_oil.toInt) ∧ (((u.2.2.2.2.2.2.2.1.toInt = (mi 6).toInt + 1 ∧ BUP (mf 11) u.2.2.2.2.2.1 (mi 6).toInt 0) ∨ (u.2.2.2.2.2.2.2.1.toInt = (mi 6).toInt ∧ u.2.2.2.2.2.1 = (mf 11))))) (fun u => QW D cI cJ A ((fun (u : Int32 × (Nat → Int32) × (Nat → Int32) × (Nat → Int32) × (Nat → Int32) × (Nat → Int32) × (Nat → Int32) × Int32 × Int32) => (MW cI cJ M mr (upd (upd (upd mi 0 u.1) 6 u.2.2.2.2.2.2.2.1) 3 u.2.2.2.2.2.2.2.2) (va_up (va_up (va_up (va_up (va_up (va_up mf 7 u.2.1) 8 u.2.2.1) 9 u.2.2.2.1) 10 u.2.2.2.2.1) 11 u.2.2.2.2.2.1) 1 u.2.2.2.2.2.2.1) mg)) u)) A) ([.ref M, .int z_place, .int z_people, .int z_oil] : List Value).toArray s 0 0 A) (F0 m 53 ls []) := by
            intro k
            induction k with
            | zero =>
              intro x_44 _ _ _ hinv hm
              obtain ⟨hi_44_0, hi_44_1, hi_44_2⟩ := hinv
              exact absurd hm (by omega)
            | succ k ih_45 =>
              intro x_44 H locs ls hinv hm hw46 hl47
              obtain ⟨hi_44_0, hi_44_1, hi_44_2⟩ := hinv
              refine lv_iload (pc := 53) E.1 E.2.1 dX12_house_53 (lv_at hl47 0 rfl) ?_
              refine lv_aload_n (pc := 55) E.1 E.2.1 dX12_house_55 rfl (lv_at hl47 1 rfl) ?_
              refine x_get (pc := 56) (T := TX12) (N := 70) (ci := 12) (v := .int (mi 6)) E hw46 inX12 0 6 q_1405 rfl rfl (by decide) rfl rfl dX12_house_56 ?_
              refine lv_icmp_ge (pc := 59) (tgt := 81) E.1 E.2.1 dX12_house_59 (by decide) (fun c_48 => ?_) (fun c_48 => ?_)
              · skip
                have hc_48 := leE (a := (mi 6).toInt) (b := x_44.toInt) rfl rfl c_48
                refine lv_aload_n (pc := 81) E.1 E.2.1 dX12_house_81 rfl (lv_at hl47 1 rfl) ?_
                refine x_get (pc := 82) (T := TX12) (N := 70) (ci := 12) (v := .int (mi 6)) E hw46 inX12 0 6 q_1405 rfl rfl (by decide) rfl rfl dX12_house_82 ?_
                refine lv_istore (pc := 85) (lv' := [(4, .int (mi 6)), (0, .ref M), (1, .int z_place), (2, .int z_people), (3, .int z_oil)]) E.1 E.2.1 dX12_house_85 hl47 (by decide) rfl (fun ls hl49 => ?_)
                refine lv_aload_n (pc := 87) E.1 E.2.1 dX12_house_87 rfl (lv_at hl49 1 rfl) ?_
                refine x_get (pc := 88) (T := TX12) (N := 70) (ci := 12) (v := .ref (mr 7)) E hw46 inX12 0 7 q_1406 rfl rfl (by decide) rfl rfl dX12_house_88 ?_
                refine lv_iload (pc := 91) E.1 E.2.1 dX12_house_91 (lv_at hl49 0 rfl) ?_
                refine lv_iload_n (pc := 93) E.1 E.2.1 dX12_house_93 rfl (lv_at hl49 2 rfl) ?_
                refine x_iastG (pc := 94) (f := (mf 7)) (wf := fun g => (MW cI cJ M mr (upd mi 0 0) (va_up mf 7 g) mg)) E hw46 4 rfl (inbE (a := (mi 6).toInt) (n := 10) rfl (by omega)) (fun _ => rfl) dX12_house_94 (fun g_50 H locs eg_50 hw51 => ?_)
                refine lv_aload_n (pc := 95) E.1 E.2.1 dX12_house_95 rfl (lv_at hl49 1 rfl) ?_
                refine x_get (pc := 96) (T := TX12) (N := 70) (ci := 12) (v := .ref (mr 8)) E hw51 inX12 0 8 q_1407 rfl rfl (by decide) rfl rfl dX12_house_96 ?_
                refine lv_iload (pc := 99) E.1 E.2.1 dX12_house_99 (lv_at hl49 0 rfl) ?_
                refine lv_iload_n (pc := 101) E.1 E.2.1 dX12_house_101 rfl (lv_at hl49 3 rfl) ?_
                refine x_iastG (pc := 102) (f := (mf 8)) (wf := fun g => (MW cI cJ M mr (upd mi 0 0) (va_up (va_up mf 7 g_50) 8 g) mg)) E hw51 5 rfl (inbE (a := (mi 6).toInt) (n := 10) rfl (by omega)) (fun _ => rfl) dX12_house_102 (fun g_52 H locs eg_52 hw53 => ?_)
                refine lv_aload_n (pc := 103) E.1 E.2.1 dX12_house_103 rfl (lv_at hl49 1 rfl) ?_
                refine x_get (pc := 104) (T := TX12) (N := 70) (ci := 12) (v := .ref (mr 9)) E hw53 inX12 0 9 q_1408 rfl rfl (by decide) rfl rfl dX12_house_104 ?_
                refine lv_iload (pc := 107) E.1 E.2.1 dX12_house_107 (lv_at hl49 0 rfl) ?_
                refine lv_iconst (pc := 109) (v := 0) E.1 E.2.1 dX12_house_109 (by decide +kernel) ?_
                refine x_iastG (pc := 110) (f := (mf 9)) (wf := fun g => (MW cI cJ M mr (upd mi 0 0) (va_up (va_up (va_up mf 7 g_50) 8 g_52) 9 g) mg)) E hw53 6 rfl (inbE (a := (mi 6).toInt) (n := 10) rfl (by omega)) (fun _ => rfl) dX12_house_110 (fun g_54 H locs eg_54 hw55 => ?_)
                refine lv_aload_n (pc := 111) E.1 E.2.1 dX12_house_111 rfl (lv_at hl49 1 rfl) ?_
                refine x_get (pc := 112) (T := TX12) (N := 70) (ci := 12) (v := .ref (mr 10)) E hw55 inX12 0 10 q_1409 rfl rfl (by decide) rfl rfl dX12_house_112 ?_
                refine lv_iload (pc := 115) E.1 E.2.1 dX12_house_115 (lv_at hl49 0 rfl) ?_
                refine lv_iconst (pc := 117) (v := 0) E.1 E.2.1 dX12_house_117 (by decide +kernel) ?_
                refine x_iastG (pc := 118) (f := (mf 10)) (wf := fun g => (MW cI cJ M mr (upd mi 0 0) (va_up (va_up (va_up (va_up mf 7 g_50) 8 g_52) 9 g_54) 10 g) mg)) E hw55 7 rfl (inbE (a := (mi 6).toInt) (n := 10) rfl (by omega)) (fun _ => rfl) dX12_house_118 (fun g_56 H locs eg_56 hw57 => ?_)
                refine lv_aload_n (pc := 119) E.1 E.2.1 dX12_house_119 rfl (lv_at hl49 1 rfl) ?_
                refine x_get (pc := 120) (T := TX12) (N := 70) (ci := 12) (v := .ref (mr 11)) E hw57 inX12 0 11 q_1410 rfl rfl (by decide) rfl rfl dX12_house_120 ?_
                refine lv_iload (pc := 123) E.1 E.2.1 dX12_house_123 (lv_at hl49 0 rfl) ?_
                refine lv_iconst (pc := 125) (v := 0) E.1 E.2.1 dX12_house_125 (by decide +kernel) ?_
                refine x_iastG (pc := 126) (f := (mf 11)) (wf := fun g => (MW cI cJ M mr (upd mi 0 0) (va_up (va_up (va_up (va_up (va_up mf 7 g_50) 8 g_52) 9 g_54) 10 g_56) 11 g) mg)) E hw57 8 rfl (inbE (a := (mi 6).toInt) (n := 10) rfl (by omega)) (fun _ => rfl) dX12_house_126 (fun g_58 H locs eg_58 hw59 => ?_)
                refine lv_aload_n (pc := 127) E.1 E.2.1 dX12_house_127 rfl (lv_at hl49 1 rfl) ?_
                refine x_get (pc := 128) (T := TX12) (N := 70) (ci := 12) (v := .ref (mr 1)) E hw59 inX12 0 1 q_1400 rfl rfl (by decide) rfl rfl dX12_house_128 ?_
                refine lv_bipush (pc := 131) (v := 6) E.1 E.2.1 dX12_house_131 (by decide +kernel) ?_
                refine lv_iload (pc := 133) E.1 E.2.1 dX12_house_133 (lv_at hl49 0 rfl) ?_
                refine lv_iadd (pc := 135) E.1 E.2.1 dX12_house_135 ?_
                refine lv_topi (fun v_60 ev_60 => ?_)
                have hv_60 : v_60.toInt = 6 + (mi 6).toInt := by rw [ev_60]; exact addE (by decide +kernel) rfl (by omega)
                refine lv_iload_n (pc := 136) E.1 E.2.1 dX12_house_136 rfl (lv_at hl49 4 rfl) ?_
                refine x_iastG (pc := 137) (f := (mf 1)) (wf := fun g => (MW cI cJ M mr (upd mi 0 0) (va_up (va_up (va_up (va_up (va_up (va_up mf 1 g) 7 g_50) 8 g_52) 9 g_54) 10 g_56) 11 g_58) mg)) E hw59 1 rfl (inbE (a := v_60.toInt) (n := 66) rfl (by omega)) (fun _ => rfl) dX12_house_137 (fun g_61 H locs eg_61 hw62 => ?_)
                have ht_63 : (g_61 2).toInt = ((mf 1) 2).toInt := by rw [eg_61, pk_un (by have q9 := idxI (x := v_60) (by omega); omega)]
                have ht_64 : (g_61 3).toInt = ((mf 1) 3).toInt := by rw [eg_61, pk_un (by have q9 := idxI (x := v_60) (by omega); omega)]
                have ht_65 : (g_61 5).toInt = ((mf 1) 5).toInt := by rw [eg_61, pk_un (by have q9 := idxI (x := v_60) (by omega); omega)]
                refine lv_aload_n (pc := 138) E.1 E.2.1 dX12_house_138 rfl (lv_at hl49 1 rfl) ?_
                refine x_get (pc := 139) (T := TX12) (N := 70) (ci := 12) (v := .ref (mr 1)) E hw62 inX12 0 1 q_1400 rfl rfl (by decide) rfl rfl dX12_house_139 ?_
                refine lv_bipush (pc := 142) (v := 16) E.1 E.2.1 dX12_house_142 (by decide +kernel) ?_
                refine lv_iload (pc := 144) E.1 E.2.1 dX12_house_144 (lv_at hl49 0 rfl) ?_
                refine lv_iadd (pc := 146) E.1 E.2.1 dX12_house_146 ?_
                refine lv_topi (fun v_66 ev_66 => ?_)
                have hv_66 : v_66.toInt = 16 + (mi 6).toInt := by rw [ev_66]; exact addE (by decide +kernel) rfl (by omega)
                refine lv_iconst (pc := 147) (v := 0) E.1 E.2.1 dX12_house_147 (by decide +kernel) ?_
                refine x_iastG (pc := 148) (f := g_61) (wf := fun g => (MW cI cJ M mr (upd mi 0 0) (va_up (va_up (va_up (va_up (va_up (va_up mf 1 g) 7 g_50) 8 g_52) 9 g_54) 10 g_56) 11 g_58) mg)) E hw62 1 rfl (inbE (a := v_66.toInt) (n := 66) rfl (by omega)) (fun _ => rfl) dX12_house_148 (fun g_67 H locs eg_67 hw68 => ?_)
                have ht_69 : (g_67 2).toInt = (g_61 2).toInt := by rw [eg_67, pk_un (by have q9 := idxI (x := v_66) (by omega); omega)]
                have ht_70 : (g_67 3).toInt = (g_61 3).toInt := by rw [eg_67, pk_un (by have q9 := idxI (x := v_66) (by omega); omega)]
                have ht_71 : (g_67 5).toInt = (g_61 5).toInt := by rw [eg_67, pk_un (by have q9 := idxI (x := v_66) (by omega); omega)]
                refine lv_aload_n (pc := 149) E.1 E.2.1 dX12_house_149 rfl (lv_at hl49 1 rfl) ?_
                refine x_get (pc := 150) (T := TX12) (N := 70) (ci := 12) (v := .ref (mr 1)) E hw68 inX12 0 1 q_1400 rfl rfl (by decide) rfl rfl dX12_house_150 ?_
                refine lv_bipush (pc := 153) (v := 26) E.1 E.2.1 dX12_house_153 (by decide +kernel) ?_
                refine lv_iload (pc := 155) E.1 E.2.1 dX12_house_155 (lv_at hl49 0 rfl) ?_
                refine lv_iadd (pc := 157) E.1 E.2.1 dX12_house_157 ?_
                refine lv_topi (fun v_72 ev_72 => ?_)
                have hv_72 : v_72.toInt = 26 + (mi 6).toInt := by rw [ev_72]; exact addE (by decide +kernel) rfl (by omega)
                refine lv_iconst (pc := 158) (v := 0) E.1 E.2.1 dX12_house_158 (by decide +kernel) ?_
                refine x_iastG (pc := 159) (f := g_67) (wf := fun g => (MW cI cJ M mr (upd mi 0 0) (va_up (va_up (va_up (va_up (va_up (va_up mf 1 g) 7 g_50) 8 g_52) 9 g_54) 10 g_56) 11 g_58) mg)) E hw68 1 rfl (inbE (a := v_72.toInt) (n := 66) rfl (by omega)) (fun _ => rfl) dX12_house_159 (fun g_73 H locs eg_73 hw74 => ?_)
                have ht_75 : (g_73 2).toInt = (g_67 2).toInt := by rw [eg_73, pk_un (by have q9 := idxI (x := v_72) (by omega); omega)]
                have ht_76 : (g_73 3).toInt = (g_67 3).toInt := by rw [eg_73, pk_un (by have q9 := idxI (x := v_72) (by omega); omega)]
                have ht_77 : (g_73 5).toInt = (g_67 5).toInt := by rw [eg_73, pk_un (by have q9 := idxI (x := v_72) (by omega); omega)]
                refine lv_aload_n (pc := 160) E.1 E.2.1 dX12_house_160 rfl (lv_at hl49 1 rfl) ?_
                refine x_get (pc := 161) (T := TX12) (N := 70) (ci := 12) (v := .ref (mr 1)) E hw74 inX12 0 1 q_1400 rfl rfl (by decide) rfl rfl dX12_house_161 ?_
                refine lv_bipush (pc := 164) (v := 36) E.1 E.2.1 dX12_house_164 (by decide +kernel) ?_
                refine lv_iload (pc := 166) E.1 E.2.1 dX12_house_166 (lv_at hl49 0 rfl) ?_
                refine lv_iadd (pc := 168) E.1 E.2.1 dX12_house_168 ?_
                refine lv_topi (fun v_78 ev_78 => ?_)
                have hv_78 : v_78.toInt = 36 + (mi 6).toInt := by rw [ev_78]; exact addE (by decide +kernel) rfl (by omega)
                refine lv_iconst (pc := 169) (v := 0) E.1 E.2.1 dX12_house_169 (by decide +kernel) ?_
                refine x_iastG (pc := 170) (f := g_73) (wf := fun g => (MW cI cJ M mr (upd mi 0 0) (va_up (va_up (va_up (va_up (va_up (va_up mf 1 g) 7 g_50) 8 g_52) 9 g_54) 10 g_56) 11 g_58) mg)) E hw74 1 rfl (inbE (a := v_78.toInt) (n := 66) rfl (by omega)) (fun _ => rfl) dX12_house_170 (fun g_79 H locs eg_79 hw80 => ?_)
                have ht_81 : (g_79 2).toInt = (g_73 2).toInt := by rw [eg_79, pk_un (by have q9 := idxI (x := v_78) (by omega); omega)]
                have ht_82 : (g_79 3).toInt = (g_73 3).toInt := by rw [eg_79, pk_un (by have q9 := idxI (x := v_78) (by omega); omega)]
                have ht_83 : (g_79 5).toInt = (g_73 5).toInt := by rw [eg_79, pk_un (by have q9 := idxI (x := v_78) (by omega); omega)]
                refine lv_aload_n (pc := 171) E.1 E.2.1 dX12_house_171 rfl (lv_at hl49 1 rfl) ?_
                refine lv_aload_n (pc := 172) E.1 E.2.1 dX12_house_172 rfl (lv_at hl49 1 rfl) ?_
                refine x_get (pc := 173) (T := TX12) (N := 70) (ci := 12) (v := .int (mi 6)) E hw80 inX12 0 6 q_1405 rfl rfl (by decide) rfl rfl dX12_house_173 ?_
                refine lv_iconst (pc := 176) (v := 1) E.1 E.2.1 dX12_house_176 (by decide +kernel) ?_
                refine lv_iadd (pc := 177) E.1 E.2.1 dX12_house_177 ?_
                refine lv_topi (fun v_84 ev_84 => ?_)
                have hv_84 : v_84.toInt = (mi 6).toInt + 1 := by rw [ev_84]; exact addE rfl (by decide +kernel) (by omega)
                refine x_put (pc := 178) (T := TX12) (N := 70) (ci := 12) (ws' := (MW cI cJ M mr (upd (upd mi 0 0) 6 v_84) (va_up (va_up (va_up (va_up (va_up (va_up mf 1 g_79) 7 g_50) 8 g_52) 9 g_54) 10 g_56) 11 g_58) mg)) E hw80 inX12 tyX12_ok nmX12 0 6 q_1405 rfl rfl (by decide) rfl rfl rfl rfl (Nat.le_of_ble_eq_true rfl) rfl dX12_house_178 (fun H locs hw85 => ?_)
                refine lv_aload_n (pc := 181) E.1 E.2.1 dX12_house_181 rfl (lv_at hl49 1 rfl) ?_
                refine lv_iconst (pc := 182) (v := 0) E.1 E.2.1 dX12_house_182 (by decide +kernel) ?_
                refine x_put (pc := 183) (T := TX12) (N := 70) (ci := 12) (ws' := (MW cI cJ M mr (upd (upd (upd mi 0 0) 3 0) 6 v_84) (va_up (va_up (va_up (va_up (va_up (va_up mf 1 g_79) 7 g_50) 8 g_52) 9 g_54) 10 g_56) 11 g_58) mg)) E hw85 inX12 tyX12_ok nmX12 0 3 q_1402 rfl rfl (by decide) rfl rfl rfl rfl (Nat.le_of_ble_eq_true rfl) rfl dX12_house_183 (fun H locs hw86 => ?_)
                refine lv_iload (pc := 186) E.1 E.2.1 dX12_house_186 (lv_at hl49 0 rfl) ?_
                exact em_i (w1 := (fun (u : Int32 × (Nat → Int32) × (Nat → Int32) × (Nat → Int32) × (Nat → Int32) × (Nat → Int32) × (Nat → Int32) × Int32 × Int32) => (MW cI cJ M mr (upd (upd (upd mi 0 u.1) 6 u.2.2.2.2.2.2.2.1) 3 u.2.2.2.2.2.2.2.2) (va_up (va_up (va_up (va_up (va_up (va_up mf 7 u.2.1) 8 u.2.2.1) 9 u.2.2.2.1) 10 u.2.2.2.2.1) 11 u.2.2.2.2.2.1) 1 u.2.2.2.2.2.2.1) mg))) E hr hlk (0, g_50, g_52, g_54, g_56, g_58, g_79, v_84, 0) hw86 ⟨(by show 0 ≤ v_84.toInt ∧ v_84.toInt ≤ 10; have k_0 : (0 : Int32).toInt = 0 := (by decide +kernel); have k_1 : (0 : Int32).toInt = 0 := (by decide +kernel); omega), (by show (mi 6).toInt ≤ v_84.toInt; have k_0 : (0 : Int32).toInt = 0 := (by decide +kernel); have k_1 : (0 : Int32).toInt = 0 := (by decide +kernel); omega), (by show v_84.toInt ≤ (mi 6).toInt + 1; have k_0 : (0 : Int32).toInt = 0 := (by decide +kernel); have k_1 : (0 : Int32).toInt = 0 := (by decide +kernel); omega), (by show 0 ≤ (0 : Int32).toInt ∧ (0 : Int32).toInt ≤ 6; have k_0 : (0 : Int32).toInt = 0 := (by decide +kernel); have k_1 : (0 : Int32).toInt = 0 := (by decide +kernel); omega), (by show (g_79 2).toInt = ((mf 1) 2).toInt; have k_0 : (0 : Int32).toInt = 0 := (by decide +kernel); have k_1 : (0 : Int32).toInt = 0 := (by decide +kernel); omega), (by show (g_79 3).toInt = ((mf 1) 3).toInt; have k_0 : (0 : Int32).toInt = 0 := (by decide +kernel); have k_1 : (0 : Int32).toInt = 0 := (by decide +kernel); omega), (by show (g_79 5).toInt = ((mf 1) 5).toInt; have k_0 : (0 : Int32).toInt = 0 := (by decide +kernel); have k_1 : (0 : Int32).toInt = 0 := (by decide +kernel); omega), (show rowsOK (0 : Int32).toInt v_84.toInt (mf 2) from (rowsOK_nil (by decide +kernel))), (show pplOK v_84.toInt g_52 from (pplOK_add lf_people eg_52 (by omega) (by omega) (by omega) (by omega))), (show HST (mi 6).toInt v_84.toInt (mf 7) g_50 z_place z_people.toInt z_oil.toInt from (Or.inl ⟨⟨⟨by omega, by omega⟩, ⟨by omega, by omega⟩, by omega, by omega, by omega, fun j hj => hi_44_2 j (by omega)⟩, by omega, hst_w eg_50 (by omega) rfl⟩)), (show ((v_84.toInt = (mi 6).toInt + 1 ∧ BUP (mf 11) g_58 (mi 6).toInt 0) ∨ (v_84.toInt = (mi 6).toInt ∧ g_58 = (mf 11))) from (Or.inl ⟨by omega, hst_w eg_58 (by omega) rfl⟩))⟩ (Nat.le_of_ble_eq_true rfl) (Nat.le_of_ble_eq_true rfl) dX12_house_188
              · skip
                have hc_48 := nleE (a := (mi 6).toInt) (b := x_44.toInt) rfl rfl c_48
                refine lv_aload_n (pc := 62) E.1 E.2.1 dX12_house_62 rfl (lv_at hl47 1 rfl) ?_
                refine x_get (pc := 63) (T := TX12) (N := 70) (ci := 12) (v := .ref (mr 7)) E hw46 inX12 0 7 q_1406 rfl rfl (by decide) rfl rfl dX12_house_63 ?_
                refine lv_iload (pc := 66) E.1 E.2.1 dX12_house_66 (lv_at hl47 0 rfl) ?_
                refine x_iald (pc := 68) (f := (mf 7)) E hw46 4 rfl (inbE (a := x_44.toInt) (n := 10) rfl (by omega)) dX12_house_68 ?_
                refine lv_topi (fun v_87 ev_87 => ?_)
                refine lv_iload_n (pc := 69) E.1 E.2.1 dX12_house_69 rfl (lv_at hl47 2 rfl) ?_
                refine lv_icmp_ne (pc := 70) (tgt := 75) E.1 E.2.1 dX12_house_70 (by decide) (fun c_88 => ?_) (fun c_88 => ?_)
                · skip
                  have hc_88 := neE (a := v_87.toInt) (b := z_place.toInt) rfl rfl c_88
                  obtain ⟨v_89, ev_89⟩ : ∃ z : Int32, x_44 + Int32.ofInt (1) = z := ⟨_, rfl⟩
                  have hv_89 : v_89.toInt = x_44.toInt + (1) := by rw [← ev_89]; exact incE rfl (by decide) (by omega)
                  refine lv_iinc (pc := 75) (v := v_89) (lv' := [(4, .int v_89), (0, .ref M), (1, .int z_place), (2, .int z_people), (3, .int z_oil)]) E.1 E.2.1 dX12_house_75 hl47 (k := 0) rfl ev_89 (by decide) rfl (fun ls hl90 => ?_)
                  refine lv_goto (pc := 78) (tgt := 53) E.1 E.2.1 dX12_house_78 (by decide) ?_
                  exact ih_45 v_89 _ _ _ ⟨(by show 0 ≤ v_89.toInt; omega), (by show v_89.toInt ≤ (mi 6).toInt; omega), (free_step hi_44_2 ev_87 (by omega) rfl (by omega) (m := v_89.toInt) (by omega))⟩ (by omega) hw46 (lv_sub hl90 [0, 1, 2, 3, 4] rfl)
                · skip
                  have hc_88 := eqE (a := v_87.toInt) (b := z_place.toInt) rfl rfl c_88
                  refine lv_iconst (pc := 73) (v := (-1)) E.1 E.2.1 dX12_house_73 (by decide +kernel) ?_
                  exact em_i (w1 := (fun (u : Int32 × (Nat → Int32) × (Nat → Int32) × (Nat → Int32) × (Nat → Int32) × (Nat → Int32) × (Nat → Int32) × Int32 × Int32) => (MW cI cJ M mr (upd (upd (upd mi 0 u.1) 6 u.2.2.2.2.2.2.2.1) 3 u.2.2.2.2.2.2.2.2) (va_up (va_up (va_up (va_up (va_up (va_up mf 7 u.2.1) 8 u.2.2.1) 9 u.2.2.2.1) 10 u.2.2.2.2.1) 11 u.2.2.2.2.2.1) 1 u.2.2.2.2.2.2.1) mg))) E hr hlk (0, (mf 7), (mf 8), (mf 9), (mf 10), (mf 11), (mf 1), (mi 6), (mi 3)) hw46 ⟨h0, (by show (mi 6).toInt ≤ (mi 6).toInt; have k_0 : (0 : Int32).toInt = 0 := (by decide +kernel); have k_1 : ((-1) : Int32).toInt = -1 := (by decide +kernel); omega), (by show (mi 6).toInt ≤ (mi 6).toInt + 1; have k_0 : (0 : Int32).toInt = 0 := (by decide +kernel); have k_1 : ((-1) : Int32).toInt = -1 := (by decide +kernel); omega), h1, rfl, rfl, rfl, (show rowsOK (mi 3).toInt (mi 6).toInt (mf 2) from lf_rows), (show pplOK (mi 6).toInt (mf 8) from lf_people), (show HST (mi 6).toInt (mi 6).toInt (mf 7) (mf 7) z_place z_people.toInt z_oil.toInt from (Or.inr ⟨fun h => (free_hit h.2.2.2 ev_87 (by omega) (by omega) (by omega)).elim, rfl, rfl⟩)), (show (((mi 6).toInt = (mi 6).toInt + 1 ∧ BUP (mf 11) (mf 11) (mi 6).toInt 0) ∨ ((mi 6).toInt = (mi 6).toInt ∧ (mf 11) = (mf 11))) from (Or.inr ⟨rfl, rfl⟩))⟩ (Nat.le_of_ble_eq_true rfl) (Nat.le_of_ble_eq_true rfl) dX12_house_74
          exact loop_43 (Int.toNat ((mi 6).toInt - 0) + 1) 0 _ _ _ ⟨(by show 0 ≤ (0 : Int32).toInt; have k_0 : (0 : Int32).toInt = 0 := (by decide +kernel); omega), (by show (0 : Int32).toInt ≤ (mi 6).toInt; have k_0 : (0 : Int32).toInt = 0 := (by decide +kernel); omega), (fun j hj => absurd hj (by have k0 : (0 : Int32).toInt = 0 := (by decide +kernel); omega))⟩ (by have k_0 : (0 : Int32).toInt = 0 := (by decide +kernel); omega) hw32 (lv_sub hl42 [0, 1, 2, 3, 4] rfl)
        · skip
          have hc_41 := eqE (a := (mi 6).toInt) (b := 10) rfl (by decide +kernel) c_41
          refine lv_iconst (pc := 48) (v := (-1)) E.1 E.2.1 dX12_house_48 (by decide +kernel) ?_
          exact em_i (w1 := (fun (u : Int32 × (Nat → Int32) × (Nat → Int32) × (Nat → Int32) × (Nat → Int32) × (Nat → Int32) × (Nat → Int32) × Int32 × Int32) => (MW cI cJ M mr (upd (upd (upd mi 0 u.1) 6 u.2.2.2.2.2.2.2.1) 3 u.2.2.2.2.2.2.2.2) (va_up (va_up (va_up (va_up (va_up (va_up mf 7 u.2.1) 8 u.2.2.1) 9 u.2.2.2.1) 10 u.2.2.2.2.1) 11 u.2.2.2.2.2.1) 1 u.2.2.2.2.2.2.1) mg))) E hr hlk (0, (mf 7), (mf 8), (mf 9), (mf 10), (mf 11), (mf 1), (mi 6), (mi 3)) hw32 ⟨h0, (by show (mi 6).toInt ≤ (mi 6).toInt; have k_0 : (0 : Int32).toInt = 0 := (by decide +kernel); have k_1 : ((-1) : Int32).toInt = -1 := (by decide +kernel); omega), (by show (mi 6).toInt ≤ (mi 6).toInt + 1; have k_0 : (0 : Int32).toInt = 0 := (by decide +kernel); have k_1 : ((-1) : Int32).toInt = -1 := (by decide +kernel); omega), h1, rfl, rfl, rfl, (show rowsOK (mi 3).toInt (mi 6).toInt (mf 2) from lf_rows), (show pplOK (mi 6).toInt (mf 8) from lf_people), (show HST (mi 6).toInt (mi 6).toInt (mf 7) (mf 7) z_place z_people.toInt z_oil.toInt from (Or.inr ⟨fun h => by obtain ⟨⟨h1, h2⟩, ⟨h3, h4⟩, h5, h6, h7, -⟩ := h; omega, rfl, rfl⟩)), (show (((mi 6).toInt = (mi 6).toInt + 1 ∧ BUP (mf 11) (mf 11) (mi 6).toInt 0) ∨ ((mi 6).toInt = (mi 6).toInt ∧ (mf 11) = (mf 11))) from (Or.inr ⟨rfl, rfl⟩))⟩ (Nat.le_of_ble_eq_true rfl) (Nat.le_of_ble_eq_true rfl) dX12_house_49
set_option maxHeartbeats 4000000 in
set_option maxRecDepth 100000 in
theorem s_clueB (l : Launch) (D : va_G) (cI cJ : ClassId) (sz M : Nat) (mr : Nat → Nat) (mi : Nat → Int32) (mf : Nat → Nat → Int32) (mg : Nat → Nat → Int64) (z_night : Int32) (z_set : Int32) (h0 : 0 ≤ (mi 6).toInt ∧ (mi 6).toInt ≤ 10) (h1 : 0 ≤ (mi 17).toInt ∧ (mi 17).toInt ≤ 8) : Met l yX12_clue (Cond.code yX12_clue cX12_clue 3 (some .int) :: GW) ({ frames := 2, cells := 0, slots := 0, locals := 63 } : Room) (va_Pc [.ref M, .int z_night, .int z_set] (PW D cI cJ sz (MW cI cJ M mr mi mf mg) xT)) (va_Qi (fun (r : Int32) (u : Int32 × Int32 × (Nat → Int32) × (Nat → Int32)) => (0 ≤ u.2.1.toInt ∧ u.2.1.toInt ≤ 8) ∧ (CST (sh1 (mi 6)) z_night.toInt z_set.toInt (mi 17).toInt u.2.1.toInt (r : Int32).toInt)) (fun u => QW D cI cJ (va_A (MW cI cJ M mr mi mf mg) sz) ((fun (u : Int32 × Int32 × (Nat → Int32) × (Nat → Int32)) => (MW cI cJ M mr (upd (upd mi 0 u.1) 17 u.2.1) (va_up (va_up mf 18 u.2.2.1) 19 u.2.2.2) mg)) u)) (va_A (MW cI cJ M mr mi mf mg) sz)) 0 0 (va_A (MW cI cJ M mr mi mf mg) sz) := by
  refine mk_met (y := yX12_clue) (bytes := cX12_clue) (maxL := 3) (avs := [.ref M, .int z_night, .int z_set]) (WS := (MW cI cJ M mr mi mf mg)) (Qf := fun A => va_Qi (fun (r : Int32) (u : Int32 × Int32 × (Nat → Int32) × (Nat → Int32)) => (0 ≤ u.2.1.toInt ∧ u.2.1.toInt ≤ 8) ∧ (CST (sh1 (mi 6)) z_night.toInt z_set.toInt (mi 17).toInt u.2.1.toInt (r : Int32).toInt)) (fun u => QW D cI cJ A ((fun (u : Int32 × Int32 × (Nat → Int32) × (Nat → Int32)) => (MW cI cJ M mr (upd (upd mi 0 u.1) 17 u.2.1) (va_up (va_up mf 18 u.2.2.1) 19 u.2.2.2) mg)) u)) A) (by decide) (Nat.le_of_ble_eq_true rfl) ?_
  intro p e s m below meth c A ls E hr hlk hnm hX hw1 hl2
  have hl3 : lv_has ls 3 [(0, .ref M), (1, .int z_night), (2, .int z_set)] := hl2
  refine lv_aload_n (pc := 0) E.1 E.2.1 dX12_clue_0 rfl (lv_at hl3 0 rfl) ?_
  refine lv_iconst (pc := 1) (v := 0) E.1 E.2.1 dX12_clue_1 (by decide +kernel) ?_
  refine x_put (pc := 2) (T := TX12) (N := 70) (ci := 12) (ws' := (MW cI cJ M mr (upd mi 0 0) mf mg)) E hw1 inX12 tyX12_ok nmX12 0 0 q_1399 rfl rfl (by decide) rfl rfl rfl rfl (Nat.le_of_ble_eq_true rfl) rfl dX12_clue_2 (fun H locs hw4 => ?_)
  refine lv_iload_n (pc := 5) E.1 E.2.1 dX12_clue_5 rfl (lv_at hl3 1 rfl) ?_
  refine lv_iconst (pc := 6) (v := (-1)) E.1 E.2.1 dX12_clue_6 (by decide +kernel) ?_
  refine lv_icmp_ne (pc := 7) (tgt := 17) E.1 E.2.1 dX12_clue_7 (by decide) (fun c_5 => ?_) (fun c_5 => ?_)
  · skip
    have hc_5 := neE (a := z_night.toInt) (b := (-1)) rfl (by decide +kernel) c_5
    refine lv_aload_n (pc := 17) E.1 E.2.1 dX12_clue_17 rfl (lv_at hl3 0 rfl) ?_
    refine lv_iload_n (pc := 18) E.1 E.2.1 dX12_clue_18 rfl (lv_at hl3 1 rfl) ?_
    refine lv_iconst (pc := 19) (v := 0) E.1 E.2.1 dX12_clue_19 (by decide +kernel) ?_
    refine lv_bipush (pc := 20) (v := 9) E.1 E.2.1 dX12_clue_20 (by decide +kernel) ?_
    refine cm_i (pc := 22) hw4 (rn_M (As := [.int z_night, .int 0, .int 9]) (rest := []) E hw4 (s_isIn l D cI cJ _ M mr (upd mi 0 0) mf mg z_night 0 9) (gdV q_1622 q_1624 q_46 q_162 q_1625) hdV_X12_isIn ⟨rfl, rfl⟩ ⟨(Nat.le_of_ble_eq_true rfl), (Nat.le_of_ble_eq_true rfl)⟩ ⟨(Nat.le_of_ble_eq_true rfl), (Nat.le_of_ble_eq_true rfl)⟩ 12 rfl rfl rfl rfl hl3.1 rfl (Nat.le_of_ble_eq_true rfl) dX12_clue_22) (fun r_7 u_6 H1 locs hp hw8 => ?_)
    generalize H1 = H at hw8 ⊢
    have hw9 : WD D A s.heap (MW cI cJ M mr (upd mi 0 0) mf mg) H locs := hw8
    have hp_10 := hp
    rcases hp_10 with ⟨rfl, ha_11⟩ | ⟨rfl, ha_12⟩ | ⟨rfl, ha_13, ha_14⟩
    · skip
      have ha_11 : z_night.toInt < (0 : Int32).toInt := ha_11
      rw [show (0 : Int32).toInt = 0 from by decide +kernel] at ha_11
      refine lv_if_eq (pc := 25) (tgt := 52) E.1 E.2.1 dX12_clue_25 (by decide) (fun _ => ?_) (fun c_15 => absurd (meqE (a := 0) (b := 0) (by decide +kernel) (by decide +kernel) (by omega)) c_15)
      refine lv_iconst (pc := 52) (v := (-1)) E.1 E.2.1 dX12_clue_52 (by decide +kernel) ?_
      exact em_i (w1 := (fun (u : Int32 × Int32 × (Nat → Int32) × (Nat → Int32)) => (MW cI cJ M mr (upd (upd mi 0 u.1) 17 u.2.1) (va_up (va_up mf 18 u.2.2.1) 19 u.2.2.2) mg))) E hr hlk (0, (mi 17), (mf 18), (mf 19)) hw9 ⟨h1, (show CST (sh1 (mi 6)) z_night.toInt z_set.toInt (mi 17).toInt (mi 17).toInt ((-1) : Int32).toInt from (Or.inr (Or.inr ⟨by omega, fun h => by obtain ⟨⟨h1, h2⟩, h3, h4, h5⟩ := h; omega, by decide +kernel, rfl⟩)))⟩ (Nat.le_of_ble_eq_true rfl) (Nat.le_of_ble_eq_true rfl) dX12_clue_53
    · skip
      have ha_12 : (9 : Int32).toInt < z_night.toInt := ha_12
      rw [show (9 : Int32).toInt = 9 from by decide +kernel] at ha_12
      refine lv_if_eq (pc := 25) (tgt := 52) E.1 E.2.1 dX12_clue_25 (by decide) (fun _ => ?_) (fun c_16 => absurd (meqE (a := 0) (b := 0) (by decide +kernel) (by decide +kernel) (by omega)) c_16)
      refine lv_iconst (pc := 52) (v := (-1)) E.1 E.2.1 dX12_clue_52 (by decide +kernel) ?_
      exact em_i (w1 := (fun (u : Int32 × Int32 × (Nat → Int32) × (Nat → Int32)) => (MW cI cJ M mr (upd (upd mi 0 u.1) 17 u.2.1) (va_up (va_up mf 18 u.2.2.1) 19 u.2.2.2) mg))) E hr hlk (0, (mi 17), (mf 18), (mf 19)) hw9 ⟨h1, (show CST (sh1 (mi 6)) z_night.toInt z_set.toInt (mi 17).toInt (mi 17).toInt ((-1) : Int32).toInt from (Or.inr (Or.inr ⟨by omega, fun h => by obtain ⟨⟨h1, h2⟩, h3, h4, h5⟩ := h; omega, by decide +kernel, rfl⟩)))⟩ (Nat.le_of_ble_eq_true rfl) (Nat.le_of_ble_eq_true rfl) dX12_clue_53
    · skip
      have ha_13 : (0 : Int32).toInt ≤ z_night.toInt := ha_13
      rw [show (0 : Int32).toInt = 0 from by decide +kernel] at ha_13
      have ha_14 : z_night.toInt ≤ (9 : Int32).toInt := ha_14
      rw [show (9 : Int32).toInt = 9 from by decide +kernel] at ha_14
      refine lv_if_eq (pc := 25) (tgt := 52) E.1 E.2.1 dX12_clue_25 (by decide) (fun c_17 => absurd c_17 (mneE (a := 1) (b := 0) (by decide +kernel) (by decide +kernel) (by omega))) (fun _ => ?_)
      refine lv_iload_n (pc := 28) E.1 E.2.1 dX12_clue_28 rfl (lv_at hl3 2 rfl) ?_
      refine lv_iconst (pc := 29) (v := 1) E.1 E.2.1 dX12_clue_29 (by decide +kernel) ?_
      refine lv_icmp_lt (pc := 30) (tgt := 52) E.1 E.2.1 dX12_clue_30 (by decide) (fun c_18 => ?_) (fun c_18 => ?_)
      · skip
        have hc_18 := ltE (a := z_set.toInt) (b := 1) rfl (by decide +kernel) c_18
        refine lv_iconst (pc := 52) (v := (-1)) E.1 E.2.1 dX12_clue_52 (by decide +kernel) ?_
        exact em_i (w1 := (fun (u : Int32 × Int32 × (Nat → Int32) × (Nat → Int32)) => (MW cI cJ M mr (upd (upd mi 0 u.1) 17 u.2.1) (va_up (va_up mf 18 u.2.2.1) 19 u.2.2.2) mg))) E hr hlk (0, (mi 17), (mf 18), (mf 19)) hw9 ⟨h1, (show CST (sh1 (mi 6)) z_night.toInt z_set.toInt (mi 17).toInt (mi 17).toInt ((-1) : Int32).toInt from (Or.inr (Or.inr ⟨by omega, fun h => by obtain ⟨⟨h1, h2⟩, h3, h4, h5⟩ := h; omega, by decide +kernel, rfl⟩)))⟩ (Nat.le_of_ble_eq_true rfl) (Nat.le_of_ble_eq_true rfl) dX12_clue_53
      · skip
        have hc_18 := nltE (a := z_set.toInt) (b := 1) rfl (by decide +kernel) c_18
        refine lv_iload_n (pc := 33) E.1 E.2.1 dX12_clue_33 rfl (lv_at hl3 2 rfl) ?_
        refine lv_iconst (pc := 34) (v := 1) E.1 E.2.1 dX12_clue_34 (by decide +kernel) ?_
        refine lv_aload_n (pc := 35) E.1 E.2.1 dX12_clue_35 rfl (lv_at hl3 0 rfl) ?_
        refine x_get (pc := 36) (T := TX12) (N := 70) (ci := 12) (v := .int (mi 6)) E hw9 inX12 0 6 q_1405 rfl rfl (by decide) rfl rfl dX12_clue_36 ?_
        refine lv_ishl (pc := 39) E.1 E.2.1 dX12_clue_39 ?_
        refine lv_topi (fun v_19 ev_19 => ?_)
        have hb1v_19 : 1 ≤ v_19.toInt ∧ v_19.toInt ≤ 1024 := by rw [ev_19]; exact shl10 (by omega)
        refine lv_icmp_ge (pc := 40) (tgt := 52) E.1 E.2.1 dX12_clue_40 (by decide) (fun c_20 => ?_) (fun c_20 => ?_)
        · skip
          have hc_20 := leE (a := v_19.toInt) (b := z_set.toInt) rfl rfl c_20
          refine lv_iconst (pc := 52) (v := (-1)) E.1 E.2.1 dX12_clue_52 (by decide +kernel) ?_
          exact em_i (w1 := (fun (u : Int32 × Int32 × (Nat → Int32) × (Nat → Int32)) => (MW cI cJ M mr (upd (upd mi 0 u.1) 17 u.2.1) (va_up (va_up mf 18 u.2.2.1) 19 u.2.2.2) mg))) E hr hlk (0, (mi 17), (mf 18), (mf 19)) hw9 ⟨h1, (show CST (sh1 (mi 6)) z_night.toInt z_set.toInt (mi 17).toInt (mi 17).toInt ((-1) : Int32).toInt from (Or.inr (Or.inr ⟨by omega, fun h => by obtain ⟨⟨h1, h2⟩, h3, h4, h5⟩ := h; have q := all_sh ev_19; omega, by decide +kernel, rfl⟩)))⟩ (Nat.le_of_ble_eq_true rfl) (Nat.le_of_ble_eq_true rfl) dX12_clue_53
        · skip
          have hc_20 := nleE (a := v_19.toInt) (b := z_set.toInt) rfl rfl c_20
          refine lv_aload_n (pc := 43) E.1 E.2.1 dX12_clue_43 rfl (lv_at hl3 0 rfl) ?_
          refine x_get (pc := 44) (T := TX12) (N := 70) (ci := 12) (v := .int (mi 17)) E hw9 inX12 0 17 q_1416 rfl rfl (by decide) rfl rfl dX12_clue_44 ?_
          refine lv_bipush (pc := 47) (v := 8) E.1 E.2.1 dX12_clue_47 (by decide +kernel) ?_
          refine lv_icmp_ne (pc := 49) (tgt := 54) E.1 E.2.1 dX12_clue_49 (by decide) (fun c_21 => ?_) (fun c_21 => ?_)
          · skip
            have hc_21 := neE (a := (mi 17).toInt) (b := 8) rfl (by decide +kernel) c_21
            refine lv_aload_n (pc := 54) E.1 E.2.1 dX12_clue_54 rfl (lv_at hl3 0 rfl) ?_
            refine x_get (pc := 55) (T := TX12) (N := 70) (ci := 12) (v := .ref (mr 18)) E hw9 inX12 0 18 q_1417 rfl rfl (by decide) rfl rfl dX12_clue_55 ?_
            refine lv_aload_n (pc := 58) E.1 E.2.1 dX12_clue_58 rfl (lv_at hl3 0 rfl) ?_
            refine x_get (pc := 59) (T := TX12) (N := 70) (ci := 12) (v := .int (mi 17)) E hw9 inX12 0 17 q_1416 rfl rfl (by decide) rfl rfl dX12_clue_59 ?_
            refine lv_iload_n (pc := 62) E.1 E.2.1 dX12_clue_62 rfl (lv_at hl3 1 rfl) ?_
            refine x_iastG (pc := 63) (f := (mf 18)) (wf := fun g => (MW cI cJ M mr (upd mi 0 0) (va_up mf 18 g) mg)) E hw9 10 rfl (inbE (a := (mi 17).toInt) (n := 8) rfl (by omega)) (fun _ => rfl) dX12_clue_63 (fun g_22 H locs eg_22 hw23 => ?_)
            refine lv_aload_n (pc := 64) E.1 E.2.1 dX12_clue_64 rfl (lv_at hl3 0 rfl) ?_
            refine x_get (pc := 65) (T := TX12) (N := 70) (ci := 12) (v := .ref (mr 19)) E hw23 inX12 0 19 q_1418 rfl rfl (by decide) rfl rfl dX12_clue_65 ?_
            refine lv_aload_n (pc := 68) E.1 E.2.1 dX12_clue_68 rfl (lv_at hl3 0 rfl) ?_
            refine x_get (pc := 69) (T := TX12) (N := 70) (ci := 12) (v := .int (mi 17)) E hw23 inX12 0 17 q_1416 rfl rfl (by decide) rfl rfl dX12_clue_69 ?_
            refine lv_iload_n (pc := 72) E.1 E.2.1 dX12_clue_72 rfl (lv_at hl3 2 rfl) ?_
            refine x_iastG (pc := 73) (f := (mf 19)) (wf := fun g => (MW cI cJ M mr (upd mi 0 0) (va_up (va_up mf 18 g_22) 19 g) mg)) E hw23 11 rfl (inbE (a := (mi 17).toInt) (n := 8) rfl (by omega)) (fun _ => rfl) dX12_clue_73 (fun g_24 H locs eg_24 hw25 => ?_)
            refine lv_aload_n (pc := 74) E.1 E.2.1 dX12_clue_74 rfl (lv_at hl3 0 rfl) ?_
            refine lv_aload_n (pc := 75) E.1 E.2.1 dX12_clue_75 rfl (lv_at hl3 0 rfl) ?_
            refine x_get (pc := 76) (T := TX12) (N := 70) (ci := 12) (v := .int (mi 17)) E hw25 inX12 0 17 q_1416 rfl rfl (by decide) rfl rfl dX12_clue_76 ?_
            refine lv_iconst (pc := 79) (v := 1) E.1 E.2.1 dX12_clue_79 (by decide +kernel) ?_
            refine lv_iadd (pc := 80) E.1 E.2.1 dX12_clue_80 ?_
            refine lv_topi (fun v_26 ev_26 => ?_)
            have hv_26 : v_26.toInt = (mi 17).toInt + 1 := by rw [ev_26]; exact addE rfl (by decide +kernel) (by omega)
            refine x_put (pc := 81) (T := TX12) (N := 70) (ci := 12) (ws' := (MW cI cJ M mr (upd (upd mi 0 0) 17 v_26) (va_up (va_up mf 18 g_22) 19 g_24) mg)) E hw25 inX12 tyX12_ok nmX12 0 17 q_1416 rfl rfl (by decide) rfl rfl rfl rfl (Nat.le_of_ble_eq_true rfl) rfl dX12_clue_81 (fun H locs hw27 => ?_)
            refine lv_aload_n (pc := 84) E.1 E.2.1 dX12_clue_84 rfl (lv_at hl3 0 rfl) ?_
            refine x_get (pc := 85) (T := TX12) (N := 70) (ci := 12) (v := .int v_26) E hw27 inX12 0 17 q_1416 rfl rfl (by decide) rfl rfl dX12_clue_85 ?_
            exact em_i (w1 := (fun (u : Int32 × Int32 × (Nat → Int32) × (Nat → Int32)) => (MW cI cJ M mr (upd (upd mi 0 u.1) 17 u.2.1) (va_up (va_up mf 18 u.2.2.1) 19 u.2.2.2) mg))) E hr hlk (0, v_26, g_22, g_24) hw27 ⟨(by show 0 ≤ v_26.toInt ∧ v_26.toInt ≤ 8; have k_0 : (0 : Int32).toInt = 0 := (by decide +kernel); omega), (show CST (sh1 (mi 6)) z_night.toInt z_set.toInt (mi 17).toInt v_26.toInt (v_26 : Int32).toInt from (Or.inr (Or.inl ⟨by omega, (by have q := all_sh ev_19; exact ⟨⟨by omega, by omega⟩, by omega, by omega, by omega⟩), by omega, by omega⟩)))⟩ (Nat.le_of_ble_eq_true rfl) (Nat.le_of_ble_eq_true rfl) dX12_clue_88
          · skip
            have hc_21 := eqE (a := (mi 17).toInt) (b := 8) rfl (by decide +kernel) c_21
            refine lv_iconst (pc := 52) (v := (-1)) E.1 E.2.1 dX12_clue_52 (by decide +kernel) ?_
            exact em_i (w1 := (fun (u : Int32 × Int32 × (Nat → Int32) × (Nat → Int32)) => (MW cI cJ M mr (upd (upd mi 0 u.1) 17 u.2.1) (va_up (va_up mf 18 u.2.2.1) 19 u.2.2.2) mg))) E hr hlk (0, (mi 17), (mf 18), (mf 19)) hw9 ⟨h1, (show CST (sh1 (mi 6)) z_night.toInt z_set.toInt (mi 17).toInt (mi 17).toInt ((-1) : Int32).toInt from (Or.inr (Or.inr ⟨by omega, fun h => by obtain ⟨⟨h1, h2⟩, h3, h4, h5⟩ := h; have q := all_sh ev_19; omega, by decide +kernel, rfl⟩)))⟩ (Nat.le_of_ble_eq_true rfl) (Nat.le_of_ble_eq_true rfl) dX12_clue_53
  · skip
    have hc_5 := eqE (a := z_night.toInt) (b := (-1)) rfl (by decide +kernel) c_5
    refine lv_aload_n (pc := 10) E.1 E.2.1 dX12_clue_10 rfl (lv_at hl3 0 rfl) ?_
    refine lv_iconst (pc := 11) (v := 0) E.1 E.2.1 dX12_clue_11 (by decide +kernel) ?_
    refine x_put (pc := 12) (T := TX12) (N := 70) (ci := 12) (ws' := (MW cI cJ M mr (upd (upd mi 0 0) 17 0) mf mg)) E hw4 inX12 tyX12_ok nmX12 0 17 q_1416 rfl rfl (by decide) rfl rfl rfl rfl (Nat.le_of_ble_eq_true rfl) rfl dX12_clue_12 (fun H locs hw28 => ?_)
    refine lv_iconst (pc := 15) (v := 0) E.1 E.2.1 dX12_clue_15 (by decide +kernel) ?_
    exact em_i (w1 := (fun (u : Int32 × Int32 × (Nat → Int32) × (Nat → Int32)) => (MW cI cJ M mr (upd (upd mi 0 u.1) 17 u.2.1) (va_up (va_up mf 18 u.2.2.1) 19 u.2.2.2) mg))) E hr hlk (0, 0, (mf 18), (mf 19)) hw28 ⟨(by show 0 ≤ (0 : Int32).toInt ∧ (0 : Int32).toInt ≤ 8; have k_0 : (0 : Int32).toInt = 0 := (by decide +kernel); have k_1 : (0 : Int32).toInt = 0 := (by decide +kernel); have k_2 : (0 : Int32).toInt = 0 := (by decide +kernel); omega), (show CST (sh1 (mi 6)) z_night.toInt z_set.toInt (mi 17).toInt (0 : Int32).toInt (0 : Int32).toInt from (Or.inl ⟨by omega, by decide +kernel, by decide +kernel⟩))⟩ (Nat.le_of_ble_eq_true rfl) (Nat.le_of_ble_eq_true rfl) dX12_clue_16
set_option maxHeartbeats 4000000 in
set_option maxRecDepth 100000 in
theorem s_keepsVillage1B (l : Launch) (D : va_G) (cI cJ : ClassId) (sz M : Nat) (mr : Nat → Nat) (mi : Nat → Int32) (mf : Nat → Nat → Int32) (mg : Nat → Nat → Int64)  (h0 : (mi 66).toInt = 1) (h1 : (mi 68).toInt = 66) : Met l yX12_keepsVillage (Cond.code yX12_keepsVillage cX12_keepsVillage 2 none :: GW) ({ frames := 2, cells := 0, slots := 0, locals := 61 } : Room) (va_Pc [.ref M] (PW D cI cJ sz (MW cI cJ M mr mi mf mg) xT)) (va_Qv (fun (u : Int32 × (Nat → Int32)) => (u.1.toInt = 138) ∧ (((u.2 66).toInt = (mi 6).toInt ∧ SGT u.2 (mf 8) 0 68 5 10 ∧ (u.2 120).toInt = (mi 15).toInt ∧ (u.2 121).toInt = (mi 17).toInt ∧ FRM (mf 69) u.2 66)) ∧ (SGT u.2 (mf 7) 0 67 5 10) ∧ (SGT u.2 (mf 11) 0 71 5 10)) (fun u => QW D cI cJ (va_A (MW cI cJ M mr mi mf mg) sz) ((fun (u : Int32 × (Nat → Int32)) => (MW cI cJ M mr (upd mi 68 u.1) (va_up mf 69 u.2) mg)) u)) (va_A (MW cI cJ M mr mi mf mg) sz)) 0 0 (va_A (MW cI cJ M mr mi mf mg) sz) := by
  refine mk_met (y := yX12_keepsVillage) (bytes := cX12_keepsVillage) (maxL := 2) (avs := [.ref M]) (WS := (MW cI cJ M mr mi mf mg)) (Qf := fun A => va_Qv (fun (u : Int32 × (Nat → Int32)) => (u.1.toInt = 138) ∧ (((u.2 66).toInt = (mi 6).toInt ∧ SGT u.2 (mf 8) 0 68 5 10 ∧ (u.2 120).toInt = (mi 15).toInt ∧ (u.2 121).toInt = (mi 17).toInt ∧ FRM (mf 69) u.2 66)) ∧ (SGT u.2 (mf 7) 0 67 5 10) ∧ (SGT u.2 (mf 11) 0 71 5 10)) (fun u => QW D cI cJ A ((fun (u : Int32 × (Nat → Int32)) => (MW cI cJ M mr (upd mi 68 u.1) (va_up mf 69 u.2) mg)) u)) A) (by decide) (Nat.le_of_ble_eq_true rfl) ?_
  intro p e s m below meth c A ls E hr hlk hnm hX hw1 hl2
  have hl3 : lv_has ls 2 [(0, .ref M)] := hl2
  refine lv_aload_n (pc := 0) E.1 E.2.1 dX12_keepsVillage_0 rfl (lv_at hl3 0 rfl) ?_
  refine lv_aload_n (pc := 1) E.1 E.2.1 dX12_keepsVillage_1 rfl (lv_at hl3 0 rfl) ?_
  refine lv_aload_n (pc := 2) E.1 E.2.1 dX12_keepsVillage_2 rfl (lv_at hl3 0 rfl) ?_
  refine x_get (pc := 3) (T := TX12) (N := 70) (ci := 12) (v := .int (mi 6)) E hw1 inX12 0 6 q_1405 rfl rfl (by decide) rfl rfl dX12_keepsVillage_3 ?_
  refine cm_i (pc := 6) hw1 (rn_M (As := [.int (mi 6)]) (rest := [.ref M]) E hw1 (s_kept1 l D cI cJ _ M mr mi mf mg (mi 6) h0 (by show 0 ≤ (mi 68).toInt ∧ (mi 68).toInt ≤ 3599; omega)) (gdV q_2125 q_2127 q_146 q_162 q_2128) hdV_X12_kept ⟨rfl, rfl⟩ ⟨(Nat.le_of_ble_eq_true rfl), (Nat.le_of_ble_eq_true rfl)⟩ ⟨(Nat.le_of_ble_eq_true rfl), (Nat.le_of_ble_eq_true rfl)⟩ 12 rfl rfl rfl rfl hl3.1 rfl (Nat.le_of_ble_eq_true rfl) dX12_keepsVillage_6) (fun r_5 u_4 H1 locs hp hw6 => ?_)
  obtain ⟨nkeptAt_7, gimages_8⟩ := u_4
  generalize H1 = H at hw6 ⊢
  have hw9 : WD D A s.heap (MW cI cJ M mr (upd mi 68 nkeptAt_7) (va_up mf 69 gimages_8) mg) H locs := hw6
  obtain ⟨hp_10, hp_11⟩ := hp
  have hp_10 : nkeptAt_7.toInt = (mi 68).toInt + 1 := hp_10
  have hp_11 : (gimages_8 = upd (mf 69) ((mi 68)).toNatClampNeg (mi 6) ∧ r_5 = (mi 6)) := hp_11
  obtain ⟨egimages_8, rfl⟩ := hp_11
  refine x_put (pc := 9) (T := TX12) (N := 70) (ci := 12) (ws' := (MW cI cJ M mr (upd mi 68 nkeptAt_7) (va_up mf 69 gimages_8) mg)) E hw9 inX12 tyX12_ok nmX12 0 6 q_1405 rfl rfl (by decide) rfl rfl rfl rfl (Nat.le_of_ble_eq_true rfl) rfl dX12_keepsVillage_9 (fun H locs hw12 => ?_)
  refine lv_iconst (pc := 12) (v := 0) E.1 E.2.1 dX12_keepsVillage_12 (by decide +kernel) ?_
  refine lv_istore_n (pc := 13) (lv' := [(1, .int 0), (0, .ref M)]) E.1 E.2.1 dX12_keepsVillage_13 rfl hl3 (by decide) rfl (fun ls hl13 => ?_)
  have loop_14 : ∀ (k : Nat) (x_15 : Int32) (x_16 : Int32) (g_17 : Nat → Int32) (H : Heap) (locs : List Loc) (ls : Array Slot), (0 ≤ x_15.toInt) ∧ (x_15.toInt ≤ 10) ∧ (x_16.toInt = 67 + 5 * x_15.toInt) ∧ (FRM gimages_8 g_17 67) ∧ (SGT g_17 (mf 8) 0 68 5 x_15.toInt) ∧ (SGT g_17 (mf 7) 0 67 5 x_15.toInt) ∧ (SGT g_17 (mf 11) 0 71 5 x_15.toInt) → 10 - x_15.toInt < (k : Int) → WD D A s.heap (MW cI cJ M mr (upd mi 68 x_16) (va_up mf 69 g_17) mg) H locs → lv_has ls 2 [(1, .int x_15), (0, .ref M)] → W p l e ({ frames := 2, cells := 0, slots := 0, locals := 61 } : Room) s m ([.ref M] : List Value).toArray below meth c H locs 0 0 (MQ below (va_Qv (fun (u : Int32 × (Nat → Int32)) => (u.1.toInt = 138) ∧ (((u.2 66).toInt = (mi 6).toInt ∧ SGT u.2 (mf 8) 0 68 5 10 ∧ (u.2 120).toInt = (mi 15).toInt ∧ (u.2 121).toInt = (mi 17).toInt ∧ FRM (mf 69) u.2 66)) ∧ (SGT u.2 (mf 7) 0 67 5 10) ∧ (SGT u.2 (mf 11) 0 71 5 10)) (fun u => QW D cI cJ A ((fun (u : Int32 × (Nat → Int32)) => (MW cI cJ M mr (upd mi 68 u.1) (va_up mf 69 u.2) mg)) u)) A) ([.ref M] : List Value).toArray s 0 0 A) (F0 m 14 ls []) := by
    intro k
    induction k with
    | zero =>
      intro x_15 x_16 g_17 _ _ _ hinv hm
      obtain ⟨hi_17_0, hi_17_1, hi_17_2, hi_17_3, hi_17_4, hi_17_5, hi_17_6⟩ := hinv
      exact absurd hm (by omega)
    | succ k ih_18 =>
      intro x_15 x_16 g_17 H locs ls hinv hm hw19 hl20
      obtain ⟨hi_17_0, hi_17_1, hi_17_2, hi_17_3, hi_17_4, hi_17_5, hi_17_6⟩ := hinv
      refine lv_iload_n (pc := 14) E.1 E.2.1 dX12_keepsVillage_14 rfl (lv_at hl20 0 rfl) ?_
      refine lv_bipush (pc := 15) (v := 10) E.1 E.2.1 dX12_keepsVillage_15 (by decide +kernel) ?_
      refine lv_icmp_ge (pc := 17) (tgt := 106) E.1 E.2.1 dX12_keepsVillage_17 (by decide) (fun c_21 => ?_) (fun c_21 => ?_)
      · skip
        have hc_21 := leE (a := 10) (b := x_15.toInt) (by decide +kernel) rfl c_21
        refine lv_aload_n (pc := 106) E.1 E.2.1 dX12_keepsVillage_106 rfl (lv_at hl20 1 rfl) ?_
        refine lv_aload_n (pc := 107) E.1 E.2.1 dX12_keepsVillage_107 rfl (lv_at hl20 1 rfl) ?_
        refine lv_aload_n (pc := 108) E.1 E.2.1 dX12_keepsVillage_108 rfl (lv_at hl20 1 rfl) ?_
        refine x_get (pc := 109) (T := TX12) (N := 70) (ci := 12) (v := .int (mi 12)) E hw19 inX12 0 12 q_1411 rfl rfl (by decide) rfl rfl dX12_keepsVillage_109 ?_
        refine cm_i (pc := 112) hw19 (rn_M (As := [.int (mi 12)]) (rest := [.ref M]) E hw19 (s_kept1 l D cI cJ _ M mr (upd mi 68 x_16) (va_up mf 69 g_17) mg (mi 12) h0 (by show 0 ≤ x_16.toInt ∧ x_16.toInt ≤ 3599; omega)) (gdV q_2125 q_2127 q_146 q_162 q_2128) hdV_X12_kept ⟨rfl, rfl⟩ ⟨(Nat.le_of_ble_eq_true rfl), (Nat.le_of_ble_eq_true rfl)⟩ ⟨(Nat.le_of_ble_eq_true rfl), (Nat.le_of_ble_eq_true rfl)⟩ 12 rfl rfl rfl rfl hl20.1 rfl (Nat.le_of_ble_eq_true rfl) dX12_keepsVillage_112) (fun r_23 u_22 H1 locs hp hw24 => ?_)
        obtain ⟨nkeptAt_25, gimages_26⟩ := u_22
        generalize H1 = H at hw24 ⊢
        have hw27 : WD D A s.heap (MW cI cJ M mr (upd mi 68 nkeptAt_25) (va_up mf 69 gimages_26) mg) H locs := hw24
        obtain ⟨hp_28, hp_29⟩ := hp
        have hp_28 : nkeptAt_25.toInt = x_16.toInt + 1 := hp_28
        have hp_29 : (gimages_26 = upd g_17 (x_16).toNatClampNeg (mi 12) ∧ r_23 = (mi 12)) := hp_29
        obtain ⟨egimages_26, rfl⟩ := hp_29
        refine x_put (pc := 115) (T := TX12) (N := 70) (ci := 12) (ws' := (MW cI cJ M mr (upd mi 68 nkeptAt_25) (va_up mf 69 gimages_26) mg)) E hw27 inX12 tyX12_ok nmX12 0 12 q_1411 rfl rfl (by decide) rfl rfl rfl rfl (Nat.le_of_ble_eq_true rfl) rfl dX12_keepsVillage_115 (fun H locs hw30 => ?_)
        refine lv_aload_n (pc := 118) E.1 E.2.1 dX12_keepsVillage_118 rfl (lv_at hl20 1 rfl) ?_
        refine lv_aload_n (pc := 119) E.1 E.2.1 dX12_keepsVillage_119 rfl (lv_at hl20 1 rfl) ?_
        refine lv_aload_n (pc := 120) E.1 E.2.1 dX12_keepsVillage_120 rfl (lv_at hl20 1 rfl) ?_
        refine x_get (pc := 121) (T := TX12) (N := 70) (ci := 12) (v := .int (mi 13)) E hw30 inX12 0 13 q_1412 rfl rfl (by decide) rfl rfl dX12_keepsVillage_121 ?_
        refine cm_i (pc := 124) hw30 (rn_M (As := [.int (mi 13)]) (rest := [.ref M]) E hw30 (s_kept1 l D cI cJ _ M mr (upd mi 68 nkeptAt_25) (va_up mf 69 gimages_26) mg (mi 13) h0 (by show 0 ≤ nkeptAt_25.toInt ∧ nkeptAt_25.toInt ≤ 3599; omega)) (gdV q_2125 q_2127 q_146 q_162 q_2128) hdV_X12_kept ⟨rfl, rfl⟩ ⟨(Nat.le_of_ble_eq_true rfl), (Nat.le_of_ble_eq_true rfl)⟩ ⟨(Nat.le_of_ble_eq_true rfl), (Nat.le_of_ble_eq_true rfl)⟩ 12 rfl rfl rfl rfl hl20.1 rfl (Nat.le_of_ble_eq_true rfl) dX12_keepsVillage_124) (fun r_32 u_31 H1 locs hp hw33 => ?_)
        obtain ⟨nkeptAt_34, gimages_35⟩ := u_31
        generalize H1 = H at hw33 ⊢
        have hw36 : WD D A s.heap (MW cI cJ M mr (upd mi 68 nkeptAt_34) (va_up mf 69 gimages_35) mg) H locs := hw33
        obtain ⟨hp_37, hp_38⟩ := hp
        have hp_37 : nkeptAt_34.toInt = nkeptAt_25.toInt + 1 := hp_37
        have hp_38 : (gimages_35 = upd gimages_26 (nkeptAt_25).toNatClampNeg (mi 13) ∧ r_32 = (mi 13)) := hp_38
        obtain ⟨egimages_35, rfl⟩ := hp_38
        refine x_put (pc := 127) (T := TX12) (N := 70) (ci := 12) (ws' := (MW cI cJ M mr (upd mi 68 nkeptAt_34) (va_up mf 69 gimages_35) mg)) E hw36 inX12 tyX12_ok nmX12 0 13 q_1412 rfl rfl (by decide) rfl rfl rfl rfl (Nat.le_of_ble_eq_true rfl) rfl dX12_keepsVillage_127 (fun H locs hw39 => ?_)
        refine lv_aload_n (pc := 130) E.1 E.2.1 dX12_keepsVillage_130 rfl (lv_at hl20 1 rfl) ?_
        refine lv_aload_n (pc := 131) E.1 E.2.1 dX12_keepsVillage_131 rfl (lv_at hl20 1 rfl) ?_
        refine lv_aload_n (pc := 132) E.1 E.2.1 dX12_keepsVillage_132 rfl (lv_at hl20 1 rfl) ?_
        refine x_get (pc := 133) (T := TX12) (N := 70) (ci := 12) (v := .int (mi 14)) E hw39 inX12 0 14 q_1413 rfl rfl (by decide) rfl rfl dX12_keepsVillage_133 ?_
        refine cm_i (pc := 136) hw39 (rn_M (As := [.int (mi 14)]) (rest := [.ref M]) E hw39 (s_kept1 l D cI cJ _ M mr (upd mi 68 nkeptAt_34) (va_up mf 69 gimages_35) mg (mi 14) h0 (by show 0 ≤ nkeptAt_34.toInt ∧ nkeptAt_34.toInt ≤ 3599; omega)) (gdV q_2125 q_2127 q_146 q_162 q_2128) hdV_X12_kept ⟨rfl, rfl⟩ ⟨(Nat.le_of_ble_eq_true rfl), (Nat.le_of_ble_eq_true rfl)⟩ ⟨(Nat.le_of_ble_eq_true rfl), (Nat.le_of_ble_eq_true rfl)⟩ 12 rfl rfl rfl rfl hl20.1 rfl (Nat.le_of_ble_eq_true rfl) dX12_keepsVillage_136) (fun r_41 u_40 H1 locs hp hw42 => ?_)
        obtain ⟨nkeptAt_43, gimages_44⟩ := u_40
        generalize H1 = H at hw42 ⊢
        have hw45 : WD D A s.heap (MW cI cJ M mr (upd mi 68 nkeptAt_43) (va_up mf 69 gimages_44) mg) H locs := hw42
        obtain ⟨hp_46, hp_47⟩ := hp
        have hp_46 : nkeptAt_43.toInt = nkeptAt_34.toInt + 1 := hp_46
        have hp_47 : (gimages_44 = upd gimages_35 (nkeptAt_34).toNatClampNeg (mi 14) ∧ r_41 = (mi 14)) := hp_47
        obtain ⟨egimages_44, rfl⟩ := hp_47
        refine x_put (pc := 139) (T := TX12) (N := 70) (ci := 12) (ws' := (MW cI cJ M mr (upd mi 68 nkeptAt_43) (va_up mf 69 gimages_44) mg)) E hw45 inX12 tyX12_ok nmX12 0 14 q_1413 rfl rfl (by decide) rfl rfl rfl rfl (Nat.le_of_ble_eq_true rfl) rfl dX12_keepsVillage_139 (fun H locs hw48 => ?_)
        refine lv_aload_n (pc := 142) E.1 E.2.1 dX12_keepsVillage_142 rfl (lv_at hl20 1 rfl) ?_
        refine lv_aload_n (pc := 143) E.1 E.2.1 dX12_keepsVillage_143 rfl (lv_at hl20 1 rfl) ?_
        refine lv_aload_n (pc := 144) E.1 E.2.1 dX12_keepsVillage_144 rfl (lv_at hl20 1 rfl) ?_
        refine x_get (pc := 145) (T := TX12) (N := 70) (ci := 12) (v := .int (mi 15)) E hw48 inX12 0 15 q_1414 rfl rfl (by decide) rfl rfl dX12_keepsVillage_145 ?_
        refine cm_i (pc := 148) hw48 (rn_M (As := [.int (mi 15)]) (rest := [.ref M]) E hw48 (s_kept1 l D cI cJ _ M mr (upd mi 68 nkeptAt_43) (va_up mf 69 gimages_44) mg (mi 15) h0 (by show 0 ≤ nkeptAt_43.toInt ∧ nkeptAt_43.toInt ≤ 3599; omega)) (gdV q_2125 q_2127 q_146 q_162 q_2128) hdV_X12_kept ⟨rfl, rfl⟩ ⟨(Nat.le_of_ble_eq_true rfl), (Nat.le_of_ble_eq_true rfl)⟩ ⟨(Nat.le_of_ble_eq_true rfl), (Nat.le_of_ble_eq_true rfl)⟩ 12 rfl rfl rfl rfl hl20.1 rfl (Nat.le_of_ble_eq_true rfl) dX12_keepsVillage_148) (fun r_50 u_49 H1 locs hp hw51 => ?_)
        obtain ⟨nkeptAt_52, gimages_53⟩ := u_49
        generalize H1 = H at hw51 ⊢
        have hw54 : WD D A s.heap (MW cI cJ M mr (upd mi 68 nkeptAt_52) (va_up mf 69 gimages_53) mg) H locs := hw51
        obtain ⟨hp_55, hp_56⟩ := hp
        have hp_55 : nkeptAt_52.toInt = nkeptAt_43.toInt + 1 := hp_55
        have hp_56 : (gimages_53 = upd gimages_44 (nkeptAt_43).toNatClampNeg (mi 15) ∧ r_50 = (mi 15)) := hp_56
        obtain ⟨egimages_53, rfl⟩ := hp_56
        refine x_put (pc := 151) (T := TX12) (N := 70) (ci := 12) (ws' := (MW cI cJ M mr (upd mi 68 nkeptAt_52) (va_up mf 69 gimages_53) mg)) E hw54 inX12 tyX12_ok nmX12 0 15 q_1414 rfl rfl (by decide) rfl rfl rfl rfl (Nat.le_of_ble_eq_true rfl) rfl dX12_keepsVillage_151 (fun H locs hw57 => ?_)
        refine lv_aload_n (pc := 154) E.1 E.2.1 dX12_keepsVillage_154 rfl (lv_at hl20 1 rfl) ?_
        refine lv_aload_n (pc := 155) E.1 E.2.1 dX12_keepsVillage_155 rfl (lv_at hl20 1 rfl) ?_
        refine lv_aload_n (pc := 156) E.1 E.2.1 dX12_keepsVillage_156 rfl (lv_at hl20 1 rfl) ?_
        refine x_get (pc := 157) (T := TX12) (N := 70) (ci := 12) (v := .int (mi 17)) E hw57 inX12 0 17 q_1416 rfl rfl (by decide) rfl rfl dX12_keepsVillage_157 ?_
        refine cm_i (pc := 160) hw57 (rn_M (As := [.int (mi 17)]) (rest := [.ref M]) E hw57 (s_kept1 l D cI cJ _ M mr (upd mi 68 nkeptAt_52) (va_up mf 69 gimages_53) mg (mi 17) h0 (by show 0 ≤ nkeptAt_52.toInt ∧ nkeptAt_52.toInt ≤ 3599; omega)) (gdV q_2125 q_2127 q_146 q_162 q_2128) hdV_X12_kept ⟨rfl, rfl⟩ ⟨(Nat.le_of_ble_eq_true rfl), (Nat.le_of_ble_eq_true rfl)⟩ ⟨(Nat.le_of_ble_eq_true rfl), (Nat.le_of_ble_eq_true rfl)⟩ 12 rfl rfl rfl rfl hl20.1 rfl (Nat.le_of_ble_eq_true rfl) dX12_keepsVillage_160) (fun r_59 u_58 H1 locs hp hw60 => ?_)
        obtain ⟨nkeptAt_61, gimages_62⟩ := u_58
        generalize H1 = H at hw60 ⊢
        have hw63 : WD D A s.heap (MW cI cJ M mr (upd mi 68 nkeptAt_61) (va_up mf 69 gimages_62) mg) H locs := hw60
        obtain ⟨hp_64, hp_65⟩ := hp
        have hp_64 : nkeptAt_61.toInt = nkeptAt_52.toInt + 1 := hp_64
        have hp_65 : (gimages_62 = upd gimages_53 (nkeptAt_52).toNatClampNeg (mi 17) ∧ r_59 = (mi 17)) := hp_65
        obtain ⟨egimages_62, rfl⟩ := hp_65
        refine x_put (pc := 163) (T := TX12) (N := 70) (ci := 12) (ws' := (MW cI cJ M mr (upd mi 68 nkeptAt_61) (va_up mf 69 gimages_62) mg)) E hw63 inX12 tyX12_ok nmX12 0 17 q_1416 rfl rfl (by decide) rfl rfl rfl rfl (Nat.le_of_ble_eq_true rfl) rfl dX12_keepsVillage_163 (fun H locs hw66 => ?_)
        refine lv_iconst (pc := 166) (v := 0) E.1 E.2.1 dX12_keepsVillage_166 (by decide +kernel) ?_
        refine lv_istore_n (pc := 167) (lv' := [(1, .int 0), (0, .ref M)]) E.1 E.2.1 dX12_keepsVillage_167 rfl hl20 (by decide) rfl (fun ls hl67 => ?_)
        have loop_68 : ∀ (k : Nat) (x_69 : Int32) (x_70 : Int32) (g_71 : Nat → Int32) (H : Heap) (locs : List Loc) (ls : Array Slot), (0 ≤ x_69.toInt) ∧ (x_69.toInt ≤ 8) ∧ (x_70.toInt = 122 + 2 * x_69.toInt) ∧ (FRM gimages_62 g_71 122) → 8 - x_69.toInt < (k : Int) → WD D A s.heap (MW cI cJ M mr (upd mi 68 x_70) (va_up mf 69 g_71) mg) H locs → lv_has ls 2 [(1, .int x_69), (0, .ref M)] → W p l e ({ frames := 2, cells := 0, slots := 0, locals := 61 } : Room) s m ([.ref M] : List Value).toArray below meth c H locs 0 0 (MQ below (va_Qv (fun (u : Int32 × (Nat → Int32)) => (u.1.toInt = 138) ∧ (((u.2 66).toInt = (mi 6).toInt ∧ SGT u.2 (mf 8) 0 68 5 10 ∧ (u.2 120).toInt = (mi 15).toInt ∧ (u.2 121).toInt = (mi 17).toInt ∧ FRM (mf 69) u.2 66)) ∧ (SGT u.2 (mf 7) 0 67 5 10) ∧ (SGT u.2 (mf 11) 0 71 5 10)) (fun u => QW D cI cJ A ((fun (u : Int32 × (Nat → Int32)) => (MW cI cJ M mr (upd mi 68 u.1) (va_up mf 69 u.2) mg)) u)) A) ([.ref M] : List Value).toArray s 0 0 A) (F0 m 168 ls []) := by
          intro k
          induction k with
          | zero =>
            intro x_69 x_70 g_71 _ _ _ hinv hm
            obtain ⟨hi_71_0, hi_71_1, hi_71_2, hi_71_3⟩ := hinv
            exact absurd hm (by omega)
          | succ k ih_72 =>
            intro x_69 x_70 g_71 H locs ls hinv hm hw73 hl74
            obtain ⟨hi_71_0, hi_71_1, hi_71_2, hi_71_3⟩ := hinv
            refine lv_iload_n (pc := 168) E.1 E.2.1 dX12_keepsVillage_168 rfl (lv_at hl74 0 rfl) ?_
            refine lv_bipush (pc := 169) (v := 8) E.1 E.2.1 dX12_keepsVillage_169 (by decide +kernel) ?_
            refine lv_icmp_ge (pc := 171) (tgt := 212) E.1 E.2.1 dX12_keepsVillage_171 (by decide) (fun c_75 => ?_) (fun c_75 => ?_)
            · skip
              have hc_75 := leE (a := 8) (b := x_69.toInt) (by decide +kernel) rfl c_75
              exact em_v (w1 := (fun (u : Int32 × (Nat → Int32)) => (MW cI cJ M mr (upd mi 68 u.1) (va_up mf 69 u.2) mg))) E hr hlk (x_70, g_71) hw73 ⟨(by show x_70.toInt = 138; omega), (show ((g_71 66).toInt = (mi 6).toInt ∧ SGT g_71 (mf 8) 0 68 5 10 ∧ (g_71 120).toInt = (mi 15).toInt ∧ (g_71 121).toInt = (mi 17).toInt ∧ FRM (mf 69) g_71 66) from ⟨(by have q := ((hi_71_3 66 (by omega)).trans ((un1 (j := 66) egimages_62 (by omega) (by omega)).trans ((un1 (j := 66) egimages_53 (by omega) (by omega)).trans ((un1 (j := 66) egimages_44 (by omega) (by omega)).trans ((un1 (j := 66) egimages_35 (by omega) (by omega)).trans ((un1 (j := 66) egimages_26 (by omega) (by omega)).trans ((hi_17_3 66 (by omega)).trans (us1 (j := 66) egimages_8 (by omega) (by omega))))))))); rw [q]), (SGT_fr (SGT_keep (SGT_keep (SGT_keep (SGT_keep (SGT_keep (SGT_n hi_17_4 (by omega)) egimages_26 (by omega) (fun j hj => by omega)) egimages_35 (by omega) (fun j hj => by omega)) egimages_44 (by omega) (fun j hj => by omega)) egimages_53 (by omega) (fun j hj => by omega)) egimages_62 (by omega) (fun j hj => by omega)) hi_71_3 (fun j hj => by omega)), (by have q := ((hi_71_3 120 (by omega)).trans ((un1 (j := 120) egimages_62 (by omega) (by omega)).trans (us1 (j := 120) egimages_53 (by omega) (by omega)))); rw [q]), (by have q := ((hi_71_3 121 (by omega)).trans (us1 (j := 121) egimages_62 (by omega) (by omega))); rw [q]), (FRM_fr (FRM_put (FRM_put (FRM_put (FRM_put (FRM_put (FRM_fr (FRM_put FRM_nil egimages_8 (by omega)) hi_17_3 (by decide)) egimages_26 (by omega)) egimages_35 (by omega)) egimages_44 (by omega)) egimages_53 (by omega)) egimages_62 (by omega)) hi_71_3 (by decide))⟩), (show SGT g_71 (mf 7) 0 67 5 10 from (SGT_fr (SGT_keep (SGT_keep (SGT_keep (SGT_keep (SGT_keep (SGT_n hi_17_5 (by omega)) egimages_26 (by omega) (fun j hj => by omega)) egimages_35 (by omega) (fun j hj => by omega)) egimages_44 (by omega) (fun j hj => by omega)) egimages_53 (by omega) (fun j hj => by omega)) egimages_62 (by omega) (fun j hj => by omega)) hi_71_3 (fun j hj => by omega))), (show SGT g_71 (mf 11) 0 71 5 10 from (SGT_fr (SGT_keep (SGT_keep (SGT_keep (SGT_keep (SGT_keep (SGT_n hi_17_6 (by omega)) egimages_26 (by omega) (fun j hj => by omega)) egimages_35 (by omega) (fun j hj => by omega)) egimages_44 (by omega) (fun j hj => by omega)) egimages_53 (by omega) (fun j hj => by omega)) egimages_62 (by omega) (fun j hj => by omega)) hi_71_3 (fun j hj => by omega)))⟩ (Nat.le_of_ble_eq_true rfl) (Nat.le_of_ble_eq_true rfl) dX12_keepsVillage_212
            · skip
              have hc_75 := nleE (a := 8) (b := x_69.toInt) (by decide +kernel) rfl c_75
              refine lv_aload_n (pc := 174) E.1 E.2.1 dX12_keepsVillage_174 rfl (lv_at hl74 1 rfl) ?_
              refine x_get (pc := 175) (T := TX12) (N := 70) (ci := 12) (v := .ref (mr 18)) E hw73 inX12 0 18 q_1417 rfl rfl (by decide) rfl rfl dX12_keepsVillage_175 ?_
              refine lv_iload_n (pc := 178) E.1 E.2.1 dX12_keepsVillage_178 rfl (lv_at hl74 0 rfl) ?_
              refine lv_aload_n (pc := 179) E.1 E.2.1 dX12_keepsVillage_179 rfl (lv_at hl74 1 rfl) ?_
              refine lv_aload_n (pc := 180) E.1 E.2.1 dX12_keepsVillage_180 rfl (lv_at hl74 1 rfl) ?_
              refine x_get (pc := 181) (T := TX12) (N := 70) (ci := 12) (v := .ref (mr 18)) E hw73 inX12 0 18 q_1417 rfl rfl (by decide) rfl rfl dX12_keepsVillage_181 ?_
              refine lv_iload_n (pc := 184) E.1 E.2.1 dX12_keepsVillage_184 rfl (lv_at hl74 0 rfl) ?_
              refine x_iald (pc := 185) (f := (mf 18)) E hw73 10 rfl (inbE (a := x_69.toInt) (n := 8) rfl (by omega)) dX12_keepsVillage_185 ?_
              refine lv_topi (fun v_76 ev_76 => ?_)
              refine cm_i (pc := 186) hw73 (rn_M (As := [.int v_76]) (rest := [.int x_69, .ref (mr 18)]) E hw73 (s_kept1 l D cI cJ _ M mr (upd mi 68 x_70) (va_up mf 69 g_71) mg v_76 h0 (by show 0 ≤ x_70.toInt ∧ x_70.toInt ≤ 3599; omega)) (gdV q_2125 q_2127 q_146 q_162 q_2128) hdV_X12_kept ⟨rfl, rfl⟩ ⟨(Nat.le_of_ble_eq_true rfl), (Nat.le_of_ble_eq_true rfl)⟩ ⟨(Nat.le_of_ble_eq_true rfl), (Nat.le_of_ble_eq_true rfl)⟩ 12 rfl rfl rfl rfl hl74.1 rfl (Nat.le_of_ble_eq_true rfl) dX12_keepsVillage_186) (fun r_78 u_77 H1 locs hp hw79 => ?_)
              obtain ⟨nkeptAt_80, gimages_81⟩ := u_77
              generalize H1 = H at hw79 ⊢
              have hw82 : WD D A s.heap (MW cI cJ M mr (upd mi 68 nkeptAt_80) (va_up mf 69 gimages_81) mg) H locs := hw79
              obtain ⟨hp_83, hp_84⟩ := hp
              have hp_83 : nkeptAt_80.toInt = x_70.toInt + 1 := hp_83
              have hp_84 : (gimages_81 = upd g_71 (x_70).toNatClampNeg v_76 ∧ r_78 = v_76) := hp_84
              obtain ⟨egimages_81, rfl⟩ := hp_84
              refine x_iastG (pc := 189) (f := (mf 18)) (wf := fun g => (MW cI cJ M mr (upd mi 68 nkeptAt_80) (va_up (va_up mf 18 g) 69 gimages_81) mg)) E hw82 10 rfl (inbE (a := x_69.toInt) (n := 8) rfl (by omega)) (fun _ => rfl) dX12_keepsVillage_189 (fun g_85 H locs eg_85 hw86 => ?_)
              obtain rfl : g_85 = (mf 18) := by rw [eg_85]; exact upd_same ev_76
              have hw87 : WD D A s.heap (MW cI cJ M mr (upd mi 68 nkeptAt_80) (va_up mf 69 gimages_81) mg) H locs := hw86
              refine lv_aload_n (pc := 190) E.1 E.2.1 dX12_keepsVillage_190 rfl (lv_at hl74 1 rfl) ?_
              refine x_get (pc := 191) (T := TX12) (N := 70) (ci := 12) (v := .ref (mr 19)) E hw87 inX12 0 19 q_1418 rfl rfl (by decide) rfl rfl dX12_keepsVillage_191 ?_
              refine lv_iload_n (pc := 194) E.1 E.2.1 dX12_keepsVillage_194 rfl (lv_at hl74 0 rfl) ?_
              refine lv_aload_n (pc := 195) E.1 E.2.1 dX12_keepsVillage_195 rfl (lv_at hl74 1 rfl) ?_
              refine lv_aload_n (pc := 196) E.1 E.2.1 dX12_keepsVillage_196 rfl (lv_at hl74 1 rfl) ?_
              refine x_get (pc := 197) (T := TX12) (N := 70) (ci := 12) (v := .ref (mr 19)) E hw87 inX12 0 19 q_1418 rfl rfl (by decide) rfl rfl dX12_keepsVillage_197 ?_
              refine lv_iload_n (pc := 200) E.1 E.2.1 dX12_keepsVillage_200 rfl (lv_at hl74 0 rfl) ?_
              refine x_iald (pc := 201) (f := (mf 19)) E hw87 11 rfl (inbE (a := x_69.toInt) (n := 8) rfl (by omega)) dX12_keepsVillage_201 ?_
              refine lv_topi (fun v_88 ev_88 => ?_)
              refine cm_i (pc := 202) hw87 (rn_M (As := [.int v_88]) (rest := [.int x_69, .ref (mr 19)]) E hw87 (s_kept1 l D cI cJ _ M mr (upd mi 68 nkeptAt_80) (va_up mf 69 gimages_81) mg v_88 h0 (by show 0 ≤ nkeptAt_80.toInt ∧ nkeptAt_80.toInt ≤ 3599; omega)) (gdV q_2125 q_2127 q_146 q_162 q_2128) hdV_X12_kept ⟨rfl, rfl⟩ ⟨(Nat.le_of_ble_eq_true rfl), (Nat.le_of_ble_eq_true rfl)⟩ ⟨(Nat.le_of_ble_eq_true rfl), (Nat.le_of_ble_eq_true rfl)⟩ 12 rfl rfl rfl rfl hl74.1 rfl (Nat.le_of_ble_eq_true rfl) dX12_keepsVillage_202) (fun r_90 u_89 H1 locs hp hw91 => ?_)
              obtain ⟨nkeptAt_92, gimages_93⟩ := u_89
              generalize H1 = H at hw91 ⊢
              have hw94 : WD D A s.heap (MW cI cJ M mr (upd mi 68 nkeptAt_92) (va_up mf 69 gimages_93) mg) H locs := hw91
              obtain ⟨hp_95, hp_96⟩ := hp
              have hp_95 : nkeptAt_92.toInt = nkeptAt_80.toInt + 1 := hp_95
              have hp_96 : (gimages_93 = upd gimages_81 (nkeptAt_80).toNatClampNeg v_88 ∧ r_90 = v_88) := hp_96
              obtain ⟨egimages_93, rfl⟩ := hp_96
              refine x_iastG (pc := 205) (f := (mf 19)) (wf := fun g => (MW cI cJ M mr (upd mi 68 nkeptAt_92) (va_up (va_up mf 19 g) 69 gimages_93) mg)) E hw94 11 rfl (inbE (a := x_69.toInt) (n := 8) rfl (by omega)) (fun _ => rfl) dX12_keepsVillage_205 (fun g_97 H locs eg_97 hw98 => ?_)
              obtain rfl : g_97 = (mf 19) := by rw [eg_97]; exact upd_same ev_88
              have hw99 : WD D A s.heap (MW cI cJ M mr (upd mi 68 nkeptAt_92) (va_up mf 69 gimages_93) mg) H locs := hw98
              obtain ⟨v_100, ev_100⟩ : ∃ z : Int32, x_69 + Int32.ofInt (1) = z := ⟨_, rfl⟩
              have hv_100 : v_100.toInt = x_69.toInt + (1) := by rw [← ev_100]; exact incE rfl (by decide) (by omega)
              refine lv_iinc (pc := 206) (v := v_100) (lv' := [(1, .int v_100), (0, .ref M)]) E.1 E.2.1 dX12_keepsVillage_206 hl74 (k := 0) rfl ev_100 (by decide) rfl (fun ls hl101 => ?_)
              refine lv_goto (pc := 209) (tgt := 168) E.1 E.2.1 dX12_keepsVillage_209 (by decide) ?_
              exact ih_72 v_100 nkeptAt_92 gimages_93 _ _ _ ⟨(by show 0 ≤ v_100.toInt; omega), (by show v_100.toInt ≤ 8; omega), (by show nkeptAt_92.toInt = 122 + 2 * v_100.toInt; omega), (FRM_put (FRM_put hi_71_3 egimages_81 (by omega)) egimages_93 (by omega))⟩ (by omega) hw99 (lv_sub hl101 [0, 1] rfl)
        exact loop_68 (Int.toNat (8 - 0) + 1) 0 nkeptAt_61 gimages_62 _ _ _ ⟨(by show 0 ≤ (0 : Int32).toInt; have k_0 : (0 : Int32).toInt = 0 := (by decide +kernel); omega), (by show (0 : Int32).toInt ≤ 8; have k_0 : (0 : Int32).toInt = 0 := (by decide +kernel); omega), (by show nkeptAt_61.toInt = 122 + 2 * (0 : Int32).toInt; have k_0 : (0 : Int32).toInt = 0 := (by decide +kernel); omega), FRM_nil⟩ (by have k_0 : (0 : Int32).toInt = 0 := (by decide +kernel); omega) hw66 (lv_sub hl67 [0, 1] rfl)
      · skip
        have hc_21 := nleE (a := 10) (b := x_15.toInt) (by decide +kernel) rfl c_21
        refine lv_aload_n (pc := 20) E.1 E.2.1 dX12_keepsVillage_20 rfl (lv_at hl20 1 rfl) ?_
        refine x_get (pc := 21) (T := TX12) (N := 70) (ci := 12) (v := .ref (mr 7)) E hw19 inX12 0 7 q_1406 rfl rfl (by decide) rfl rfl dX12_keepsVillage_21 ?_
        refine lv_iload_n (pc := 24) E.1 E.2.1 dX12_keepsVillage_24 rfl (lv_at hl20 0 rfl) ?_
        refine lv_aload_n (pc := 25) E.1 E.2.1 dX12_keepsVillage_25 rfl (lv_at hl20 1 rfl) ?_
        refine lv_aload_n (pc := 26) E.1 E.2.1 dX12_keepsVillage_26 rfl (lv_at hl20 1 rfl) ?_
        refine x_get (pc := 27) (T := TX12) (N := 70) (ci := 12) (v := .ref (mr 7)) E hw19 inX12 0 7 q_1406 rfl rfl (by decide) rfl rfl dX12_keepsVillage_27 ?_
        refine lv_iload_n (pc := 30) E.1 E.2.1 dX12_keepsVillage_30 rfl (lv_at hl20 0 rfl) ?_
        refine x_iald (pc := 31) (f := (mf 7)) E hw19 4 rfl (inbE (a := x_15.toInt) (n := 10) rfl (by omega)) dX12_keepsVillage_31 ?_
        refine lv_topi (fun v_102 ev_102 => ?_)
        refine cm_i (pc := 32) hw19 (rn_M (As := [.int v_102]) (rest := [.int x_15, .ref (mr 7)]) E hw19 (s_kept1 l D cI cJ _ M mr (upd mi 68 x_16) (va_up mf 69 g_17) mg v_102 h0 (by show 0 ≤ x_16.toInt ∧ x_16.toInt ≤ 3599; omega)) (gdV q_2125 q_2127 q_146 q_162 q_2128) hdV_X12_kept ⟨rfl, rfl⟩ ⟨(Nat.le_of_ble_eq_true rfl), (Nat.le_of_ble_eq_true rfl)⟩ ⟨(Nat.le_of_ble_eq_true rfl), (Nat.le_of_ble_eq_true rfl)⟩ 12 rfl rfl rfl rfl hl20.1 rfl (Nat.le_of_ble_eq_true rfl) dX12_keepsVillage_32) (fun r_104 u_103 H1 locs hp hw105 => ?_)
        obtain ⟨nkeptAt_106, gimages_107⟩ := u_103
        generalize H1 = H at hw105 ⊢
        have hw108 : WD D A s.heap (MW cI cJ M mr (upd mi 68 nkeptAt_106) (va_up mf 69 gimages_107) mg) H locs := hw105
        obtain ⟨hp_109, hp_110⟩ := hp
        have hp_109 : nkeptAt_106.toInt = x_16.toInt + 1 := hp_109
        have hp_110 : (gimages_107 = upd g_17 (x_16).toNatClampNeg v_102 ∧ r_104 = v_102) := hp_110
        obtain ⟨egimages_107, rfl⟩ := hp_110
        refine x_iastG (pc := 35) (f := (mf 7)) (wf := fun g => (MW cI cJ M mr (upd mi 68 nkeptAt_106) (va_up (va_up mf 7 g) 69 gimages_107) mg)) E hw108 4 rfl (inbE (a := x_15.toInt) (n := 10) rfl (by omega)) (fun _ => rfl) dX12_keepsVillage_35 (fun g_111 H locs eg_111 hw112 => ?_)
        obtain rfl : g_111 = (mf 7) := by rw [eg_111]; exact upd_same ev_102
        have hw113 : WD D A s.heap (MW cI cJ M mr (upd mi 68 nkeptAt_106) (va_up mf 69 gimages_107) mg) H locs := hw112
        refine lv_aload_n (pc := 36) E.1 E.2.1 dX12_keepsVillage_36 rfl (lv_at hl20 1 rfl) ?_
        refine x_get (pc := 37) (T := TX12) (N := 70) (ci := 12) (v := .ref (mr 8)) E hw113 inX12 0 8 q_1407 rfl rfl (by decide) rfl rfl dX12_keepsVillage_37 ?_
        refine lv_iload_n (pc := 40) E.1 E.2.1 dX12_keepsVillage_40 rfl (lv_at hl20 0 rfl) ?_
        refine lv_aload_n (pc := 41) E.1 E.2.1 dX12_keepsVillage_41 rfl (lv_at hl20 1 rfl) ?_
        refine lv_aload_n (pc := 42) E.1 E.2.1 dX12_keepsVillage_42 rfl (lv_at hl20 1 rfl) ?_
        refine x_get (pc := 43) (T := TX12) (N := 70) (ci := 12) (v := .ref (mr 8)) E hw113 inX12 0 8 q_1407 rfl rfl (by decide) rfl rfl dX12_keepsVillage_43 ?_
        refine lv_iload_n (pc := 46) E.1 E.2.1 dX12_keepsVillage_46 rfl (lv_at hl20 0 rfl) ?_
        refine x_iald (pc := 47) (f := (mf 8)) E hw113 5 rfl (inbE (a := x_15.toInt) (n := 10) rfl (by omega)) dX12_keepsVillage_47 ?_
        refine lv_topi (fun v_114 ev_114 => ?_)
        refine cm_i (pc := 48) hw113 (rn_M (As := [.int v_114]) (rest := [.int x_15, .ref (mr 8)]) E hw113 (s_kept1 l D cI cJ _ M mr (upd mi 68 nkeptAt_106) (va_up mf 69 gimages_107) mg v_114 h0 (by show 0 ≤ nkeptAt_106.toInt ∧ nkeptAt_106.toInt ≤ 3599; omega)) (gdV q_2125 q_2127 q_146 q_162 q_2128) hdV_X12_kept ⟨rfl, rfl⟩ ⟨(Nat.le_of_ble_eq_true rfl), (Nat.le_of_ble_eq_true rfl)⟩ ⟨(Nat.le_of_ble_eq_true rfl), (Nat.le_of_ble_eq_true rfl)⟩ 12 rfl rfl rfl rfl hl20.1 rfl (Nat.le_of_ble_eq_true rfl) dX12_keepsVillage_48) (fun r_116 u_115 H1 locs hp hw117 => ?_)
        obtain ⟨nkeptAt_118, gimages_119⟩ := u_115
        generalize H1 = H at hw117 ⊢
        have hw120 : WD D A s.heap (MW cI cJ M mr (upd mi 68 nkeptAt_118) (va_up mf 69 gimages_119) mg) H locs := hw117
        obtain ⟨hp_121, hp_122⟩ := hp
        have hp_121 : nkeptAt_118.toInt = nkeptAt_106.toInt + 1 := hp_121
        have hp_122 : (gimages_119 = upd gimages_107 (nkeptAt_106).toNatClampNeg v_114 ∧ r_116 = v_114) := hp_122
        obtain ⟨egimages_119, rfl⟩ := hp_122
        refine x_iastG (pc := 51) (f := (mf 8)) (wf := fun g => (MW cI cJ M mr (upd mi 68 nkeptAt_118) (va_up (va_up mf 8 g) 69 gimages_119) mg)) E hw120 5 rfl (inbE (a := x_15.toInt) (n := 10) rfl (by omega)) (fun _ => rfl) dX12_keepsVillage_51 (fun g_123 H locs eg_123 hw124 => ?_)
        obtain rfl : g_123 = (mf 8) := by rw [eg_123]; exact upd_same ev_114
        have hw125 : WD D A s.heap (MW cI cJ M mr (upd mi 68 nkeptAt_118) (va_up mf 69 gimages_119) mg) H locs := hw124
        refine lv_aload_n (pc := 52) E.1 E.2.1 dX12_keepsVillage_52 rfl (lv_at hl20 1 rfl) ?_
        refine x_get (pc := 53) (T := TX12) (N := 70) (ci := 12) (v := .ref (mr 9)) E hw125 inX12 0 9 q_1408 rfl rfl (by decide) rfl rfl dX12_keepsVillage_53 ?_
        refine lv_iload_n (pc := 56) E.1 E.2.1 dX12_keepsVillage_56 rfl (lv_at hl20 0 rfl) ?_
        refine lv_aload_n (pc := 57) E.1 E.2.1 dX12_keepsVillage_57 rfl (lv_at hl20 1 rfl) ?_
        refine lv_aload_n (pc := 58) E.1 E.2.1 dX12_keepsVillage_58 rfl (lv_at hl20 1 rfl) ?_
        refine x_get (pc := 59) (T := TX12) (N := 70) (ci := 12) (v := .ref (mr 9)) E hw125 inX12 0 9 q_1408 rfl rfl (by decide) rfl rfl dX12_keepsVillage_59 ?_
        refine lv_iload_n (pc := 62) E.1 E.2.1 dX12_keepsVillage_62 rfl (lv_at hl20 0 rfl) ?_
        refine x_iald (pc := 63) (f := (mf 9)) E hw125 6 rfl (inbE (a := x_15.toInt) (n := 10) rfl (by omega)) dX12_keepsVillage_63 ?_
        refine lv_topi (fun v_126 ev_126 => ?_)
        refine cm_i (pc := 64) hw125 (rn_M (As := [.int v_126]) (rest := [.int x_15, .ref (mr 9)]) E hw125 (s_kept1 l D cI cJ _ M mr (upd mi 68 nkeptAt_118) (va_up mf 69 gimages_119) mg v_126 h0 (by show 0 ≤ nkeptAt_118.toInt ∧ nkeptAt_118.toInt ≤ 3599; omega)) (gdV q_2125 q_2127 q_146 q_162 q_2128) hdV_X12_kept ⟨rfl, rfl⟩ ⟨(Nat.le_of_ble_eq_true rfl), (Nat.le_of_ble_eq_true rfl)⟩ ⟨(Nat.le_of_ble_eq_true rfl), (Nat.le_of_ble_eq_true rfl)⟩ 12 rfl rfl rfl rfl hl20.1 rfl (Nat.le_of_ble_eq_true rfl) dX12_keepsVillage_64) (fun r_128 u_127 H1 locs hp hw129 => ?_)
        obtain ⟨nkeptAt_130, gimages_131⟩ := u_127
        generalize H1 = H at hw129 ⊢
        have hw132 : WD D A s.heap (MW cI cJ M mr (upd mi 68 nkeptAt_130) (va_up mf 69 gimages_131) mg) H locs := hw129
        obtain ⟨hp_133, hp_134⟩ := hp
        have hp_133 : nkeptAt_130.toInt = nkeptAt_118.toInt + 1 := hp_133
        have hp_134 : (gimages_131 = upd gimages_119 (nkeptAt_118).toNatClampNeg v_126 ∧ r_128 = v_126) := hp_134
        obtain ⟨egimages_131, rfl⟩ := hp_134
        refine x_iastG (pc := 67) (f := (mf 9)) (wf := fun g => (MW cI cJ M mr (upd mi 68 nkeptAt_130) (va_up (va_up mf 9 g) 69 gimages_131) mg)) E hw132 6 rfl (inbE (a := x_15.toInt) (n := 10) rfl (by omega)) (fun _ => rfl) dX12_keepsVillage_67 (fun g_135 H locs eg_135 hw136 => ?_)
        obtain rfl : g_135 = (mf 9) := by rw [eg_135]; exact upd_same ev_126
        have hw137 : WD D A s.heap (MW cI cJ M mr (upd mi 68 nkeptAt_130) (va_up mf 69 gimages_131) mg) H locs := hw136
        refine lv_aload_n (pc := 68) E.1 E.2.1 dX12_keepsVillage_68 rfl (lv_at hl20 1 rfl) ?_
        refine x_get (pc := 69) (T := TX12) (N := 70) (ci := 12) (v := .ref (mr 10)) E hw137 inX12 0 10 q_1409 rfl rfl (by decide) rfl rfl dX12_keepsVillage_69 ?_
        refine lv_iload_n (pc := 72) E.1 E.2.1 dX12_keepsVillage_72 rfl (lv_at hl20 0 rfl) ?_
        refine lv_aload_n (pc := 73) E.1 E.2.1 dX12_keepsVillage_73 rfl (lv_at hl20 1 rfl) ?_
        refine lv_aload_n (pc := 74) E.1 E.2.1 dX12_keepsVillage_74 rfl (lv_at hl20 1 rfl) ?_
        refine x_get (pc := 75) (T := TX12) (N := 70) (ci := 12) (v := .ref (mr 10)) E hw137 inX12 0 10 q_1409 rfl rfl (by decide) rfl rfl dX12_keepsVillage_75 ?_
        refine lv_iload_n (pc := 78) E.1 E.2.1 dX12_keepsVillage_78 rfl (lv_at hl20 0 rfl) ?_
        refine x_iald (pc := 79) (f := (mf 10)) E hw137 7 rfl (inbE (a := x_15.toInt) (n := 10) rfl (by omega)) dX12_keepsVillage_79 ?_
        refine lv_topi (fun v_138 ev_138 => ?_)
        refine cm_i (pc := 80) hw137 (rn_M (As := [.int v_138]) (rest := [.int x_15, .ref (mr 10)]) E hw137 (s_kept1 l D cI cJ _ M mr (upd mi 68 nkeptAt_130) (va_up mf 69 gimages_131) mg v_138 h0 (by show 0 ≤ nkeptAt_130.toInt ∧ nkeptAt_130.toInt ≤ 3599; omega)) (gdV q_2125 q_2127 q_146 q_162 q_2128) hdV_X12_kept ⟨rfl, rfl⟩ ⟨(Nat.le_of_ble_eq_true rfl), (Nat.le_of_ble_eq_true rfl)⟩ ⟨(Nat.le_of_ble_eq_true rfl), (Nat.le_of_ble_eq_true rfl)⟩ 12 rfl rfl rfl rfl hl20.1 rfl (Nat.le_of_ble_eq_true rfl) dX12_keepsVillage_80) (fun r_140 u_139 H1 locs hp hw141 => ?_)
        obtain ⟨nkeptAt_142, gimages_143⟩ := u_139
        generalize H1 = H at hw141 ⊢
        have hw144 : WD D A s.heap (MW cI cJ M mr (upd mi 68 nkeptAt_142) (va_up mf 69 gimages_143) mg) H locs := hw141
        obtain ⟨hp_145, hp_146⟩ := hp
        have hp_145 : nkeptAt_142.toInt = nkeptAt_130.toInt + 1 := hp_145
        have hp_146 : (gimages_143 = upd gimages_131 (nkeptAt_130).toNatClampNeg v_138 ∧ r_140 = v_138) := hp_146
        obtain ⟨egimages_143, rfl⟩ := hp_146
        refine x_iastG (pc := 83) (f := (mf 10)) (wf := fun g => (MW cI cJ M mr (upd mi 68 nkeptAt_142) (va_up (va_up mf 10 g) 69 gimages_143) mg)) E hw144 7 rfl (inbE (a := x_15.toInt) (n := 10) rfl (by omega)) (fun _ => rfl) dX12_keepsVillage_83 (fun g_147 H locs eg_147 hw148 => ?_)
        obtain rfl : g_147 = (mf 10) := by rw [eg_147]; exact upd_same ev_138
        have hw149 : WD D A s.heap (MW cI cJ M mr (upd mi 68 nkeptAt_142) (va_up mf 69 gimages_143) mg) H locs := hw148
        refine lv_aload_n (pc := 84) E.1 E.2.1 dX12_keepsVillage_84 rfl (lv_at hl20 1 rfl) ?_
        refine x_get (pc := 85) (T := TX12) (N := 70) (ci := 12) (v := .ref (mr 11)) E hw149 inX12 0 11 q_1410 rfl rfl (by decide) rfl rfl dX12_keepsVillage_85 ?_
        refine lv_iload_n (pc := 88) E.1 E.2.1 dX12_keepsVillage_88 rfl (lv_at hl20 0 rfl) ?_
        refine lv_aload_n (pc := 89) E.1 E.2.1 dX12_keepsVillage_89 rfl (lv_at hl20 1 rfl) ?_
        refine lv_aload_n (pc := 90) E.1 E.2.1 dX12_keepsVillage_90 rfl (lv_at hl20 1 rfl) ?_
        refine x_get (pc := 91) (T := TX12) (N := 70) (ci := 12) (v := .ref (mr 11)) E hw149 inX12 0 11 q_1410 rfl rfl (by decide) rfl rfl dX12_keepsVillage_91 ?_
        refine lv_iload_n (pc := 94) E.1 E.2.1 dX12_keepsVillage_94 rfl (lv_at hl20 0 rfl) ?_
        refine x_iald (pc := 95) (f := (mf 11)) E hw149 8 rfl (inbE (a := x_15.toInt) (n := 10) rfl (by omega)) dX12_keepsVillage_95 ?_
        refine lv_topi (fun v_150 ev_150 => ?_)
        refine cm_i (pc := 96) hw149 (rn_M (As := [.int v_150]) (rest := [.int x_15, .ref (mr 11)]) E hw149 (s_kept1 l D cI cJ _ M mr (upd mi 68 nkeptAt_142) (va_up mf 69 gimages_143) mg v_150 h0 (by show 0 ≤ nkeptAt_142.toInt ∧ nkeptAt_142.toInt ≤ 3599; omega)) (gdV q_2125 q_2127 q_146 q_162 q_2128) hdV_X12_kept ⟨rfl, rfl⟩ ⟨(Nat.le_of_ble_eq_true rfl), (Nat.le_of_ble_eq_true rfl)⟩ ⟨(Nat.le_of_ble_eq_true rfl), (Nat.le_of_ble_eq_true rfl)⟩ 12 rfl rfl rfl rfl hl20.1 rfl (Nat.le_of_ble_eq_true rfl) dX12_keepsVillage_96) (fun r_152 u_151 H1 locs hp hw153 => ?_)
        obtain ⟨nkeptAt_154, gimages_155⟩ := u_151
        generalize H1 = H at hw153 ⊢
        have hw156 : WD D A s.heap (MW cI cJ M mr (upd mi 68 nkeptAt_154) (va_up mf 69 gimages_155) mg) H locs := hw153
        obtain ⟨hp_157, hp_158⟩ := hp
        have hp_157 : nkeptAt_154.toInt = nkeptAt_142.toInt + 1 := hp_157
        have hp_158 : (gimages_155 = upd gimages_143 (nkeptAt_142).toNatClampNeg v_150 ∧ r_152 = v_150) := hp_158
        obtain ⟨egimages_155, rfl⟩ := hp_158
        refine x_iastG (pc := 99) (f := (mf 11)) (wf := fun g => (MW cI cJ M mr (upd mi 68 nkeptAt_154) (va_up (va_up mf 11 g) 69 gimages_155) mg)) E hw156 8 rfl (inbE (a := x_15.toInt) (n := 10) rfl (by omega)) (fun _ => rfl) dX12_keepsVillage_99 (fun g_159 H locs eg_159 hw160 => ?_)
        obtain rfl : g_159 = (mf 11) := by rw [eg_159]; exact upd_same ev_150
        have hw161 : WD D A s.heap (MW cI cJ M mr (upd mi 68 nkeptAt_154) (va_up mf 69 gimages_155) mg) H locs := hw160
        obtain ⟨v_162, ev_162⟩ : ∃ z : Int32, x_15 + Int32.ofInt (1) = z := ⟨_, rfl⟩
        have hv_162 : v_162.toInt = x_15.toInt + (1) := by rw [← ev_162]; exact incE rfl (by decide) (by omega)
        refine lv_iinc (pc := 100) (v := v_162) (lv' := [(1, .int v_162), (0, .ref M)]) E.1 E.2.1 dX12_keepsVillage_100 hl20 (k := 0) rfl ev_162 (by decide) rfl (fun ls hl163 => ?_)
        refine lv_goto (pc := 103) (tgt := 14) E.1 E.2.1 dX12_keepsVillage_103 (by decide) ?_
        exact ih_18 v_162 nkeptAt_154 gimages_155 _ _ _ ⟨(by show 0 ≤ v_162.toInt; omega), (by show v_162.toInt ≤ 10; omega), (by show nkeptAt_154.toInt = 67 + 5 * v_162.toInt; omega), (FRM_put (FRM_put (FRM_put (FRM_put (FRM_put hi_17_3 egimages_107 (by omega)) egimages_119 (by omega)) egimages_131 (by omega)) egimages_143 (by omega)) egimages_155 (by omega)), (SGT_keep (SGT_keep (SGT_keep (SGT_put (SGT_keep hi_17_4 egimages_107 (by omega) (fun j hj => by omega)) egimages_119 (by omega) (by omega) ev_114 (by omega) (by decide) (m := v_162.toInt) (by omega)) egimages_131 (by omega) (fun j hj => by omega)) egimages_143 (by omega) (fun j hj => by omega)) egimages_155 (by omega) (fun j hj => by omega)), (SGT_keep (SGT_keep (SGT_keep (SGT_keep (SGT_put hi_17_5 egimages_107 (by omega) (by omega) ev_102 (by omega) (by decide) (m := v_162.toInt) (by omega)) egimages_119 (by omega) (fun j hj => by omega)) egimages_131 (by omega) (fun j hj => by omega)) egimages_143 (by omega) (fun j hj => by omega)) egimages_155 (by omega) (fun j hj => by omega)), (SGT_put (SGT_keep (SGT_keep (SGT_keep (SGT_keep hi_17_6 egimages_107 (by omega) (fun j hj => by omega)) egimages_119 (by omega) (fun j hj => by omega)) egimages_131 (by omega) (fun j hj => by omega)) egimages_143 (by omega) (fun j hj => by omega)) egimages_155 (by omega) (by omega) ev_150 (by omega) (by decide) (m := v_162.toInt) (by omega))⟩ (by omega) hw161 (lv_sub hl163 [0, 1] rfl)
  exact loop_14 (Int.toNat (10 - 0) + 1) 0 nkeptAt_7 gimages_8 _ _ _ ⟨(by show 0 ≤ (0 : Int32).toInt; have k_0 : (0 : Int32).toInt = 0 := (by decide +kernel); omega), (by show (0 : Int32).toInt ≤ 10; have k_0 : (0 : Int32).toInt = 0 := (by decide +kernel); omega), (by show nkeptAt_7.toInt = 67 + 5 * (0 : Int32).toInt; have k_0 : (0 : Int32).toInt = 0 := (by decide +kernel); omega), FRM_nil, (SGT_nil (by decide +kernel)), (SGT_nil (by decide +kernel)), (SGT_nil (by decide +kernel))⟩ (by have k_0 : (0 : Int32).toInt = 0 := (by decide +kernel); omega) hw12 (lv_sub hl13 [0, 1] rfl)
set_option maxHeartbeats 4000000 in
set_option maxRecDepth 100000 in
theorem s_keepsVillage0B (l : Launch) (D : va_G) (cI cJ : ClassId) (sz M : Nat) (mr : Nat → Nat) (mi : Nat → Int32) (mf : Nat → Nat → Int32) (mg : Nat → Nat → Int64)  (h0 : (mi 66).toInt = 0) (h1 : (mi 68).toInt = 66) : Met l yX12_keepsVillage (Cond.code yX12_keepsVillage cX12_keepsVillage 2 none :: GW) ({ frames := 2, cells := 0, slots := 0, locals := 61 } : Room) (va_Pc [.ref M] (PW D cI cJ sz (MW cI cJ M mr mi mf mg) xT)) (va_Qv (fun (u : Int32 × Int32 × (Nat → Int32) × (Nat → Int32) × (Nat → Int32) × (Nat → Int32) × (Nat → Int32) × Int32 × Int32 × Int32 × Int32 × Int32 × (Nat → Int32) × (Nat → Int32)) => (u.1.toInt = 138) ∧ ((u.2.1.toInt = ((mf 69) 66).toInt ∧ SGT (mf 69) u.2.2.2.1 0 68 5 10 ∧ u.2.2.2.2.2.2.2.2.2.2.1.toInt = ((mf 69) 120).toInt ∧ u.2.2.2.2.2.2.2.2.2.2.2.1.toInt = ((mf 69) 121).toInt)) ∧ (SGT (mf 69) u.2.2.1 0 67 5 10) ∧ (SGT (mf 69) u.2.2.2.2.2.2.1 0 71 5 10)) (fun u => QW D cI cJ (va_A (MW cI cJ M mr mi mf mg) sz) ((fun (u : Int32 × Int32 × (Nat → Int32) × (Nat → Int32) × (Nat → Int32) × (Nat → Int32) × (Nat → Int32) × Int32 × Int32 × Int32 × Int32 × Int32 × (Nat → Int32) × (Nat → Int32)) => (MW cI cJ M mr (upd (upd (upd (upd (upd (upd (upd mi 68 u.1) 6 u.2.1) 12 u.2.2.2.2.2.2.2.1) 13 u.2.2.2.2.2.2.2.2.1) 14 u.2.2.2.2.2.2.2.2.2.1) 15 u.2.2.2.2.2.2.2.2.2.2.1) 17 u.2.2.2.2.2.2.2.2.2.2.2.1) (va_up (va_up (va_up (va_up (va_up (va_up (va_up mf 7 u.2.2.1) 8 u.2.2.2.1) 9 u.2.2.2.2.1) 10 u.2.2.2.2.2.1) 11 u.2.2.2.2.2.2.1) 18 u.2.2.2.2.2.2.2.2.2.2.2.2.1) 19 u.2.2.2.2.2.2.2.2.2.2.2.2.2) mg)) u)) (va_A (MW cI cJ M mr mi mf mg) sz)) 0 0 (va_A (MW cI cJ M mr mi mf mg) sz) := by
  refine mk_met (y := yX12_keepsVillage) (bytes := cX12_keepsVillage) (maxL := 2) (avs := [.ref M]) (WS := (MW cI cJ M mr mi mf mg)) (Qf := fun A => va_Qv (fun (u : Int32 × Int32 × (Nat → Int32) × (Nat → Int32) × (Nat → Int32) × (Nat → Int32) × (Nat → Int32) × Int32 × Int32 × Int32 × Int32 × Int32 × (Nat → Int32) × (Nat → Int32)) => (u.1.toInt = 138) ∧ ((u.2.1.toInt = ((mf 69) 66).toInt ∧ SGT (mf 69) u.2.2.2.1 0 68 5 10 ∧ u.2.2.2.2.2.2.2.2.2.2.1.toInt = ((mf 69) 120).toInt ∧ u.2.2.2.2.2.2.2.2.2.2.2.1.toInt = ((mf 69) 121).toInt)) ∧ (SGT (mf 69) u.2.2.1 0 67 5 10) ∧ (SGT (mf 69) u.2.2.2.2.2.2.1 0 71 5 10)) (fun u => QW D cI cJ A ((fun (u : Int32 × Int32 × (Nat → Int32) × (Nat → Int32) × (Nat → Int32) × (Nat → Int32) × (Nat → Int32) × Int32 × Int32 × Int32 × Int32 × Int32 × (Nat → Int32) × (Nat → Int32)) => (MW cI cJ M mr (upd (upd (upd (upd (upd (upd (upd mi 68 u.1) 6 u.2.1) 12 u.2.2.2.2.2.2.2.1) 13 u.2.2.2.2.2.2.2.2.1) 14 u.2.2.2.2.2.2.2.2.2.1) 15 u.2.2.2.2.2.2.2.2.2.2.1) 17 u.2.2.2.2.2.2.2.2.2.2.2.1) (va_up (va_up (va_up (va_up (va_up (va_up (va_up mf 7 u.2.2.1) 8 u.2.2.2.1) 9 u.2.2.2.2.1) 10 u.2.2.2.2.2.1) 11 u.2.2.2.2.2.2.1) 18 u.2.2.2.2.2.2.2.2.2.2.2.2.1) 19 u.2.2.2.2.2.2.2.2.2.2.2.2.2) mg)) u)) A) (by decide) (Nat.le_of_ble_eq_true rfl) ?_
  intro p e s m below meth c A ls E hr hlk hnm hX hw1 hl2
  have hl3 : lv_has ls 2 [(0, .ref M)] := hl2
  refine lv_aload_n (pc := 0) E.1 E.2.1 dX12_keepsVillage_0 rfl (lv_at hl3 0 rfl) ?_
  refine lv_aload_n (pc := 1) E.1 E.2.1 dX12_keepsVillage_1 rfl (lv_at hl3 0 rfl) ?_
  refine lv_aload_n (pc := 2) E.1 E.2.1 dX12_keepsVillage_2 rfl (lv_at hl3 0 rfl) ?_
  refine x_get (pc := 3) (T := TX12) (N := 70) (ci := 12) (v := .int (mi 6)) E hw1 inX12 0 6 q_1405 rfl rfl (by decide) rfl rfl dX12_keepsVillage_3 ?_
  refine cm_i (pc := 6) hw1 (rn_M (As := [.int (mi 6)]) (rest := [.ref M]) E hw1 (s_kept0 l D cI cJ _ M mr mi mf mg (mi 6) h0 (by show 0 ≤ (mi 68).toInt ∧ (mi 68).toInt ≤ 3599; omega)) (gdV q_2125 q_2127 q_146 q_162 q_2128) hdV_X12_kept ⟨rfl, rfl⟩ ⟨(Nat.le_of_ble_eq_true rfl), (Nat.le_of_ble_eq_true rfl)⟩ ⟨(Nat.le_of_ble_eq_true rfl), (Nat.le_of_ble_eq_true rfl)⟩ 12 rfl rfl rfl rfl hl3.1 rfl (Nat.le_of_ble_eq_true rfl) dX12_keepsVillage_6) (fun r_5 u_4 H1 locs hp hw6 => ?_)
  obtain ⟨nkeptAt_7, rfl⟩ : ∃ z, z = u_4 := ⟨_, rfl⟩
  generalize H1 = H at hw6 ⊢
  have hw8 : WD D A s.heap (MW cI cJ M mr (upd mi 68 nkeptAt_7) mf mg) H locs := hw6
  obtain ⟨hp_9, hp_10⟩ := hp
  have hp_9 : nkeptAt_7.toInt = (mi 68).toInt + 1 := hp_9
  have hp_10 : r_5 = (mf 69) ((mi 68)).toNatClampNeg := hp_10
  have er_5 := hp_10
  refine x_put (pc := 9) (T := TX12) (N := 70) (ci := 12) (ws' := (MW cI cJ M mr (upd (upd mi 6 r_5) 68 nkeptAt_7) mf mg)) E hw8 inX12 tyX12_ok nmX12 0 6 q_1405 rfl rfl (by decide) rfl rfl rfl rfl (Nat.le_of_ble_eq_true rfl) rfl dX12_keepsVillage_9 (fun H locs hw11 => ?_)
  refine lv_iconst (pc := 12) (v := 0) E.1 E.2.1 dX12_keepsVillage_12 (by decide +kernel) ?_
  refine lv_istore_n (pc := 13) (lv' := [(1, .int 0), (0, .ref M)]) E.1 E.2.1 dX12_keepsVillage_13 rfl hl3 (by decide) rfl (fun ls hl12 => ?_)
  have loop_13 : ∀ (k : Nat) (x_14 : Int32) (x_15 : Int32) (g_16 : Nat → Int32) (g_17 : Nat → Int32) (g_18 : Nat → Int32) (g_19 : Nat → Int32) (g_20 : Nat → Int32) (H : Heap) (locs : List Loc) (ls : Array Slot), (0 ≤ x_14.toInt) ∧ (x_14.toInt ≤ 10) ∧ (x_15.toInt = 67 + 5 * x_14.toInt) ∧ (SGT (mf 69) g_17 0 68 5 x_14.toInt) ∧ (SGT (mf 69) g_16 0 67 5 x_14.toInt) ∧ (SGT (mf 69) g_20 0 71 5 x_14.toInt) → 10 - x_14.toInt < (k : Int) → WD D A s.heap (MW cI cJ M mr (upd (upd mi 6 r_5) 68 x_15) (va_up (va_up (va_up (va_up (va_up mf 7 g_16) 8 g_17) 9 g_18) 10 g_19) 11 g_20) mg) H locs → lv_has ls 2 [(1, .int x_14), (0, .ref M)] → W p l e ({ frames := 2, cells := 0, slots := 0, locals := 61 } : Room) s m ([.ref M] : List Value).toArray below meth c H locs 0 0 (MQ below (va_Qv (fun (u : Int32 × Int32 × (Nat → Int32) × (Nat → Int32) × (Nat → Int32) × (Nat → Int32) × (Nat → Int32) × Int32 × Int32 × Int32 × Int32 × Int32 × (Nat → Int32) × (Nat → Int32)) => (u.1.toInt = 138) ∧ ((u.2.1.toInt = ((mf 69) 66).toInt ∧ SGT (mf 69) u.2.2.2.1 0 68 5 10 ∧ u.2.2.2.2.2.2.2.2.2.2.1.toInt = ((mf 69) 120).toInt ∧ u.2.2.2.2.2.2.2.2.2.2.2.1.toInt = ((mf 69) 121).toInt)) ∧ (SGT (mf 69) u.2.2.1 0 67 5 10) ∧ (SGT (mf 69) u.2.2.2.2.2.2.1 0 71 5 10)) (fun u => QW D cI cJ A ((fun (u : Int32 × Int32 × (Nat → Int32) × (Nat → Int32) × (Nat → Int32) × (Nat → Int32) × (Nat → Int32) × Int32 × Int32 × Int32 × Int32 × Int32 × (Nat → Int32) × (Nat → Int32)) => (MW cI cJ M mr (upd (upd (upd (upd (upd (upd (upd mi 68 u.1) 6 u.2.1) 12 u.2.2.2.2.2.2.2.1) 13 u.2.2.2.2.2.2.2.2.1) 14 u.2.2.2.2.2.2.2.2.2.1) 15 u.2.2.2.2.2.2.2.2.2.2.1) 17 u.2.2.2.2.2.2.2.2.2.2.2.1) (va_up (va_up (va_up (va_up (va_up (va_up (va_up mf 7 u.2.2.1) 8 u.2.2.2.1) 9 u.2.2.2.2.1) 10 u.2.2.2.2.2.1) 11 u.2.2.2.2.2.2.1) 18 u.2.2.2.2.2.2.2.2.2.2.2.2.1) 19 u.2.2.2.2.2.2.2.2.2.2.2.2.2) mg)) u)) A) ([.ref M] : List Value).toArray s 0 0 A) (F0 m 14 ls []) := by
    intro k
    induction k with
    | zero =>
      intro x_14 x_15 g_16 g_17 g_18 g_19 g_20 _ _ _ hinv hm
      obtain ⟨hi_20_0, hi_20_1, hi_20_2, hi_20_3, hi_20_4, hi_20_5⟩ := hinv
      exact absurd hm (by omega)
    | succ k ih_21 =>
      intro x_14 x_15 g_16 g_17 g_18 g_19 g_20 H locs ls hinv hm hw22 hl23
      obtain ⟨hi_20_0, hi_20_1, hi_20_2, hi_20_3, hi_20_4, hi_20_5⟩ := hinv
      refine lv_iload_n (pc := 14) E.1 E.2.1 dX12_keepsVillage_14 rfl (lv_at hl23 0 rfl) ?_
      refine lv_bipush (pc := 15) (v := 10) E.1 E.2.1 dX12_keepsVillage_15 (by decide +kernel) ?_
      refine lv_icmp_ge (pc := 17) (tgt := 106) E.1 E.2.1 dX12_keepsVillage_17 (by decide) (fun c_24 => ?_) (fun c_24 => ?_)
      · skip
        have hc_24 := leE (a := 10) (b := x_14.toInt) (by decide +kernel) rfl c_24
        refine lv_aload_n (pc := 106) E.1 E.2.1 dX12_keepsVillage_106 rfl (lv_at hl23 1 rfl) ?_
        refine lv_aload_n (pc := 107) E.1 E.2.1 dX12_keepsVillage_107 rfl (lv_at hl23 1 rfl) ?_
        refine lv_aload_n (pc := 108) E.1 E.2.1 dX12_keepsVillage_108 rfl (lv_at hl23 1 rfl) ?_
        refine x_get (pc := 109) (T := TX12) (N := 70) (ci := 12) (v := .int (mi 12)) E hw22 inX12 0 12 q_1411 rfl rfl (by decide) rfl rfl dX12_keepsVillage_109 ?_
        refine cm_i (pc := 112) hw22 (rn_M (As := [.int (mi 12)]) (rest := [.ref M]) E hw22 (s_kept0 l D cI cJ _ M mr (upd (upd mi 6 r_5) 68 x_15) (va_up (va_up (va_up (va_up (va_up mf 7 g_16) 8 g_17) 9 g_18) 10 g_19) 11 g_20) mg (mi 12) h0 (by show 0 ≤ x_15.toInt ∧ x_15.toInt ≤ 3599; omega)) (gdV q_2125 q_2127 q_146 q_162 q_2128) hdV_X12_kept ⟨rfl, rfl⟩ ⟨(Nat.le_of_ble_eq_true rfl), (Nat.le_of_ble_eq_true rfl)⟩ ⟨(Nat.le_of_ble_eq_true rfl), (Nat.le_of_ble_eq_true rfl)⟩ 12 rfl rfl rfl rfl hl23.1 rfl (Nat.le_of_ble_eq_true rfl) dX12_keepsVillage_112) (fun r_26 u_25 H1 locs hp hw27 => ?_)
        obtain ⟨nkeptAt_28, rfl⟩ : ∃ z, z = u_25 := ⟨_, rfl⟩
        generalize H1 = H at hw27 ⊢
        have hw29 : WD D A s.heap (MW cI cJ M mr (upd (upd mi 6 r_5) 68 nkeptAt_28) (va_up (va_up (va_up (va_up (va_up mf 7 g_16) 8 g_17) 9 g_18) 10 g_19) 11 g_20) mg) H locs := hw27
        obtain ⟨hp_30, hp_31⟩ := hp
        have hp_30 : nkeptAt_28.toInt = x_15.toInt + 1 := hp_30
        have hp_31 : r_26 = (mf 69) (x_15).toNatClampNeg := hp_31
        have er_26 := hp_31
        refine x_put (pc := 115) (T := TX12) (N := 70) (ci := 12) (ws' := (MW cI cJ M mr (upd (upd (upd mi 6 r_5) 12 r_26) 68 nkeptAt_28) (va_up (va_up (va_up (va_up (va_up mf 7 g_16) 8 g_17) 9 g_18) 10 g_19) 11 g_20) mg)) E hw29 inX12 tyX12_ok nmX12 0 12 q_1411 rfl rfl (by decide) rfl rfl rfl rfl (Nat.le_of_ble_eq_true rfl) rfl dX12_keepsVillage_115 (fun H locs hw32 => ?_)
        refine lv_aload_n (pc := 118) E.1 E.2.1 dX12_keepsVillage_118 rfl (lv_at hl23 1 rfl) ?_
        refine lv_aload_n (pc := 119) E.1 E.2.1 dX12_keepsVillage_119 rfl (lv_at hl23 1 rfl) ?_
        refine lv_aload_n (pc := 120) E.1 E.2.1 dX12_keepsVillage_120 rfl (lv_at hl23 1 rfl) ?_
        refine x_get (pc := 121) (T := TX12) (N := 70) (ci := 12) (v := .int (mi 13)) E hw32 inX12 0 13 q_1412 rfl rfl (by decide) rfl rfl dX12_keepsVillage_121 ?_
        refine cm_i (pc := 124) hw32 (rn_M (As := [.int (mi 13)]) (rest := [.ref M]) E hw32 (s_kept0 l D cI cJ _ M mr (upd (upd (upd mi 6 r_5) 12 r_26) 68 nkeptAt_28) (va_up (va_up (va_up (va_up (va_up mf 7 g_16) 8 g_17) 9 g_18) 10 g_19) 11 g_20) mg (mi 13) h0 (by show 0 ≤ nkeptAt_28.toInt ∧ nkeptAt_28.toInt ≤ 3599; omega)) (gdV q_2125 q_2127 q_146 q_162 q_2128) hdV_X12_kept ⟨rfl, rfl⟩ ⟨(Nat.le_of_ble_eq_true rfl), (Nat.le_of_ble_eq_true rfl)⟩ ⟨(Nat.le_of_ble_eq_true rfl), (Nat.le_of_ble_eq_true rfl)⟩ 12 rfl rfl rfl rfl hl23.1 rfl (Nat.le_of_ble_eq_true rfl) dX12_keepsVillage_124) (fun r_34 u_33 H1 locs hp hw35 => ?_)
        obtain ⟨nkeptAt_36, rfl⟩ : ∃ z, z = u_33 := ⟨_, rfl⟩
        generalize H1 = H at hw35 ⊢
        have hw37 : WD D A s.heap (MW cI cJ M mr (upd (upd (upd mi 6 r_5) 12 r_26) 68 nkeptAt_36) (va_up (va_up (va_up (va_up (va_up mf 7 g_16) 8 g_17) 9 g_18) 10 g_19) 11 g_20) mg) H locs := hw35
        obtain ⟨hp_38, hp_39⟩ := hp
        have hp_38 : nkeptAt_36.toInt = nkeptAt_28.toInt + 1 := hp_38
        have hp_39 : r_34 = (mf 69) (nkeptAt_28).toNatClampNeg := hp_39
        have er_34 := hp_39
        refine x_put (pc := 127) (T := TX12) (N := 70) (ci := 12) (ws' := (MW cI cJ M mr (upd (upd (upd (upd mi 6 r_5) 12 r_26) 13 r_34) 68 nkeptAt_36) (va_up (va_up (va_up (va_up (va_up mf 7 g_16) 8 g_17) 9 g_18) 10 g_19) 11 g_20) mg)) E hw37 inX12 tyX12_ok nmX12 0 13 q_1412 rfl rfl (by decide) rfl rfl rfl rfl (Nat.le_of_ble_eq_true rfl) rfl dX12_keepsVillage_127 (fun H locs hw40 => ?_)
        refine lv_aload_n (pc := 130) E.1 E.2.1 dX12_keepsVillage_130 rfl (lv_at hl23 1 rfl) ?_
        refine lv_aload_n (pc := 131) E.1 E.2.1 dX12_keepsVillage_131 rfl (lv_at hl23 1 rfl) ?_
        refine lv_aload_n (pc := 132) E.1 E.2.1 dX12_keepsVillage_132 rfl (lv_at hl23 1 rfl) ?_
        refine x_get (pc := 133) (T := TX12) (N := 70) (ci := 12) (v := .int (mi 14)) E hw40 inX12 0 14 q_1413 rfl rfl (by decide) rfl rfl dX12_keepsVillage_133 ?_
        refine cm_i (pc := 136) hw40 (rn_M (As := [.int (mi 14)]) (rest := [.ref M]) E hw40 (s_kept0 l D cI cJ _ M mr (upd (upd (upd (upd mi 6 r_5) 12 r_26) 13 r_34) 68 nkeptAt_36) (va_up (va_up (va_up (va_up (va_up mf 7 g_16) 8 g_17) 9 g_18) 10 g_19) 11 g_20) mg (mi 14) h0 (by show 0 ≤ nkeptAt_36.toInt ∧ nkeptAt_36.toInt ≤ 3599; omega)) (gdV q_2125 q_2127 q_146 q_162 q_2128) hdV_X12_kept ⟨rfl, rfl⟩ ⟨(Nat.le_of_ble_eq_true rfl), (Nat.le_of_ble_eq_true rfl)⟩ ⟨(Nat.le_of_ble_eq_true rfl), (Nat.le_of_ble_eq_true rfl)⟩ 12 rfl rfl rfl rfl hl23.1 rfl (Nat.le_of_ble_eq_true rfl) dX12_keepsVillage_136) (fun r_42 u_41 H1 locs hp hw43 => ?_)
        obtain ⟨nkeptAt_44, rfl⟩ : ∃ z, z = u_41 := ⟨_, rfl⟩
        generalize H1 = H at hw43 ⊢
        have hw45 : WD D A s.heap (MW cI cJ M mr (upd (upd (upd (upd mi 6 r_5) 12 r_26) 13 r_34) 68 nkeptAt_44) (va_up (va_up (va_up (va_up (va_up mf 7 g_16) 8 g_17) 9 g_18) 10 g_19) 11 g_20) mg) H locs := hw43
        obtain ⟨hp_46, hp_47⟩ := hp
        have hp_46 : nkeptAt_44.toInt = nkeptAt_36.toInt + 1 := hp_46
        have hp_47 : r_42 = (mf 69) (nkeptAt_36).toNatClampNeg := hp_47
        have er_42 := hp_47
        refine x_put (pc := 139) (T := TX12) (N := 70) (ci := 12) (ws' := (MW cI cJ M mr (upd (upd (upd (upd (upd mi 6 r_5) 12 r_26) 13 r_34) 14 r_42) 68 nkeptAt_44) (va_up (va_up (va_up (va_up (va_up mf 7 g_16) 8 g_17) 9 g_18) 10 g_19) 11 g_20) mg)) E hw45 inX12 tyX12_ok nmX12 0 14 q_1413 rfl rfl (by decide) rfl rfl rfl rfl (Nat.le_of_ble_eq_true rfl) rfl dX12_keepsVillage_139 (fun H locs hw48 => ?_)
        refine lv_aload_n (pc := 142) E.1 E.2.1 dX12_keepsVillage_142 rfl (lv_at hl23 1 rfl) ?_
        refine lv_aload_n (pc := 143) E.1 E.2.1 dX12_keepsVillage_143 rfl (lv_at hl23 1 rfl) ?_
        refine lv_aload_n (pc := 144) E.1 E.2.1 dX12_keepsVillage_144 rfl (lv_at hl23 1 rfl) ?_
        refine x_get (pc := 145) (T := TX12) (N := 70) (ci := 12) (v := .int (mi 15)) E hw48 inX12 0 15 q_1414 rfl rfl (by decide) rfl rfl dX12_keepsVillage_145 ?_
        refine cm_i (pc := 148) hw48 (rn_M (As := [.int (mi 15)]) (rest := [.ref M]) E hw48 (s_kept0 l D cI cJ _ M mr (upd (upd (upd (upd (upd mi 6 r_5) 12 r_26) 13 r_34) 14 r_42) 68 nkeptAt_44) (va_up (va_up (va_up (va_up (va_up mf 7 g_16) 8 g_17) 9 g_18) 10 g_19) 11 g_20) mg (mi 15) h0 (by show 0 ≤ nkeptAt_44.toInt ∧ nkeptAt_44.toInt ≤ 3599; omega)) (gdV q_2125 q_2127 q_146 q_162 q_2128) hdV_X12_kept ⟨rfl, rfl⟩ ⟨(Nat.le_of_ble_eq_true rfl), (Nat.le_of_ble_eq_true rfl)⟩ ⟨(Nat.le_of_ble_eq_true rfl), (Nat.le_of_ble_eq_true rfl)⟩ 12 rfl rfl rfl rfl hl23.1 rfl (Nat.le_of_ble_eq_true rfl) dX12_keepsVillage_148) (fun r_50 u_49 H1 locs hp hw51 => ?_)
        obtain ⟨nkeptAt_52, rfl⟩ : ∃ z, z = u_49 := ⟨_, rfl⟩
        generalize H1 = H at hw51 ⊢
        have hw53 : WD D A s.heap (MW cI cJ M mr (upd (upd (upd (upd (upd mi 6 r_5) 12 r_26) 13 r_34) 14 r_42) 68 nkeptAt_52) (va_up (va_up (va_up (va_up (va_up mf 7 g_16) 8 g_17) 9 g_18) 10 g_19) 11 g_20) mg) H locs := hw51
        obtain ⟨hp_54, hp_55⟩ := hp
        have hp_54 : nkeptAt_52.toInt = nkeptAt_44.toInt + 1 := hp_54
        have hp_55 : r_50 = (mf 69) (nkeptAt_44).toNatClampNeg := hp_55
        have er_50 := hp_55
        refine x_put (pc := 151) (T := TX12) (N := 70) (ci := 12) (ws' := (MW cI cJ M mr (upd (upd (upd (upd (upd (upd mi 6 r_5) 12 r_26) 13 r_34) 14 r_42) 15 r_50) 68 nkeptAt_52) (va_up (va_up (va_up (va_up (va_up mf 7 g_16) 8 g_17) 9 g_18) 10 g_19) 11 g_20) mg)) E hw53 inX12 tyX12_ok nmX12 0 15 q_1414 rfl rfl (by decide) rfl rfl rfl rfl (Nat.le_of_ble_eq_true rfl) rfl dX12_keepsVillage_151 (fun H locs hw56 => ?_)
        refine lv_aload_n (pc := 154) E.1 E.2.1 dX12_keepsVillage_154 rfl (lv_at hl23 1 rfl) ?_
        refine lv_aload_n (pc := 155) E.1 E.2.1 dX12_keepsVillage_155 rfl (lv_at hl23 1 rfl) ?_
        refine lv_aload_n (pc := 156) E.1 E.2.1 dX12_keepsVillage_156 rfl (lv_at hl23 1 rfl) ?_
        refine x_get (pc := 157) (T := TX12) (N := 70) (ci := 12) (v := .int (mi 17)) E hw56 inX12 0 17 q_1416 rfl rfl (by decide) rfl rfl dX12_keepsVillage_157 ?_
        refine cm_i (pc := 160) hw56 (rn_M (As := [.int (mi 17)]) (rest := [.ref M]) E hw56 (s_kept0 l D cI cJ _ M mr (upd (upd (upd (upd (upd (upd mi 6 r_5) 12 r_26) 13 r_34) 14 r_42) 15 r_50) 68 nkeptAt_52) (va_up (va_up (va_up (va_up (va_up mf 7 g_16) 8 g_17) 9 g_18) 10 g_19) 11 g_20) mg (mi 17) h0 (by show 0 ≤ nkeptAt_52.toInt ∧ nkeptAt_52.toInt ≤ 3599; omega)) (gdV q_2125 q_2127 q_146 q_162 q_2128) hdV_X12_kept ⟨rfl, rfl⟩ ⟨(Nat.le_of_ble_eq_true rfl), (Nat.le_of_ble_eq_true rfl)⟩ ⟨(Nat.le_of_ble_eq_true rfl), (Nat.le_of_ble_eq_true rfl)⟩ 12 rfl rfl rfl rfl hl23.1 rfl (Nat.le_of_ble_eq_true rfl) dX12_keepsVillage_160) (fun r_58 u_57 H1 locs hp hw59 => ?_)
        obtain ⟨nkeptAt_60, rfl⟩ : ∃ z, z = u_57 := ⟨_, rfl⟩
        generalize H1 = H at hw59 ⊢
        have hw61 : WD D A s.heap (MW cI cJ M mr (upd (upd (upd (upd (upd (upd mi 6 r_5) 12 r_26) 13 r_34) 14 r_42) 15 r_50) 68 nkeptAt_60) (va_up (va_up (va_up (va_up (va_up mf 7 g_16) 8 g_17) 9 g_18) 10 g_19) 11 g_20) mg) H locs := hw59
        obtain ⟨hp_62, hp_63⟩ := hp
        have hp_62 : nkeptAt_60.toInt = nkeptAt_52.toInt + 1 := hp_62
        have hp_63 : r_58 = (mf 69) (nkeptAt_52).toNatClampNeg := hp_63
        have er_58 := hp_63
        refine x_put (pc := 163) (T := TX12) (N := 70) (ci := 12) (ws' := (MW cI cJ M mr (upd (upd (upd (upd (upd (upd (upd mi 6 r_5) 12 r_26) 13 r_34) 14 r_42) 15 r_50) 17 r_58) 68 nkeptAt_60) (va_up (va_up (va_up (va_up (va_up mf 7 g_16) 8 g_17) 9 g_18) 10 g_19) 11 g_20) mg)) E hw61 inX12 tyX12_ok nmX12 0 17 q_1416 rfl rfl (by decide) rfl rfl rfl rfl (Nat.le_of_ble_eq_true rfl) rfl dX12_keepsVillage_163 (fun H locs hw64 => ?_)
        refine lv_iconst (pc := 166) (v := 0) E.1 E.2.1 dX12_keepsVillage_166 (by decide +kernel) ?_
        refine lv_istore_n (pc := 167) (lv' := [(1, .int 0), (0, .ref M)]) E.1 E.2.1 dX12_keepsVillage_167 rfl hl23 (by decide) rfl (fun ls hl65 => ?_)
        have loop_66 : ∀ (k : Nat) (x_67 : Int32) (x_68 : Int32) (g_69 : Nat → Int32) (g_70 : Nat → Int32) (H : Heap) (locs : List Loc) (ls : Array Slot), (0 ≤ x_67.toInt) ∧ (x_67.toInt ≤ 8) ∧ (x_68.toInt = 122 + 2 * x_67.toInt) → 8 - x_67.toInt < (k : Int) → WD D A s.heap (MW cI cJ M mr (upd (upd (upd (upd (upd (upd (upd mi 6 r_5) 12 r_26) 13 r_34) 14 r_42) 15 r_50) 17 r_58) 68 x_68) (va_up (va_up (va_up (va_up (va_up (va_up (va_up mf 7 g_16) 8 g_17) 9 g_18) 10 g_19) 11 g_20) 18 g_69) 19 g_70) mg) H locs → lv_has ls 2 [(1, .int x_67), (0, .ref M)] → W p l e ({ frames := 2, cells := 0, slots := 0, locals := 61 } : Room) s m ([.ref M] : List Value).toArray below meth c H locs 0 0 (MQ below (va_Qv (fun (u : Int32 × Int32 × (Nat → Int32) × (Nat → Int32) × (Nat → Int32) × (Nat → Int32) × (Nat → Int32) × Int32 × Int32 × Int32 × Int32 × Int32 × (Nat → Int32) × (Nat → Int32)) => (u.1.toInt = 138) ∧ ((u.2.1.toInt = ((mf 69) 66).toInt ∧ SGT (mf 69) u.2.2.2.1 0 68 5 10 ∧ u.2.2.2.2.2.2.2.2.2.2.1.toInt = ((mf 69) 120).toInt ∧ u.2.2.2.2.2.2.2.2.2.2.2.1.toInt = ((mf 69) 121).toInt)) ∧ (SGT (mf 69) u.2.2.1 0 67 5 10) ∧ (SGT (mf 69) u.2.2.2.2.2.2.1 0 71 5 10)) (fun u => QW D cI cJ A ((fun (u : Int32 × Int32 × (Nat → Int32) × (Nat → Int32) × (Nat → Int32) × (Nat → Int32) × (Nat → Int32) × Int32 × Int32 × Int32 × Int32 × Int32 × (Nat → Int32) × (Nat → Int32)) => (MW cI cJ M mr (upd (upd (upd (upd (upd (upd (upd mi 68 u.1) 6 u.2.1) 12 u.2.2.2.2.2.2.2.1) 13 u.2.2.2.2.2.2.2.2.1) 14 u.2.2.2.2.2.2.2.2.2.1) 15 u.2.2.2.2.2.2.2.2.2.2.1) 17 u.2.2.2.2.2.2.2.2.2.2.2.1) (va_up (va_up (va_up (va_up (va_up (va_up (va_up mf 7 u.2.2.1) 8 u.2.2.2.1) 9 u.2.2.2.2.1) 10 u.2.2.2.2.2.1) 11 u.2.2.2.2.2.2.1) 18 u.2.2.2.2.2.2.2.2.2.2.2.2.1) 19 u.2.2.2.2.2.2.2.2.2.2.2.2.2) mg)) u)) A) ([.ref M] : List Value).toArray s 0 0 A) (F0 m 168 ls []) := by
          intro k
          induction k with
          | zero =>
            intro x_67 x_68 g_69 g_70 _ _ _ hinv hm
            obtain ⟨hi_70_0, hi_70_1, hi_70_2⟩ := hinv
            exact absurd hm (by omega)
          | succ k ih_71 =>
            intro x_67 x_68 g_69 g_70 H locs ls hinv hm hw72 hl73
            obtain ⟨hi_70_0, hi_70_1, hi_70_2⟩ := hinv
            refine lv_iload_n (pc := 168) E.1 E.2.1 dX12_keepsVillage_168 rfl (lv_at hl73 0 rfl) ?_
            refine lv_bipush (pc := 169) (v := 8) E.1 E.2.1 dX12_keepsVillage_169 (by decide +kernel) ?_
            refine lv_icmp_ge (pc := 171) (tgt := 212) E.1 E.2.1 dX12_keepsVillage_171 (by decide) (fun c_74 => ?_) (fun c_74 => ?_)
            · skip
              have hc_74 := leE (a := 8) (b := x_67.toInt) (by decide +kernel) rfl c_74
              exact em_v (w1 := (fun (u : Int32 × Int32 × (Nat → Int32) × (Nat → Int32) × (Nat → Int32) × (Nat → Int32) × (Nat → Int32) × Int32 × Int32 × Int32 × Int32 × Int32 × (Nat → Int32) × (Nat → Int32)) => (MW cI cJ M mr (upd (upd (upd (upd (upd (upd (upd mi 68 u.1) 6 u.2.1) 12 u.2.2.2.2.2.2.2.1) 13 u.2.2.2.2.2.2.2.2.1) 14 u.2.2.2.2.2.2.2.2.2.1) 15 u.2.2.2.2.2.2.2.2.2.2.1) 17 u.2.2.2.2.2.2.2.2.2.2.2.1) (va_up (va_up (va_up (va_up (va_up (va_up (va_up mf 7 u.2.2.1) 8 u.2.2.2.1) 9 u.2.2.2.2.1) 10 u.2.2.2.2.2.1) 11 u.2.2.2.2.2.2.1) 18 u.2.2.2.2.2.2.2.2.2.2.2.2.1) 19 u.2.2.2.2.2.2.2.2.2.2.2.2.2) mg))) E hr hlk (x_68, r_5, g_16, g_17, g_18, g_19, g_20, r_26, r_34, r_42, r_50, r_58, g_69, g_70) hw72 ⟨(by show x_68.toInt = 138; omega), (show (r_5.toInt = ((mf 69) 66).toInt ∧ SGT (mf 69) g_17 0 68 5 10 ∧ r_50.toInt = ((mf 69) 120).toInt ∧ r_58.toInt = ((mf 69) 121).toInt) from ⟨(by rw [er_5, atI (p := 66) (by omega)]), (SGT_n hi_20_3 (by omega)), (by rw [er_50, atI (p := 120) (by omega)]), (by rw [er_58, atI (p := 121) (by omega)])⟩), (show SGT (mf 69) g_16 0 67 5 10 from (SGT_n hi_20_4 (by omega))), (show SGT (mf 69) g_20 0 71 5 10 from (SGT_n hi_20_5 (by omega)))⟩ (Nat.le_of_ble_eq_true rfl) (Nat.le_of_ble_eq_true rfl) dX12_keepsVillage_212
            · skip
              have hc_74 := nleE (a := 8) (b := x_67.toInt) (by decide +kernel) rfl c_74
              refine lv_aload_n (pc := 174) E.1 E.2.1 dX12_keepsVillage_174 rfl (lv_at hl73 1 rfl) ?_
              refine x_get (pc := 175) (T := TX12) (N := 70) (ci := 12) (v := .ref (mr 18)) E hw72 inX12 0 18 q_1417 rfl rfl (by decide) rfl rfl dX12_keepsVillage_175 ?_
              refine lv_iload_n (pc := 178) E.1 E.2.1 dX12_keepsVillage_178 rfl (lv_at hl73 0 rfl) ?_
              refine lv_aload_n (pc := 179) E.1 E.2.1 dX12_keepsVillage_179 rfl (lv_at hl73 1 rfl) ?_
              refine lv_aload_n (pc := 180) E.1 E.2.1 dX12_keepsVillage_180 rfl (lv_at hl73 1 rfl) ?_
              refine x_get (pc := 181) (T := TX12) (N := 70) (ci := 12) (v := .ref (mr 18)) E hw72 inX12 0 18 q_1417 rfl rfl (by decide) rfl rfl dX12_keepsVillage_181 ?_
              refine lv_iload_n (pc := 184) E.1 E.2.1 dX12_keepsVillage_184 rfl (lv_at hl73 0 rfl) ?_
              refine x_iald (pc := 185) (f := g_69) E hw72 10 rfl (inbE (a := x_67.toInt) (n := 8) rfl (by omega)) dX12_keepsVillage_185 ?_
              refine lv_topi (fun v_75 ev_75 => ?_)
              refine cm_i (pc := 186) hw72 (rn_M (As := [.int v_75]) (rest := [.int x_67, .ref (mr 18)]) E hw72 (s_kept0 l D cI cJ _ M mr (upd (upd (upd (upd (upd (upd (upd mi 6 r_5) 12 r_26) 13 r_34) 14 r_42) 15 r_50) 17 r_58) 68 x_68) (va_up (va_up (va_up (va_up (va_up (va_up (va_up mf 7 g_16) 8 g_17) 9 g_18) 10 g_19) 11 g_20) 18 g_69) 19 g_70) mg v_75 h0 (by show 0 ≤ x_68.toInt ∧ x_68.toInt ≤ 3599; omega)) (gdV q_2125 q_2127 q_146 q_162 q_2128) hdV_X12_kept ⟨rfl, rfl⟩ ⟨(Nat.le_of_ble_eq_true rfl), (Nat.le_of_ble_eq_true rfl)⟩ ⟨(Nat.le_of_ble_eq_true rfl), (Nat.le_of_ble_eq_true rfl)⟩ 12 rfl rfl rfl rfl hl73.1 rfl (Nat.le_of_ble_eq_true rfl) dX12_keepsVillage_186) (fun r_77 u_76 H1 locs hp hw78 => ?_)
              obtain ⟨nkeptAt_79, rfl⟩ : ∃ z, z = u_76 := ⟨_, rfl⟩
              generalize H1 = H at hw78 ⊢
              have hw80 : WD D A s.heap (MW cI cJ M mr (upd (upd (upd (upd (upd (upd (upd mi 6 r_5) 12 r_26) 13 r_34) 14 r_42) 15 r_50) 17 r_58) 68 nkeptAt_79) (va_up (va_up (va_up (va_up (va_up (va_up (va_up mf 7 g_16) 8 g_17) 9 g_18) 10 g_19) 11 g_20) 18 g_69) 19 g_70) mg) H locs := hw78
              obtain ⟨hp_81, hp_82⟩ := hp
              have hp_81 : nkeptAt_79.toInt = x_68.toInt + 1 := hp_81
              have hp_82 : r_77 = (mf 69) (x_68).toNatClampNeg := hp_82
              have er_77 := hp_82
              refine x_iastG (pc := 189) (f := g_69) (wf := fun g => (MW cI cJ M mr (upd (upd (upd (upd (upd (upd (upd mi 6 r_5) 12 r_26) 13 r_34) 14 r_42) 15 r_50) 17 r_58) 68 nkeptAt_79) (va_up (va_up (va_up (va_up (va_up (va_up (va_up mf 7 g_16) 8 g_17) 9 g_18) 10 g_19) 11 g_20) 18 g) 19 g_70) mg)) E hw80 10 rfl (inbE (a := x_67.toInt) (n := 8) rfl (by omega)) (fun _ => rfl) dX12_keepsVillage_189 (fun g_83 H locs eg_83 hw84 => ?_)
              refine lv_aload_n (pc := 190) E.1 E.2.1 dX12_keepsVillage_190 rfl (lv_at hl73 1 rfl) ?_
              refine x_get (pc := 191) (T := TX12) (N := 70) (ci := 12) (v := .ref (mr 19)) E hw84 inX12 0 19 q_1418 rfl rfl (by decide) rfl rfl dX12_keepsVillage_191 ?_
              refine lv_iload_n (pc := 194) E.1 E.2.1 dX12_keepsVillage_194 rfl (lv_at hl73 0 rfl) ?_
              refine lv_aload_n (pc := 195) E.1 E.2.1 dX12_keepsVillage_195 rfl (lv_at hl73 1 rfl) ?_
              refine lv_aload_n (pc := 196) E.1 E.2.1 dX12_keepsVillage_196 rfl (lv_at hl73 1 rfl) ?_
              refine x_get (pc := 197) (T := TX12) (N := 70) (ci := 12) (v := .ref (mr 19)) E hw84 inX12 0 19 q_1418 rfl rfl (by decide) rfl rfl dX12_keepsVillage_197 ?_
              refine lv_iload_n (pc := 200) E.1 E.2.1 dX12_keepsVillage_200 rfl (lv_at hl73 0 rfl) ?_
              refine x_iald (pc := 201) (f := g_70) E hw84 11 rfl (inbE (a := x_67.toInt) (n := 8) rfl (by omega)) dX12_keepsVillage_201 ?_
              refine lv_topi (fun v_85 ev_85 => ?_)
              refine cm_i (pc := 202) hw84 (rn_M (As := [.int v_85]) (rest := [.int x_67, .ref (mr 19)]) E hw84 (s_kept0 l D cI cJ _ M mr (upd (upd (upd (upd (upd (upd (upd mi 6 r_5) 12 r_26) 13 r_34) 14 r_42) 15 r_50) 17 r_58) 68 nkeptAt_79) (va_up (va_up (va_up (va_up (va_up (va_up (va_up mf 7 g_16) 8 g_17) 9 g_18) 10 g_19) 11 g_20) 18 g_83) 19 g_70) mg v_85 h0 (by show 0 ≤ nkeptAt_79.toInt ∧ nkeptAt_79.toInt ≤ 3599; omega)) (gdV q_2125 q_2127 q_146 q_162 q_2128) hdV_X12_kept ⟨rfl, rfl⟩ ⟨(Nat.le_of_ble_eq_true rfl), (Nat.le_of_ble_eq_true rfl)⟩ ⟨(Nat.le_of_ble_eq_true rfl), (Nat.le_of_ble_eq_true rfl)⟩ 12 rfl rfl rfl rfl hl73.1 rfl (Nat.le_of_ble_eq_true rfl) dX12_keepsVillage_202) (fun r_87 u_86 H1 locs hp hw88 => ?_)
              obtain ⟨nkeptAt_89, rfl⟩ : ∃ z, z = u_86 := ⟨_, rfl⟩
              generalize H1 = H at hw88 ⊢
              have hw90 : WD D A s.heap (MW cI cJ M mr (upd (upd (upd (upd (upd (upd (upd mi 6 r_5) 12 r_26) 13 r_34) 14 r_42) 15 r_50) 17 r_58) 68 nkeptAt_89) (va_up (va_up (va_up (va_up (va_up (va_up (va_up mf 7 g_16) 8 g_17) 9 g_18) 10 g_19) 11 g_20) 18 g_83) 19 g_70) mg) H locs := hw88
              obtain ⟨hp_91, hp_92⟩ := hp
              have hp_91 : nkeptAt_89.toInt = nkeptAt_79.toInt + 1 := hp_91
              have hp_92 : r_87 = (mf 69) (nkeptAt_79).toNatClampNeg := hp_92
              have er_87 := hp_92
              refine x_iastG (pc := 205) (f := g_70) (wf := fun g => (MW cI cJ M mr (upd (upd (upd (upd (upd (upd (upd mi 6 r_5) 12 r_26) 13 r_34) 14 r_42) 15 r_50) 17 r_58) 68 nkeptAt_89) (va_up (va_up (va_up (va_up (va_up (va_up (va_up mf 7 g_16) 8 g_17) 9 g_18) 10 g_19) 11 g_20) 18 g_83) 19 g) mg)) E hw90 11 rfl (inbE (a := x_67.toInt) (n := 8) rfl (by omega)) (fun _ => rfl) dX12_keepsVillage_205 (fun g_93 H locs eg_93 hw94 => ?_)
              obtain ⟨v_95, ev_95⟩ : ∃ z : Int32, x_67 + Int32.ofInt (1) = z := ⟨_, rfl⟩
              have hv_95 : v_95.toInt = x_67.toInt + (1) := by rw [← ev_95]; exact incE rfl (by decide) (by omega)
              refine lv_iinc (pc := 206) (v := v_95) (lv' := [(1, .int v_95), (0, .ref M)]) E.1 E.2.1 dX12_keepsVillage_206 hl73 (k := 0) rfl ev_95 (by decide) rfl (fun ls hl96 => ?_)
              refine lv_goto (pc := 209) (tgt := 168) E.1 E.2.1 dX12_keepsVillage_209 (by decide) ?_
              exact ih_71 v_95 nkeptAt_89 g_83 g_93 _ _ _ ⟨(by show 0 ≤ v_95.toInt; omega), (by show v_95.toInt ≤ 8; omega), (by show nkeptAt_89.toInt = 122 + 2 * v_95.toInt; omega)⟩ (by omega) hw94 (lv_sub hl96 [0, 1] rfl)
        exact loop_66 (Int.toNat (8 - 0) + 1) 0 nkeptAt_60 (mf 18) (mf 19) _ _ _ ⟨(by show 0 ≤ (0 : Int32).toInt; have k_0 : (0 : Int32).toInt = 0 := (by decide +kernel); omega), (by show (0 : Int32).toInt ≤ 8; have k_0 : (0 : Int32).toInt = 0 := (by decide +kernel); omega), (by show nkeptAt_60.toInt = 122 + 2 * (0 : Int32).toInt; have k_0 : (0 : Int32).toInt = 0 := (by decide +kernel); omega)⟩ (by have k_0 : (0 : Int32).toInt = 0 := (by decide +kernel); omega) hw64 (lv_sub hl65 [0, 1] rfl)
      · skip
        have hc_24 := nleE (a := 10) (b := x_14.toInt) (by decide +kernel) rfl c_24
        refine lv_aload_n (pc := 20) E.1 E.2.1 dX12_keepsVillage_20 rfl (lv_at hl23 1 rfl) ?_
        refine x_get (pc := 21) (T := TX12) (N := 70) (ci := 12) (v := .ref (mr 7)) E hw22 inX12 0 7 q_1406 rfl rfl (by decide) rfl rfl dX12_keepsVillage_21 ?_
        refine lv_iload_n (pc := 24) E.1 E.2.1 dX12_keepsVillage_24 rfl (lv_at hl23 0 rfl) ?_
        refine lv_aload_n (pc := 25) E.1 E.2.1 dX12_keepsVillage_25 rfl (lv_at hl23 1 rfl) ?_
        refine lv_aload_n (pc := 26) E.1 E.2.1 dX12_keepsVillage_26 rfl (lv_at hl23 1 rfl) ?_
        refine x_get (pc := 27) (T := TX12) (N := 70) (ci := 12) (v := .ref (mr 7)) E hw22 inX12 0 7 q_1406 rfl rfl (by decide) rfl rfl dX12_keepsVillage_27 ?_
        refine lv_iload_n (pc := 30) E.1 E.2.1 dX12_keepsVillage_30 rfl (lv_at hl23 0 rfl) ?_
        refine x_iald (pc := 31) (f := g_16) E hw22 4 rfl (inbE (a := x_14.toInt) (n := 10) rfl (by omega)) dX12_keepsVillage_31 ?_
        refine lv_topi (fun v_97 ev_97 => ?_)
        refine cm_i (pc := 32) hw22 (rn_M (As := [.int v_97]) (rest := [.int x_14, .ref (mr 7)]) E hw22 (s_kept0 l D cI cJ _ M mr (upd (upd mi 6 r_5) 68 x_15) (va_up (va_up (va_up (va_up (va_up mf 7 g_16) 8 g_17) 9 g_18) 10 g_19) 11 g_20) mg v_97 h0 (by show 0 ≤ x_15.toInt ∧ x_15.toInt ≤ 3599; omega)) (gdV q_2125 q_2127 q_146 q_162 q_2128) hdV_X12_kept ⟨rfl, rfl⟩ ⟨(Nat.le_of_ble_eq_true rfl), (Nat.le_of_ble_eq_true rfl)⟩ ⟨(Nat.le_of_ble_eq_true rfl), (Nat.le_of_ble_eq_true rfl)⟩ 12 rfl rfl rfl rfl hl23.1 rfl (Nat.le_of_ble_eq_true rfl) dX12_keepsVillage_32) (fun r_99 u_98 H1 locs hp hw100 => ?_)
        obtain ⟨nkeptAt_101, rfl⟩ : ∃ z, z = u_98 := ⟨_, rfl⟩
        generalize H1 = H at hw100 ⊢
        have hw102 : WD D A s.heap (MW cI cJ M mr (upd (upd mi 6 r_5) 68 nkeptAt_101) (va_up (va_up (va_up (va_up (va_up mf 7 g_16) 8 g_17) 9 g_18) 10 g_19) 11 g_20) mg) H locs := hw100
        obtain ⟨hp_103, hp_104⟩ := hp
        have hp_103 : nkeptAt_101.toInt = x_15.toInt + 1 := hp_103
        have hp_104 : r_99 = (mf 69) (x_15).toNatClampNeg := hp_104
        have er_99 := hp_104
        refine x_iastG (pc := 35) (f := g_16) (wf := fun g => (MW cI cJ M mr (upd (upd mi 6 r_5) 68 nkeptAt_101) (va_up (va_up (va_up (va_up (va_up mf 7 g) 8 g_17) 9 g_18) 10 g_19) 11 g_20) mg)) E hw102 4 rfl (inbE (a := x_14.toInt) (n := 10) rfl (by omega)) (fun _ => rfl) dX12_keepsVillage_35 (fun g_105 H locs eg_105 hw106 => ?_)
        refine lv_aload_n (pc := 36) E.1 E.2.1 dX12_keepsVillage_36 rfl (lv_at hl23 1 rfl) ?_
        refine x_get (pc := 37) (T := TX12) (N := 70) (ci := 12) (v := .ref (mr 8)) E hw106 inX12 0 8 q_1407 rfl rfl (by decide) rfl rfl dX12_keepsVillage_37 ?_
        refine lv_iload_n (pc := 40) E.1 E.2.1 dX12_keepsVillage_40 rfl (lv_at hl23 0 rfl) ?_
        refine lv_aload_n (pc := 41) E.1 E.2.1 dX12_keepsVillage_41 rfl (lv_at hl23 1 rfl) ?_
        refine lv_aload_n (pc := 42) E.1 E.2.1 dX12_keepsVillage_42 rfl (lv_at hl23 1 rfl) ?_
        refine x_get (pc := 43) (T := TX12) (N := 70) (ci := 12) (v := .ref (mr 8)) E hw106 inX12 0 8 q_1407 rfl rfl (by decide) rfl rfl dX12_keepsVillage_43 ?_
        refine lv_iload_n (pc := 46) E.1 E.2.1 dX12_keepsVillage_46 rfl (lv_at hl23 0 rfl) ?_
        refine x_iald (pc := 47) (f := g_17) E hw106 5 rfl (inbE (a := x_14.toInt) (n := 10) rfl (by omega)) dX12_keepsVillage_47 ?_
        refine lv_topi (fun v_107 ev_107 => ?_)
        refine cm_i (pc := 48) hw106 (rn_M (As := [.int v_107]) (rest := [.int x_14, .ref (mr 8)]) E hw106 (s_kept0 l D cI cJ _ M mr (upd (upd mi 6 r_5) 68 nkeptAt_101) (va_up (va_up (va_up (va_up (va_up mf 7 g_105) 8 g_17) 9 g_18) 10 g_19) 11 g_20) mg v_107 h0 (by show 0 ≤ nkeptAt_101.toInt ∧ nkeptAt_101.toInt ≤ 3599; omega)) (gdV q_2125 q_2127 q_146 q_162 q_2128) hdV_X12_kept ⟨rfl, rfl⟩ ⟨(Nat.le_of_ble_eq_true rfl), (Nat.le_of_ble_eq_true rfl)⟩ ⟨(Nat.le_of_ble_eq_true rfl), (Nat.le_of_ble_eq_true rfl)⟩ 12 rfl rfl rfl rfl hl23.1 rfl (Nat.le_of_ble_eq_true rfl) dX12_keepsVillage_48) (fun r_109 u_108 H1 locs hp hw110 => ?_)
        obtain ⟨nkeptAt_111, rfl⟩ : ∃ z, z = u_108 := ⟨_, rfl⟩
        generalize H1 = H at hw110 ⊢
        have hw112 : WD D A s.heap (MW cI cJ M mr (upd (upd mi 6 r_5) 68 nkeptAt_111) (va_up (va_up (va_up (va_up (va_up mf 7 g_105) 8 g_17) 9 g_18) 10 g_19) 11 g_20) mg) H locs := hw110
        obtain ⟨hp_113, hp_114⟩ := hp
        have hp_113 : nkeptAt_111.toInt = nkeptAt_101.toInt + 1 := hp_113
        have hp_114 : r_109 = (mf 69) (nkeptAt_101).toNatClampNeg := hp_114
        have er_109 := hp_114
        refine x_iastG (pc := 51) (f := g_17) (wf := fun g => (MW cI cJ M mr (upd (upd mi 6 r_5) 68 nkeptAt_111) (va_up (va_up (va_up (va_up (va_up mf 7 g_105) 8 g) 9 g_18) 10 g_19) 11 g_20) mg)) E hw112 5 rfl (inbE (a := x_14.toInt) (n := 10) rfl (by omega)) (fun _ => rfl) dX12_keepsVillage_51 (fun g_115 H locs eg_115 hw116 => ?_)
        refine lv_aload_n (pc := 52) E.1 E.2.1 dX12_keepsVillage_52 rfl (lv_at hl23 1 rfl) ?_
        refine x_get (pc := 53) (T := TX12) (N := 70) (ci := 12) (v := .ref (mr 9)) E hw116 inX12 0 9 q_1408 rfl rfl (by decide) rfl rfl dX12_keepsVillage_53 ?_
        refine lv_iload_n (pc := 56) E.1 E.2.1 dX12_keepsVillage_56 rfl (lv_at hl23 0 rfl) ?_
        refine lv_aload_n (pc := 57) E.1 E.2.1 dX12_keepsVillage_57 rfl (lv_at hl23 1 rfl) ?_
        refine lv_aload_n (pc := 58) E.1 E.2.1 dX12_keepsVillage_58 rfl (lv_at hl23 1 rfl) ?_
        refine x_get (pc := 59) (T := TX12) (N := 70) (ci := 12) (v := .ref (mr 9)) E hw116 inX12 0 9 q_1408 rfl rfl (by decide) rfl rfl dX12_keepsVillage_59 ?_
        refine lv_iload_n (pc := 62) E.1 E.2.1 dX12_keepsVillage_62 rfl (lv_at hl23 0 rfl) ?_
        refine x_iald (pc := 63) (f := g_18) E hw116 6 rfl (inbE (a := x_14.toInt) (n := 10) rfl (by omega)) dX12_keepsVillage_63 ?_
        refine lv_topi (fun v_117 ev_117 => ?_)
        refine cm_i (pc := 64) hw116 (rn_M (As := [.int v_117]) (rest := [.int x_14, .ref (mr 9)]) E hw116 (s_kept0 l D cI cJ _ M mr (upd (upd mi 6 r_5) 68 nkeptAt_111) (va_up (va_up (va_up (va_up (va_up mf 7 g_105) 8 g_115) 9 g_18) 10 g_19) 11 g_20) mg v_117 h0 (by show 0 ≤ nkeptAt_111.toInt ∧ nkeptAt_111.toInt ≤ 3599; omega)) (gdV q_2125 q_2127 q_146 q_162 q_2128) hdV_X12_kept ⟨rfl, rfl⟩ ⟨(Nat.le_of_ble_eq_true rfl), (Nat.le_of_ble_eq_true rfl)⟩ ⟨(Nat.le_of_ble_eq_true rfl), (Nat.le_of_ble_eq_true rfl)⟩ 12 rfl rfl rfl rfl hl23.1 rfl (Nat.le_of_ble_eq_true rfl) dX12_keepsVillage_64) (fun r_119 u_118 H1 locs hp hw120 => ?_)
        obtain ⟨nkeptAt_121, rfl⟩ : ∃ z, z = u_118 := ⟨_, rfl⟩
        generalize H1 = H at hw120 ⊢
        have hw122 : WD D A s.heap (MW cI cJ M mr (upd (upd mi 6 r_5) 68 nkeptAt_121) (va_up (va_up (va_up (va_up (va_up mf 7 g_105) 8 g_115) 9 g_18) 10 g_19) 11 g_20) mg) H locs := hw120
        obtain ⟨hp_123, hp_124⟩ := hp
        have hp_123 : nkeptAt_121.toInt = nkeptAt_111.toInt + 1 := hp_123
        have hp_124 : r_119 = (mf 69) (nkeptAt_111).toNatClampNeg := hp_124
        have er_119 := hp_124
        refine x_iastG (pc := 67) (f := g_18) (wf := fun g => (MW cI cJ M mr (upd (upd mi 6 r_5) 68 nkeptAt_121) (va_up (va_up (va_up (va_up (va_up mf 7 g_105) 8 g_115) 9 g) 10 g_19) 11 g_20) mg)) E hw122 6 rfl (inbE (a := x_14.toInt) (n := 10) rfl (by omega)) (fun _ => rfl) dX12_keepsVillage_67 (fun g_125 H locs eg_125 hw126 => ?_)
        refine lv_aload_n (pc := 68) E.1 E.2.1 dX12_keepsVillage_68 rfl (lv_at hl23 1 rfl) ?_
        refine x_get (pc := 69) (T := TX12) (N := 70) (ci := 12) (v := .ref (mr 10)) E hw126 inX12 0 10 q_1409 rfl rfl (by decide) rfl rfl dX12_keepsVillage_69 ?_
        refine lv_iload_n (pc := 72) E.1 E.2.1 dX12_keepsVillage_72 rfl (lv_at hl23 0 rfl) ?_
        refine lv_aload_n (pc := 73) E.1 E.2.1 dX12_keepsVillage_73 rfl (lv_at hl23 1 rfl) ?_
        refine lv_aload_n (pc := 74) E.1 E.2.1 dX12_keepsVillage_74 rfl (lv_at hl23 1 rfl) ?_
        refine x_get (pc := 75) (T := TX12) (N := 70) (ci := 12) (v := .ref (mr 10)) E hw126 inX12 0 10 q_1409 rfl rfl (by decide) rfl rfl dX12_keepsVillage_75 ?_
        refine lv_iload_n (pc := 78) E.1 E.2.1 dX12_keepsVillage_78 rfl (lv_at hl23 0 rfl) ?_
        refine x_iald (pc := 79) (f := g_19) E hw126 7 rfl (inbE (a := x_14.toInt) (n := 10) rfl (by omega)) dX12_keepsVillage_79 ?_
        refine lv_topi (fun v_127 ev_127 => ?_)
        refine cm_i (pc := 80) hw126 (rn_M (As := [.int v_127]) (rest := [.int x_14, .ref (mr 10)]) E hw126 (s_kept0 l D cI cJ _ M mr (upd (upd mi 6 r_5) 68 nkeptAt_121) (va_up (va_up (va_up (va_up (va_up mf 7 g_105) 8 g_115) 9 g_125) 10 g_19) 11 g_20) mg v_127 h0 (by show 0 ≤ nkeptAt_121.toInt ∧ nkeptAt_121.toInt ≤ 3599; omega)) (gdV q_2125 q_2127 q_146 q_162 q_2128) hdV_X12_kept ⟨rfl, rfl⟩ ⟨(Nat.le_of_ble_eq_true rfl), (Nat.le_of_ble_eq_true rfl)⟩ ⟨(Nat.le_of_ble_eq_true rfl), (Nat.le_of_ble_eq_true rfl)⟩ 12 rfl rfl rfl rfl hl23.1 rfl (Nat.le_of_ble_eq_true rfl) dX12_keepsVillage_80) (fun r_129 u_128 H1 locs hp hw130 => ?_)
        obtain ⟨nkeptAt_131, rfl⟩ : ∃ z, z = u_128 := ⟨_, rfl⟩
        generalize H1 = H at hw130 ⊢
        have hw132 : WD D A s.heap (MW cI cJ M mr (upd (upd mi 6 r_5) 68 nkeptAt_131) (va_up (va_up (va_up (va_up (va_up mf 7 g_105) 8 g_115) 9 g_125) 10 g_19) 11 g_20) mg) H locs := hw130
        obtain ⟨hp_133, hp_134⟩ := hp
        have hp_133 : nkeptAt_131.toInt = nkeptAt_121.toInt + 1 := hp_133
        have hp_134 : r_129 = (mf 69) (nkeptAt_121).toNatClampNeg := hp_134
        have er_129 := hp_134
        refine x_iastG (pc := 83) (f := g_19) (wf := fun g => (MW cI cJ M mr (upd (upd mi 6 r_5) 68 nkeptAt_131) (va_up (va_up (va_up (va_up (va_up mf 7 g_105) 8 g_115) 9 g_125) 10 g) 11 g_20) mg)) E hw132 7 rfl (inbE (a := x_14.toInt) (n := 10) rfl (by omega)) (fun _ => rfl) dX12_keepsVillage_83 (fun g_135 H locs eg_135 hw136 => ?_)
        refine lv_aload_n (pc := 84) E.1 E.2.1 dX12_keepsVillage_84 rfl (lv_at hl23 1 rfl) ?_
        refine x_get (pc := 85) (T := TX12) (N := 70) (ci := 12) (v := .ref (mr 11)) E hw136 inX12 0 11 q_1410 rfl rfl (by decide) rfl rfl dX12_keepsVillage_85 ?_
        refine lv_iload_n (pc := 88) E.1 E.2.1 dX12_keepsVillage_88 rfl (lv_at hl23 0 rfl) ?_
        refine lv_aload_n (pc := 89) E.1 E.2.1 dX12_keepsVillage_89 rfl (lv_at hl23 1 rfl) ?_
        refine lv_aload_n (pc := 90) E.1 E.2.1 dX12_keepsVillage_90 rfl (lv_at hl23 1 rfl) ?_
        refine x_get (pc := 91) (T := TX12) (N := 70) (ci := 12) (v := .ref (mr 11)) E hw136 inX12 0 11 q_1410 rfl rfl (by decide) rfl rfl dX12_keepsVillage_91 ?_
        refine lv_iload_n (pc := 94) E.1 E.2.1 dX12_keepsVillage_94 rfl (lv_at hl23 0 rfl) ?_
        refine x_iald (pc := 95) (f := g_20) E hw136 8 rfl (inbE (a := x_14.toInt) (n := 10) rfl (by omega)) dX12_keepsVillage_95 ?_
        refine lv_topi (fun v_137 ev_137 => ?_)
        refine cm_i (pc := 96) hw136 (rn_M (As := [.int v_137]) (rest := [.int x_14, .ref (mr 11)]) E hw136 (s_kept0 l D cI cJ _ M mr (upd (upd mi 6 r_5) 68 nkeptAt_131) (va_up (va_up (va_up (va_up (va_up mf 7 g_105) 8 g_115) 9 g_125) 10 g_135) 11 g_20) mg v_137 h0 (by show 0 ≤ nkeptAt_131.toInt ∧ nkeptAt_131.toInt ≤ 3599; omega)) (gdV q_2125 q_2127 q_146 q_162 q_2128) hdV_X12_kept ⟨rfl, rfl⟩ ⟨(Nat.le_of_ble_eq_true rfl), (Nat.le_of_ble_eq_true rfl)⟩ ⟨(Nat.le_of_ble_eq_true rfl), (Nat.le_of_ble_eq_true rfl)⟩ 12 rfl rfl rfl rfl hl23.1 rfl (Nat.le_of_ble_eq_true rfl) dX12_keepsVillage_96) (fun r_139 u_138 H1 locs hp hw140 => ?_)
        obtain ⟨nkeptAt_141, rfl⟩ : ∃ z, z = u_138 := ⟨_, rfl⟩
        generalize H1 = H at hw140 ⊢
        have hw142 : WD D A s.heap (MW cI cJ M mr (upd (upd mi 6 r_5) 68 nkeptAt_141) (va_up (va_up (va_up (va_up (va_up mf 7 g_105) 8 g_115) 9 g_125) 10 g_135) 11 g_20) mg) H locs := hw140
        obtain ⟨hp_143, hp_144⟩ := hp
        have hp_143 : nkeptAt_141.toInt = nkeptAt_131.toInt + 1 := hp_143
        have hp_144 : r_139 = (mf 69) (nkeptAt_131).toNatClampNeg := hp_144
        have er_139 := hp_144
        refine x_iastG (pc := 99) (f := g_20) (wf := fun g => (MW cI cJ M mr (upd (upd mi 6 r_5) 68 nkeptAt_141) (va_up (va_up (va_up (va_up (va_up mf 7 g_105) 8 g_115) 9 g_125) 10 g_135) 11 g) mg)) E hw142 8 rfl (inbE (a := x_14.toInt) (n := 10) rfl (by omega)) (fun _ => rfl) dX12_keepsVillage_99 (fun g_145 H locs eg_145 hw146 => ?_)
        obtain ⟨v_147, ev_147⟩ : ∃ z : Int32, x_14 + Int32.ofInt (1) = z := ⟨_, rfl⟩
        have hv_147 : v_147.toInt = x_14.toInt + (1) := by rw [← ev_147]; exact incE rfl (by decide) (by omega)
        refine lv_iinc (pc := 100) (v := v_147) (lv' := [(1, .int v_147), (0, .ref M)]) E.1 E.2.1 dX12_keepsVillage_100 hl23 (k := 0) rfl ev_147 (by decide) rfl (fun ls hl148 => ?_)
        refine lv_goto (pc := 103) (tgt := 14) E.1 E.2.1 dX12_keepsVillage_103 (by decide) ?_
        exact ih_21 v_147 nkeptAt_141 g_105 g_115 g_125 g_135 g_145 _ _ _ ⟨(by show 0 ≤ v_147.toInt; omega), (by show v_147.toInt ≤ 10; omega), (by show nkeptAt_141.toInt = 67 + 5 * v_147.toInt; omega), (SGT_row hi_20_3 eg_115 (by omega) (by omega) er_109 (by omega) (m := v_147.toInt) (by omega)), (SGT_row hi_20_4 eg_105 (by omega) (by omega) er_99 (by omega) (m := v_147.toInt) (by omega)), (SGT_row hi_20_5 eg_145 (by omega) (by omega) er_139 (by omega) (m := v_147.toInt) (by omega))⟩ (by omega) hw146 (lv_sub hl148 [0, 1] rfl)
  exact loop_13 (Int.toNat (10 - 0) + 1) 0 nkeptAt_7 (mf 7) (mf 8) (mf 9) (mf 10) (mf 11) _ _ _ ⟨(by show 0 ≤ (0 : Int32).toInt; have k_0 : (0 : Int32).toInt = 0 := (by decide +kernel); omega), (by show (0 : Int32).toInt ≤ 10; have k_0 : (0 : Int32).toInt = 0 := (by decide +kernel); omega), (by show nkeptAt_7.toInt = 67 + 5 * (0 : Int32).toInt; have k_0 : (0 : Int32).toInt = 0 := (by decide +kernel); omega), (SGT_nil (by decide +kernel)), (SGT_nil (by decide +kernel)), (SGT_nil (by decide +kernel))⟩ (by have k_0 : (0 : Int32).toInt = 0 := (by decide +kernel); omega) hw11 (lv_sub hl12 [0, 1] rfl)
set_option maxHeartbeats 4000000 in
set_option maxRecDepth 100000 in
theorem s_image1B (l : Launch) (D : va_G) (cI cJ : ClassId) (sz M : Nat) (mr : Nat → Nat) (mi : Nat → Int32) (mf : Nat → Nat → Int32) (mg : Nat → Nat → Int64)  (h0 : 0 ≤ (mi 6).toInt ∧ (mi 6).toInt ≤ 10) (h1 : 0 ≤ ((mf 1) 2).toInt ∧ ((mf 1) 2).toInt ≤ 150) (h2 : 0 ≤ ((mf 1) 3).toInt ∧ ((mf 1) 3).toInt ≤ 9) (h3 : 0 ≤ ((mf 1) 5).toInt ∧ ((mf 1) 5).toInt ≤ 200) (h4 : 0 ≤ (mi 44).toInt ∧ (mi 44).toInt ≤ 10) (h5 : 0 ≤ (mi 42).toInt ∧ (mi 42).toInt ≤ 40) (h6 : 0 ≤ ((mf 27) 0).toInt) (h7 : ((mf 27) 0).toInt ≤ 16) (h8 : 0 ≤ ((mf 27) 1).toInt) (h9 : ((mf 27) 1).toInt ≤ 16) (h10 : 0 ≤ (mi 49).toInt ∧ (mi 49).toInt ≤ 200) (h11 : (-29) ≤ (mi 15).toInt ∧ (mi 15).toInt ≤ 69) (h12 : 0 ≤ (mi 17).toInt ∧ (mi 17).toInt ≤ 8) (h13 : 0 ≤ (mi 3).toInt ∧ (mi 3).toInt ≤ 6) (a_paths : pathsOK (mf 43)) (lf_people : pplOK (mi 6).toInt (mf 8)) (lf_round : rndOK (mi 49).toInt (mi 6).toInt (mf 50)) (lf_law0 : LW 0 0 (mf 31) (mf 32) (mf 28) (mf 29) (mf 30) ((mf 27) 0).toInt 400) (lf_law1 : LW 16 400 (mf 31) (mf 32) (mf 28) (mf 29) (mf 30) ((mf 27) 1).toInt 400) (lf_lamp : (((mi 6).toInt = 0 ∧ ((mf 1) 3).toInt = 0) ∨ ((mf 1) 3).toInt < (mi 6).toInt)) : Met l yX12_image (Cond.code yX12_image cX12_image 3 (some .boolean) :: GW) ({ frames := 3, cells := 0, slots := 0, locals := 83 } : Room) (va_Pc [.ref M, .int 1] (PW D cI cJ sz (MW cI cJ M mr mi mf mg) xT)) (va_Qi (fun (r : Int32) (u : Int32 × Int32 × Int32 × Int32 × (Nat → Int32)) => (r.toInt = 1) ∧ (u.2.2.1.toInt = 1) ∧ (IMGO u.2.2.1.toInt u.2.2.2.2) ∧ (((u.2.2.2.2 66).toInt = (mi 6).toInt ∧ SGT u.2.2.2.2 (mf 7) 0 67 5 10 ∧ (u.2.2.2.2 121).toInt = (mi 17).toInt)) ∧ (SGT u.2.2.2.2 (mf 11) 0 71 5 10)) (fun u => QW D cI cJ (va_A (MW cI cJ M mr mi mf mg) sz) ((fun (u : Int32 × Int32 × Int32 × Int32 × (Nat → Int32)) => (MW cI cJ M mr (upd (upd (upd (upd mi 0 u.1) 66 u.2.1) 67 u.2.2.1) 68 u.2.2.2.1) (va_up mf 69 u.2.2.2.2) mg)) u)) (va_A (MW cI cJ M mr mi mf mg) sz)) 0 0 (va_A (MW cI cJ M mr mi mf mg) sz) := by
  refine mk_met (y := yX12_image) (bytes := cX12_image) (maxL := 3) (avs := [.ref M, .int 1]) (WS := (MW cI cJ M mr mi mf mg)) (Qf := fun A => va_Qi (fun (r : Int32) (u : Int32 × Int32 × Int32 × Int32 × (Nat → Int32)) => (r.toInt = 1) ∧ (u.2.2.1.toInt = 1) ∧ (IMGO u.2.2.1.toInt u.2.2.2.2) ∧ (((u.2.2.2.2 66).toInt = (mi 6).toInt ∧ SGT u.2.2.2.2 (mf 7) 0 67 5 10 ∧ (u.2.2.2.2 121).toInt = (mi 17).toInt)) ∧ (SGT u.2.2.2.2 (mf 11) 0 71 5 10)) (fun u => QW D cI cJ A ((fun (u : Int32 × Int32 × Int32 × Int32 × (Nat → Int32)) => (MW cI cJ M mr (upd (upd (upd (upd mi 0 u.1) 66 u.2.1) 67 u.2.2.1) 68 u.2.2.2.1) (va_up mf 69 u.2.2.2.2) mg)) u)) A) (by decide) (Nat.le_of_ble_eq_true rfl) ?_
  intro p e s m below meth c A ls E hr hlk hnm hX hw1 hl2
  have hl3 : lv_has ls 3 [(0, .ref M), (1, .int 1)] := hl2
  refine lv_aload_n (pc := 0) E.1 E.2.1 dX12_image_0 rfl (lv_at hl3 0 rfl) ?_
  refine lv_iconst (pc := 1) (v := 0) E.1 E.2.1 dX12_image_1 (by decide +kernel) ?_
  refine x_put (pc := 2) (T := TX12) (N := 70) (ci := 12) (ws' := (MW cI cJ M mr (upd mi 0 0) mf mg)) E hw1 inX12 tyX12_ok nmX12 0 0 q_1399 rfl rfl (by decide) rfl rfl rfl rfl (Nat.le_of_ble_eq_true rfl) rfl dX12_image_2 (fun H locs hw4 => ?_)
  refine lv_iload_n (pc := 5) E.1 E.2.1 dX12_image_5 rfl (lv_at hl3 1 rfl) ?_
  refine lv_if_ne (pc := 6) (tgt := 18) E.1 E.2.1 dX12_image_6 (by decide) (fun _ => ?_) (fun c_5 => absurd c_5 (mneE (a := 1) (b := 0) (by decide +kernel) (by decide +kernel) (by omega)))
  refine lv_aload_n (pc := 18) E.1 E.2.1 dX12_image_18 rfl (lv_at hl3 0 rfl) ?_
  refine lv_iload_n (pc := 19) E.1 E.2.1 dX12_image_19 rfl (lv_at hl3 1 rfl) ?_
  refine x_put (pc := 20) (T := TX12) (N := 70) (ci := 12) (ws' := (MW cI cJ M mr (upd (upd mi 0 0) 66 1) mf mg)) E hw4 inX12 tyX12_ok nmX12 0 66 q_1465 rfl rfl (by decide) rfl rfl rfl rfl (Nat.le_of_ble_eq_true rfl) rfl dX12_image_20 (fun H locs hw6 => ?_)
  refine lv_aload_n (pc := 23) E.1 E.2.1 dX12_image_23 rfl (lv_at hl3 0 rfl) ?_
  refine lv_iconst (pc := 24) (v := 1) E.1 E.2.1 dX12_image_24 (by decide +kernel) ?_
  refine x_put (pc := 25) (T := TX12) (N := 70) (ci := 12) (ws' := (MW cI cJ M mr (upd (upd (upd mi 0 0) 66 1) 67 1) mf mg)) E hw6 inX12 tyX12_ok nmX12 0 67 q_1466 rfl rfl (by decide) rfl rfl rfl rfl (Nat.le_of_ble_eq_true rfl) rfl dX12_image_25 (fun H locs hw7 => ?_)
  refine lv_aload_n (pc := 28) E.1 E.2.1 dX12_image_28 rfl (lv_at hl3 0 rfl) ?_
  refine lv_iconst (pc := 29) (v := 0) E.1 E.2.1 dX12_image_29 (by decide +kernel) ?_
  refine x_put (pc := 30) (T := TX12) (N := 70) (ci := 12) (ws' := (MW cI cJ M mr (upd (upd (upd (upd mi 0 0) 66 1) 67 1) 68 0) mf mg)) E hw7 inX12 tyX12_ok nmX12 0 68 q_1467 rfl rfl (by decide) rfl rfl rfl rfl (Nat.le_of_ble_eq_true rfl) rfl dX12_image_30 (fun H locs hw8 => ?_)
  refine lv_iconst (pc := 33) (v := 0) E.1 E.2.1 dX12_image_33 (by decide +kernel) ?_
  refine lv_istore_n (pc := 34) (lv' := [(2, .int 0), (0, .ref M), (1, .int 1)]) E.1 E.2.1 dX12_image_34 rfl hl3 (by decide) rfl (fun ls hl9 => ?_)
  have loop_10 : ∀ (k : Nat) (x_11 : Int32) (x_12 : Int32) (g_13 : Nat → Int32) (H : Heap) (locs : List Loc) (ls : Array Slot), (0 ≤ x_11.toInt) ∧ (x_11.toInt ≤ 66) ∧ (x_12.toInt = x_11.toInt) ∧ (FRM (mf 69) g_13 0) ∧ (SGT g_13 (mf 1) 0 0 1 x_11.toInt) → 66 - x_11.toInt < (k : Int) → WD D A s.heap (MW cI cJ M mr (upd (upd (upd (upd mi 0 0) 66 1) 67 1) 68 x_12) (va_up mf 69 g_13) mg) H locs → lv_has ls 3 [(2, .int x_11), (0, .ref M), (1, .int 1)] → W p l e ({ frames := 3, cells := 0, slots := 0, locals := 83 } : Room) s m ([.ref M, .int 1] : List Value).toArray below meth c H locs 0 0 (MQ below (va_Qi (fun (r : Int32) (u : Int32 × Int32 × Int32 × Int32 × (Nat → Int32)) => (r.toInt = 1) ∧ (u.2.2.1.toInt = 1) ∧ (IMGO u.2.2.1.toInt u.2.2.2.2) ∧ (((u.2.2.2.2 66).toInt = (mi 6).toInt ∧ SGT u.2.2.2.2 (mf 7) 0 67 5 10 ∧ (u.2.2.2.2 121).toInt = (mi 17).toInt)) ∧ (SGT u.2.2.2.2 (mf 11) 0 71 5 10)) (fun u => QW D cI cJ A ((fun (u : Int32 × Int32 × Int32 × Int32 × (Nat → Int32)) => (MW cI cJ M mr (upd (upd (upd (upd mi 0 u.1) 66 u.2.1) 67 u.2.2.1) 68 u.2.2.2.1) (va_up mf 69 u.2.2.2.2) mg)) u)) A) ([.ref M, .int 1] : List Value).toArray s 0 0 A) (F0 m 35 ls []) := by
    intro k
    induction k with
    | zero =>
      intro x_11 x_12 g_13 _ _ _ hinv hm
      obtain ⟨hi_13_0, hi_13_1, hi_13_2, hi_13_3, hi_13_4⟩ := hinv
      exact absurd hm (by omega)
    | succ k ih_14 =>
      intro x_11 x_12 g_13 H locs ls hinv hm hw15 hl16
      obtain ⟨hi_13_0, hi_13_1, hi_13_2, hi_13_3, hi_13_4⟩ := hinv
      refine lv_iload_n (pc := 35) E.1 E.2.1 dX12_image_35 rfl (lv_at hl16 0 rfl) ?_
      refine lv_bipush (pc := 36) (v := 66) E.1 E.2.1 dX12_image_36 (by decide +kernel) ?_
      refine lv_icmp_ge (pc := 38) (tgt := 63) E.1 E.2.1 dX12_image_38 (by decide) (fun c_17 => ?_) (fun c_17 => ?_)
      · skip
        have hc_17 := leE (a := 66) (b := x_11.toInt) (by decide +kernel) rfl c_17
        refine lv_aload_n (pc := 63) E.1 E.2.1 dX12_image_63 rfl (lv_at hl16 1 rfl) ?_
        refine cm_v (pc := 64) hw15 (rn_M (As := []) (rest := []) E hw15 (s_keepsVillage1B l D cI cJ _ M mr (upd (upd (upd (upd mi 0 0) 66 1) 67 1) 68 x_12) (va_up mf 69 g_13) mg (by show (1 : Int32).toInt = 1; have k_1 : (1 : Int32).toInt = 1 := (by decide +kernel); omega) (by show x_12.toInt = 66; omega)) (gdV q_2129 q_2131 q_147 q_162 q_2132) hdV_X12_keepsVillage ⟨rfl, rfl⟩ ⟨(Nat.le_of_ble_eq_true rfl), (Nat.le_of_ble_eq_true rfl)⟩ ⟨(Nat.le_of_ble_eq_true rfl), (Nat.le_of_ble_eq_true rfl)⟩ 12 rfl rfl rfl rfl hl16.1 rfl (Nat.le_of_ble_eq_true rfl) dX12_image_64) (fun u_18 H1 locs hp hw20 => ?_)
        obtain ⟨nkeptAt_21, gimages_22⟩ := u_18
        generalize H1 = H at hw20 ⊢
        have hw23 : WD D A s.heap (MW cI cJ M mr (upd (upd (upd (upd mi 0 0) 66 1) 67 1) 68 nkeptAt_21) (va_up mf 69 gimages_22) mg) H locs := hw20
        obtain ⟨hp_24, hp_25, hp_26, hp_27⟩ := hp
        have hp_24 : nkeptAt_21.toInt = 138 := hp_24
        have hp_25 : ((gimages_22 66).toInt = (mi 6).toInt ∧ SGT gimages_22 (mf 8) 0 68 5 10 ∧ (gimages_22 120).toInt = (mi 15).toInt ∧ (gimages_22 121).toInt = (mi 17).toInt ∧ FRM g_13 gimages_22 66) := hp_25
        have hp_26 : SGT gimages_22 (mf 7) 0 67 5 10 := hp_26
        have hp_27 : SGT gimages_22 (mf 11) 0 71 5 10 := hp_27
        refine lv_aload_n (pc := 67) E.1 E.2.1 dX12_image_67 rfl (lv_at hl16 1 rfl) ?_
        refine cm_v (pc := 68) hw23 (rn_M (As := []) (rest := []) E hw23 (s_keepsTexts1 l D cI cJ _ M mr (upd (upd (upd (upd mi 0 0) 66 1) 67 1) 68 nkeptAt_21) (va_up mf 69 gimages_22) mg (by show (1 : Int32).toInt = 1; have k_1 : (1 : Int32).toInt = 1 := (by decide +kernel); omega) hp_24) (gdV q_2133 q_2135 q_148 q_162 q_2136) hdV_X12_keepsTexts ⟨rfl, rfl⟩ ⟨(Nat.le_of_ble_eq_true rfl), (Nat.le_of_ble_eq_true rfl)⟩ ⟨(Nat.le_of_ble_eq_true rfl), (Nat.le_of_ble_eq_true rfl)⟩ 12 rfl rfl rfl rfl hl16.1 rfl (Nat.le_of_ble_eq_true rfl) dX12_image_68) (fun u_28 H1 locs hp hw30 => ?_)
        obtain ⟨nkeptAt_31, gimages_32⟩ := u_28
        generalize H1 = H at hw30 ⊢
        have hw33 : WD D A s.heap (MW cI cJ M mr (upd (upd (upd (upd mi 0 0) 66 1) 67 1) 68 nkeptAt_31) (va_up mf 69 gimages_32) mg) H locs := hw30
        obtain ⟨hp_34, hp_35⟩ := hp
        have hp_34 : nkeptAt_31.toInt = 551 := hp_34
        have hp_35 : ((gimages_32 138).toInt = (mi 42).toInt ∧ SGT gimages_32 (mf 43) 0 139 1 160 ∧ (gimages_32 299).toInt = (mi 44).toInt ∧ (gimages_32 350).toInt = (mi 49).toInt ∧ SGT gimages_32 (mf 50) 0 351 1 200 ∧ FRM gimages_22 gimages_32 138) := hp_35
        refine lv_iconst (pc := 71) (v := 0) E.1 E.2.1 dX12_image_71 (by decide +kernel) ?_
        refine lv_istore_n (pc := 72) (lv' := [(2, .int 0), (0, .ref M), (1, .int 1)]) E.1 E.2.1 dX12_image_72 rfl hl16 (by decide) rfl (fun ls hl36 => ?_)
        have loop_37 : ∀ (k : Nat) (x_38 : Int32) (x_39 : Int32) (g_40 : Nat → Int32) (H : Heap) (locs : List Loc) (ls : Array Slot), (0 ≤ x_38.toInt) ∧ (x_38.toInt ≤ 900) ∧ (x_39.toInt = 551 + x_38.toInt) ∧ (FRM gimages_32 g_40 551) → 900 - x_38.toInt < (k : Int) → WD D A s.heap (MW cI cJ M mr (upd (upd (upd (upd mi 0 0) 66 1) 67 1) 68 x_39) (va_up mf 69 g_40) mg) H locs → lv_has ls 3 [(2, .int x_38), (0, .ref M), (1, .int 1)] → W p l e ({ frames := 3, cells := 0, slots := 0, locals := 83 } : Room) s m ([.ref M, .int 1] : List Value).toArray below meth c H locs 0 0 (MQ below (va_Qi (fun (r : Int32) (u : Int32 × Int32 × Int32 × Int32 × (Nat → Int32)) => (r.toInt = 1) ∧ (u.2.2.1.toInt = 1) ∧ (IMGO u.2.2.1.toInt u.2.2.2.2) ∧ (((u.2.2.2.2 66).toInt = (mi 6).toInt ∧ SGT u.2.2.2.2 (mf 7) 0 67 5 10 ∧ (u.2.2.2.2 121).toInt = (mi 17).toInt)) ∧ (SGT u.2.2.2.2 (mf 11) 0 71 5 10)) (fun u => QW D cI cJ A ((fun (u : Int32 × Int32 × Int32 × Int32 × (Nat → Int32)) => (MW cI cJ M mr (upd (upd (upd (upd mi 0 u.1) 66 u.2.1) 67 u.2.2.1) 68 u.2.2.2.1) (va_up mf 69 u.2.2.2.2) mg)) u)) A) ([.ref M, .int 1] : List Value).toArray s 0 0 A) (F0 m 73 ls []) := by
          intro k
          induction k with
          | zero =>
            intro x_38 x_39 g_40 _ _ _ hinv hm
            obtain ⟨hi_40_0, hi_40_1, hi_40_2, hi_40_3⟩ := hinv
            exact absurd hm (by omega)
          | succ k ih_41 =>
            intro x_38 x_39 g_40 H locs ls hinv hm hw42 hl43
            obtain ⟨hi_40_0, hi_40_1, hi_40_2, hi_40_3⟩ := hinv
            refine lv_iload_n (pc := 73) E.1 E.2.1 dX12_image_73 rfl (lv_at hl43 0 rfl) ?_
            refine lv_sipush (pc := 74) (v := 900) E.1 E.2.1 dX12_image_74 (by decide +kernel) ?_
            refine lv_icmp_ge (pc := 77) (tgt := 102) E.1 E.2.1 dX12_image_77 (by decide) (fun c_44 => ?_) (fun c_44 => ?_)
            · skip
              have hc_44 := leE (a := 900) (b := x_38.toInt) (by decide +kernel) rfl c_44
              refine lv_aload_n (pc := 102) E.1 E.2.1 dX12_image_102 rfl (lv_at hl43 1 rfl) ?_
              refine lv_iconst (pc := 103) (v := 0) E.1 E.2.1 dX12_image_103 (by decide +kernel) ?_
              refine cm_v (pc := 104) hw42 (rn_M (As := [.int 0]) (rest := []) E hw42 (s_keepsLaw0_1 l D cI cJ _ M mr (upd (upd (upd (upd mi 0 0) 66 1) 67 1) 68 x_39) (va_up mf 69 g_40) mg (by show (1 : Int32).toInt = 1; have k_1 : (1 : Int32).toInt = 1 := (by decide +kernel); omega) (by show x_39.toInt = 1451; omega)) (gdV q_2137 q_2139 q_149 q_162 q_2140) hdV_X12_keepsLaw ⟨rfl, rfl⟩ ⟨(Nat.le_of_ble_eq_true rfl), (Nat.le_of_ble_eq_true rfl)⟩ ⟨(Nat.le_of_ble_eq_true rfl), (Nat.le_of_ble_eq_true rfl)⟩ 12 rfl rfl rfl rfl hl43.1 rfl (Nat.le_of_ble_eq_true rfl) dX12_image_104) (fun u_45 H1 locs hp hw47 => ?_)
              obtain ⟨nkeptAt_48, gimages_49⟩ := u_45
              generalize H1 = H at hw47 ⊢
              have hw50 : WD D A s.heap (MW cI cJ M mr (upd (upd (upd (upd mi 0 0) 66 1) 67 1) 68 nkeptAt_48) (va_up mf 69 gimages_49) mg) H locs := hw47
              obtain ⟨hp_51, hp_52⟩ := hp
              have hp_51 : nkeptAt_48.toInt = 2300 := hp_51
              have hp_52 : LT1 1451 0 0 (mf 31) (mf 32) (mf 28) (mf 29) (mf 30) g_40 gimages_49 ((mf 27) 0).toInt := hp_52
              refine lv_aload_n (pc := 107) E.1 E.2.1 dX12_image_107 rfl (lv_at hl43 1 rfl) ?_
              refine lv_iconst (pc := 108) (v := 1) E.1 E.2.1 dX12_image_108 (by decide +kernel) ?_
              refine cm_v (pc := 109) hw50 (rn_M (As := [.int 1]) (rest := []) E hw50 (s_keepsLaw1_1 l D cI cJ _ M mr (upd (upd (upd (upd mi 0 0) 66 1) 67 1) 68 nkeptAt_48) (va_up mf 69 gimages_49) mg (by show (1 : Int32).toInt = 1; have k_0 : (1 : Int32).toInt = 1 := (by decide +kernel); omega) hp_51) (gdV q_2137 q_2139 q_149 q_162 q_2140) hdV_X12_keepsLaw ⟨rfl, rfl⟩ ⟨(Nat.le_of_ble_eq_true rfl), (Nat.le_of_ble_eq_true rfl)⟩ ⟨(Nat.le_of_ble_eq_true rfl), (Nat.le_of_ble_eq_true rfl)⟩ 12 rfl rfl rfl rfl hl43.1 rfl (Nat.le_of_ble_eq_true rfl) dX12_image_109) (fun u_53 H1 locs hp hw55 => ?_)
              obtain ⟨nkeptAt_56, gimages_57⟩ := u_53
              generalize H1 = H at hw55 ⊢
              have hw58 : WD D A s.heap (MW cI cJ M mr (upd (upd (upd (upd mi 0 0) 66 1) 67 1) 68 nkeptAt_56) (va_up mf 69 gimages_57) mg) H locs := hw55
              obtain ⟨hp_59, hp_60⟩ := hp
              have hp_59 : nkeptAt_56.toInt = 3149 := hp_59
              have hp_60 : LT1 2300 16 400 (mf 31) (mf 32) (mf 28) (mf 29) (mf 30) gimages_49 gimages_57 ((mf 27) 1).toInt := hp_60
              refine lv_iload_n (pc := 112) E.1 E.2.1 dX12_image_112 rfl (lv_at hl43 2 rfl) ?_
              refine lv_if_ne (pc := 113) (tgt := 121) E.1 E.2.1 dX12_image_113 (by decide) (fun _ => ?_) (fun c_61 => absurd c_61 (mneE (a := 1) (b := 0) (by decide +kernel) (by decide +kernel) (by omega)))
              have hn2 : (g_13 2).toInt = ((mf 1) 2).toInt := by have q := hi_13_4 2 (by omega); exact congrArg Int32.toInt q
              have hc2 := (congrArg Int32.toInt ((hp_60.2.2.2.2.2.2 2 (by omega)).trans ((hp_52.2.2.2.2.2.2 2 (by omega)).trans ((hi_40_3 2 (by omega)).trans ((hp_35.2.2.2.2.2 2 (by omega)).trans (hp_25.2.2.2.2 2 (by omega))))))).trans hn2
              have hn3 : (g_13 3).toInt = ((mf 1) 3).toInt := by have q := hi_13_4 3 (by omega); exact congrArg Int32.toInt q
              have hc3 := (congrArg Int32.toInt ((hp_60.2.2.2.2.2.2 3 (by omega)).trans ((hp_52.2.2.2.2.2.2 3 (by omega)).trans ((hi_40_3 3 (by omega)).trans ((hp_35.2.2.2.2.2 3 (by omega)).trans (hp_25.2.2.2.2 3 (by omega))))))).trans hn3
              have hn5 : (g_13 5).toInt = ((mf 1) 5).toInt := by have q := hi_13_4 5 (by omega); exact congrArg Int32.toInt q
              have hc5 := (congrArg Int32.toInt ((hp_60.2.2.2.2.2.2 5 (by omega)).trans ((hp_52.2.2.2.2.2.2 5 (by omega)).trans ((hi_40_3 5 (by omega)).trans ((hp_35.2.2.2.2.2 5 (by omega)).trans (hp_25.2.2.2.2 5 (by omega))))))).trans hn5
              have hc66 := (congrArg Int32.toInt ((hp_60.2.2.2.2.2.2 66 (by omega)).trans ((hp_52.2.2.2.2.2.2 66 (by omega)).trans ((hi_40_3 66 (by omega)).trans (hp_35.2.2.2.2.2 66 (by omega)))))).trans hp_25.1
              have hc120 := (congrArg Int32.toInt ((hp_60.2.2.2.2.2.2 120 (by omega)).trans ((hp_52.2.2.2.2.2.2 120 (by omega)).trans ((hi_40_3 120 (by omega)).trans (hp_35.2.2.2.2.2 120 (by omega)))))).trans hp_25.2.2.1
              have hc121 := (congrArg Int32.toInt ((hp_60.2.2.2.2.2.2 121 (by omega)).trans ((hp_52.2.2.2.2.2.2 121 (by omega)).trans ((hi_40_3 121 (by omega)).trans (hp_35.2.2.2.2.2 121 (by omega)))))).trans hp_25.2.2.2.1
              have hc138 := (congrArg Int32.toInt ((hp_60.2.2.2.2.2.2 138 (by omega)).trans ((hp_52.2.2.2.2.2.2 138 (by omega)).trans (hi_40_3 138 (by omega))))).trans hp_35.1
              have hc299 := (congrArg Int32.toInt ((hp_60.2.2.2.2.2.2 299 (by omega)).trans ((hp_52.2.2.2.2.2.2 299 (by omega)).trans (hi_40_3 299 (by omega))))).trans hp_35.2.2.1
              have hc350 := (congrArg Int32.toInt ((hp_60.2.2.2.2.2.2 350 (by omega)).trans ((hp_52.2.2.2.2.2.2 350 (by omega)).trans (hi_40_3 350 (by omega))))).trans hp_35.2.2.2.1
              have hc1451 := (congrArg Int32.toInt (hp_60.2.2.2.2.2.2 1451 (by omega))).trans hp_52.1
              have hc2300 := hp_60.1
              have hsp : SGT gimages_57 (mf 8) 0 68 5 10 := (SGT_fr (SGT_fr (SGT_fr (SGT_fr hp_25.2.1 hp_35.2.2.2.2.2 (fun j hj => by omega)) hi_40_3 (fun j hj => by omega)) hp_52.2.2.2.2.2.2 (fun j hj => by omega)) hp_60.2.2.2.2.2.2 (fun j hj => by omega))
              have hsq : SGT gimages_57 (mf 43) 0 139 1 160 := (SGT_fr (SGT_fr (SGT_fr hp_35.2.1 hi_40_3 (fun j hj => by omega)) hp_52.2.2.2.2.2.2 (fun j hj => by omega)) hp_60.2.2.2.2.2.2 (fun j hj => by omega))
              have hsr : SGT gimages_57 (mf 50) 0 351 1 200 := (SGT_fr (SGT_fr (SGT_fr hp_35.2.2.2.2.1 hi_40_3 (fun j hj => by omega)) hp_52.2.2.2.2.2.2 (fun j hj => by omega)) hp_60.2.2.2.2.2.2 (fun j hj => by omega))
              have hlm := lf_lamp
              have hIMG : IMG gimages_57 := ⟨⟨by omega, by omega, by omega, by omega, by omega, by omega, by omega, by omega, by omega, by omega, by omega, by omega⟩, (by rw [hc66]; exact pplOK_tr lf_people (fun j hj => SGT_z hsp (by omega))), pathsOK_tr a_paths (fun j hj => SGT_z hsq (by omega)), (by rw [hc350, hc66]; exact rndOK_tr lf_round (fun j hj => SGT_z hsr (by omega))), LW_img (S := 1451) lf_law0 (by omega) (SGT_fr hp_52.2.1 hp_60.2.2.2.2.2.2 (fun j hj => by omega)) (SGT_fr hp_52.2.2.1 hp_60.2.2.2.2.2.2 (fun j hj => by omega)) (SGT_fr hp_52.2.2.2.1 hp_60.2.2.2.2.2.2 (fun j hj => by omega)) (SGT_fr hp_52.2.2.2.2.1 hp_60.2.2.2.2.2.2 (fun j hj => by omega)) (SGT_fr hp_52.2.2.2.2.2.1 hp_60.2.2.2.2.2.2 (fun j hj => by omega)) hc1451, LW_img (S := 2300) lf_law1 (by omega) hp_60.2.1 hp_60.2.2.1 hp_60.2.2.2.1 hp_60.2.2.2.2.1 hp_60.2.2.2.2.2.1 hc2300⟩
              have hpl : SGT gimages_57 (mf 7) 0 67 5 10 := (SGT_fr (SGT_fr (SGT_fr (SGT_fr hp_26 hp_35.2.2.2.2.2 (fun j hj => by omega)) hi_40_3 (fun j hj => by omega)) hp_52.2.2.2.2.2.2 (fun j hj => by omega)) hp_60.2.2.2.2.2.2 (fun j hj => by omega))
              have hbl : SGT gimages_57 (mf 11) 0 71 5 10 := (SGT_fr (SGT_fr (SGT_fr (SGT_fr hp_27 hp_35.2.2.2.2.2 (fun j hj => by omega)) hi_40_3 (fun j hj => by omega)) hp_52.2.2.2.2.2.2 (fun j hj => by omega)) hp_60.2.2.2.2.2.2 (fun j hj => by omega))
              refine lv_iconst (pc := 121) (v := 1) E.1 E.2.1 dX12_image_121 (by decide +kernel) ?_
              exact em_z (w1 := (fun (u : Int32 × Int32 × Int32 × Int32 × (Nat → Int32)) => (MW cI cJ M mr (upd (upd (upd (upd mi 0 u.1) 66 u.2.1) 67 u.2.2.1) 68 u.2.2.2.1) (va_up mf 69 u.2.2.2.2) mg))) E hr hlk (0, 1, 1, nkeptAt_56, gimages_57) hw58 ⟨(by show (1 : Int32).toInt = 1; have k_0 : (1 : Int32).toInt = 1 := (by decide +kernel); have k_1 : (0 : Int32).toInt = 0 := (by decide +kernel); have k_2 : (1 : Int32).toInt = 1 := (by decide +kernel); have k_3 : (1 : Int32).toInt = 1 := (by decide +kernel); have k_4 : (1 : Int32).toInt = 1 := (by decide +kernel); omega), (by show (1 : Int32).toInt = 1; have k_0 : (1 : Int32).toInt = 1 := (by decide +kernel); have k_1 : (0 : Int32).toInt = 0 := (by decide +kernel); have k_2 : (1 : Int32).toInt = 1 := (by decide +kernel); have k_3 : (1 : Int32).toInt = 1 := (by decide +kernel); have k_4 : (1 : Int32).toInt = 1 := (by decide +kernel); omega), (show IMGO ((1 : Int32).toInt) gimages_57 from (Or.inr hIMG)), (show ((gimages_57 66).toInt = (mi 6).toInt ∧ SGT gimages_57 (mf 7) 0 67 5 10 ∧ (gimages_57 121).toInt = (mi 17).toInt) from ⟨hc66, hpl, hc121⟩), (show SGT gimages_57 (mf 11) 0 71 5 10 from hbl)⟩ (by decide +kernel) (Nat.le_of_ble_eq_true rfl) (Nat.le_of_ble_eq_true rfl) dX12_image_122
            · skip
              have hc_44 := nleE (a := 900) (b := x_38.toInt) (by decide +kernel) rfl c_44
              refine lv_aload_n (pc := 80) E.1 E.2.1 dX12_image_80 rfl (lv_at hl43 1 rfl) ?_
              refine x_get (pc := 81) (T := TX12) (N := 70) (ci := 12) (v := .ref (mr 16)) E hw42 inX12 0 16 q_1415 rfl rfl (by decide) rfl rfl dX12_image_81 ?_
              refine lv_iload_n (pc := 84) E.1 E.2.1 dX12_image_84 rfl (lv_at hl43 0 rfl) ?_
              refine lv_aload_n (pc := 85) E.1 E.2.1 dX12_image_85 rfl (lv_at hl43 1 rfl) ?_
              refine lv_aload_n (pc := 86) E.1 E.2.1 dX12_image_86 rfl (lv_at hl43 1 rfl) ?_
              refine x_get (pc := 87) (T := TX12) (N := 70) (ci := 12) (v := .ref (mr 16)) E hw42 inX12 0 16 q_1415 rfl rfl (by decide) rfl rfl dX12_image_87 ?_
              refine lv_iload_n (pc := 90) E.1 E.2.1 dX12_image_90 rfl (lv_at hl43 0 rfl) ?_
              refine x_iald (pc := 91) (f := (mf 16)) E hw42 9 rfl (inbE (a := x_38.toInt) (n := 900) rfl (by omega)) dX12_image_91 ?_
              refine lv_topi (fun v_62 ev_62 => ?_)
              refine cm_i (pc := 92) hw42 (rn_M (As := [.int v_62]) (rest := [.int x_38, .ref (mr 16)]) E hw42 (s_kept1 l D cI cJ _ M mr (upd (upd (upd (upd mi 0 0) 66 1) 67 1) 68 x_39) (va_up mf 69 g_40) mg v_62 (by show (1 : Int32).toInt = 1; have k_1 : (1 : Int32).toInt = 1 := (by decide +kernel); omega) (by show 0 ≤ x_39.toInt ∧ x_39.toInt ≤ 3599; omega)) (gdV q_2125 q_2127 q_146 q_162 q_2128) hdV_X12_kept ⟨rfl, rfl⟩ ⟨(Nat.le_of_ble_eq_true rfl), (Nat.le_of_ble_eq_true rfl)⟩ ⟨(Nat.le_of_ble_eq_true rfl), (Nat.le_of_ble_eq_true rfl)⟩ 12 rfl rfl rfl rfl hl43.1 rfl (Nat.le_of_ble_eq_true rfl) dX12_image_92) (fun r_64 u_63 H1 locs hp hw65 => ?_)
              obtain ⟨nkeptAt_66, gimages_67⟩ := u_63
              generalize H1 = H at hw65 ⊢
              have hw68 : WD D A s.heap (MW cI cJ M mr (upd (upd (upd (upd mi 0 0) 66 1) 67 1) 68 nkeptAt_66) (va_up mf 69 gimages_67) mg) H locs := hw65
              obtain ⟨hp_69, hp_70⟩ := hp
              have hp_69 : nkeptAt_66.toInt = x_39.toInt + 1 := hp_69
              have hp_70 : (gimages_67 = upd g_40 (x_39).toNatClampNeg v_62 ∧ r_64 = v_62) := hp_70
              obtain ⟨egimages_67, rfl⟩ := hp_70
              refine x_iastG (pc := 95) (f := (mf 16)) (wf := fun g => (MW cI cJ M mr (upd (upd (upd (upd mi 0 0) 66 1) 67 1) 68 nkeptAt_66) (va_up (va_up mf 16 g) 69 gimages_67) mg)) E hw68 9 rfl (inbE (a := x_38.toInt) (n := 900) rfl (by omega)) (fun _ => rfl) dX12_image_95 (fun g_71 H locs eg_71 hw72 => ?_)
              obtain rfl : g_71 = (mf 16) := by rw [eg_71]; exact upd_same ev_62
              have hw73 : WD D A s.heap (MW cI cJ M mr (upd (upd (upd (upd mi 0 0) 66 1) 67 1) 68 nkeptAt_66) (va_up mf 69 gimages_67) mg) H locs := hw72
              obtain ⟨v_74, ev_74⟩ : ∃ z : Int32, x_38 + Int32.ofInt (1) = z := ⟨_, rfl⟩
              have hv_74 : v_74.toInt = x_38.toInt + (1) := by rw [← ev_74]; exact incE rfl (by decide) (by omega)
              refine lv_iinc (pc := 96) (v := v_74) (lv' := [(2, .int v_74), (0, .ref M), (1, .int 1)]) E.1 E.2.1 dX12_image_96 hl43 (k := 0) rfl ev_74 (by decide) rfl (fun ls hl75 => ?_)
              refine lv_goto (pc := 99) (tgt := 73) E.1 E.2.1 dX12_image_99 (by decide) ?_
              exact ih_41 v_74 nkeptAt_66 gimages_67 _ _ _ ⟨(by show 0 ≤ v_74.toInt; omega), (by show v_74.toInt ≤ 900; omega), (by show nkeptAt_66.toInt = 551 + v_74.toInt; omega), (FRM_put hi_40_3 egimages_67 (by omega))⟩ (by omega) hw73 (lv_sub hl75 [0, 1, 2] rfl)
        exact loop_37 (Int.toNat (900 - 0) + 1) 0 nkeptAt_31 gimages_32 _ _ _ ⟨(by show 0 ≤ (0 : Int32).toInt; have k_0 : (0 : Int32).toInt = 0 := (by decide +kernel); omega), (by show (0 : Int32).toInt ≤ 900; have k_0 : (0 : Int32).toInt = 0 := (by decide +kernel); omega), (by show nkeptAt_31.toInt = 551 + (0 : Int32).toInt; have k_0 : (0 : Int32).toInt = 0 := (by decide +kernel); omega), FRM_nil⟩ (by have k_0 : (0 : Int32).toInt = 0 := (by decide +kernel); omega) hw33 (lv_sub hl36 [0, 1, 2] rfl)
      · skip
        have hc_17 := nleE (a := 66) (b := x_11.toInt) (by decide +kernel) rfl c_17
        refine lv_aload_n (pc := 41) E.1 E.2.1 dX12_image_41 rfl (lv_at hl16 1 rfl) ?_
        refine x_get (pc := 42) (T := TX12) (N := 70) (ci := 12) (v := .ref (mr 1)) E hw15 inX12 0 1 q_1400 rfl rfl (by decide) rfl rfl dX12_image_42 ?_
        refine lv_iload_n (pc := 45) E.1 E.2.1 dX12_image_45 rfl (lv_at hl16 0 rfl) ?_
        refine lv_aload_n (pc := 46) E.1 E.2.1 dX12_image_46 rfl (lv_at hl16 1 rfl) ?_
        refine lv_aload_n (pc := 47) E.1 E.2.1 dX12_image_47 rfl (lv_at hl16 1 rfl) ?_
        refine x_get (pc := 48) (T := TX12) (N := 70) (ci := 12) (v := .ref (mr 1)) E hw15 inX12 0 1 q_1400 rfl rfl (by decide) rfl rfl dX12_image_48 ?_
        refine lv_iload_n (pc := 51) E.1 E.2.1 dX12_image_51 rfl (lv_at hl16 0 rfl) ?_
        refine x_iald (pc := 52) (f := (mf 1)) E hw15 1 rfl (inbE (a := x_11.toInt) (n := 66) rfl (by omega)) dX12_image_52 ?_
        refine lv_topi (fun v_76 ev_76 => ?_)
        refine cm_i (pc := 53) hw15 (rn_M (As := [.int v_76]) (rest := [.int x_11, .ref (mr 1)]) E hw15 (s_kept1 l D cI cJ _ M mr (upd (upd (upd (upd mi 0 0) 66 1) 67 1) 68 x_12) (va_up mf 69 g_13) mg v_76 (by show (1 : Int32).toInt = 1; have k_1 : (1 : Int32).toInt = 1 := (by decide +kernel); omega) (by show 0 ≤ x_12.toInt ∧ x_12.toInt ≤ 3599; omega)) (gdV q_2125 q_2127 q_146 q_162 q_2128) hdV_X12_kept ⟨rfl, rfl⟩ ⟨(Nat.le_of_ble_eq_true rfl), (Nat.le_of_ble_eq_true rfl)⟩ ⟨(Nat.le_of_ble_eq_true rfl), (Nat.le_of_ble_eq_true rfl)⟩ 12 rfl rfl rfl rfl hl16.1 rfl (Nat.le_of_ble_eq_true rfl) dX12_image_53) (fun r_78 u_77 H1 locs hp hw79 => ?_)
        obtain ⟨nkeptAt_80, gimages_81⟩ := u_77
        generalize H1 = H at hw79 ⊢
        have hw82 : WD D A s.heap (MW cI cJ M mr (upd (upd (upd (upd mi 0 0) 66 1) 67 1) 68 nkeptAt_80) (va_up mf 69 gimages_81) mg) H locs := hw79
        obtain ⟨hp_83, hp_84⟩ := hp
        have hp_83 : nkeptAt_80.toInt = x_12.toInt + 1 := hp_83
        have hp_84 : (gimages_81 = upd g_13 (x_12).toNatClampNeg v_76 ∧ r_78 = v_76) := hp_84
        obtain ⟨egimages_81, rfl⟩ := hp_84
        refine x_iastG (pc := 56) (f := (mf 1)) (wf := fun g => (MW cI cJ M mr (upd (upd (upd (upd mi 0 0) 66 1) 67 1) 68 nkeptAt_80) (va_up (va_up mf 1 g) 69 gimages_81) mg)) E hw82 1 rfl (inbE (a := x_11.toInt) (n := 66) rfl (by omega)) (fun _ => rfl) dX12_image_56 (fun g_85 H locs eg_85 hw86 => ?_)
        obtain rfl : g_85 = (mf 1) := by rw [eg_85]; exact upd_same ev_76
        have hw87 : WD D A s.heap (MW cI cJ M mr (upd (upd (upd (upd mi 0 0) 66 1) 67 1) 68 nkeptAt_80) (va_up mf 69 gimages_81) mg) H locs := hw86
        obtain ⟨v_88, ev_88⟩ : ∃ z : Int32, x_11 + Int32.ofInt (1) = z := ⟨_, rfl⟩
        have hv_88 : v_88.toInt = x_11.toInt + (1) := by rw [← ev_88]; exact incE rfl (by decide) (by omega)
        refine lv_iinc (pc := 57) (v := v_88) (lv' := [(2, .int v_88), (0, .ref M), (1, .int 1)]) E.1 E.2.1 dX12_image_57 hl16 (k := 0) rfl ev_88 (by decide) rfl (fun ls hl89 => ?_)
        refine lv_goto (pc := 60) (tgt := 35) E.1 E.2.1 dX12_image_60 (by decide) ?_
        exact ih_14 v_88 nkeptAt_80 gimages_81 _ _ _ ⟨(by show 0 ≤ v_88.toInt; omega), (by show v_88.toInt ≤ 66; omega), (by show nkeptAt_80.toInt = v_88.toInt; omega), (FRM_put hi_13_3 egimages_81 (by omega)), (SGT_put hi_13_4 egimages_81 (by omega) (by omega) ev_76 (by omega) (by decide) (m := v_88.toInt) (by omega))⟩ (by omega) hw87 (lv_sub hl89 [0, 1, 2] rfl)
  exact loop_10 (Int.toNat (66 - 0) + 1) 0 0 (mf 69) _ _ _ ⟨(by show 0 ≤ (0 : Int32).toInt; have k_0 : (0 : Int32).toInt = 0 := (by decide +kernel); omega), (by show (0 : Int32).toInt ≤ 66; have k_0 : (0 : Int32).toInt = 0 := (by decide +kernel); omega), rfl, FRM_nil, (SGT_nil (by decide +kernel))⟩ (by have k_0 : (0 : Int32).toInt = 0 := (by decide +kernel); have k_1 : (0 : Int32).toInt = 0 := (by decide +kernel); omega) hw8 (lv_sub hl9 [0, 1, 2] rfl)
set_option maxHeartbeats 4000000 in
set_option maxRecDepth 100000 in
theorem s_image0B (l : Launch) (D : va_G) (cI cJ : ClassId) (sz M : Nat) (mr : Nat → Nat) (mi : Nat → Int32) (mf : Nat → Nat → Int32) (mg : Nat → Nat → Int64)  (h0 : 0 ≤ (mi 6).toInt ∧ (mi 6).toInt ≤ 10) (h1 : 0 ≤ ((mf 1) 2).toInt ∧ ((mf 1) 2).toInt ≤ 150) (h2 : 0 ≤ ((mf 1) 3).toInt ∧ ((mf 1) 3).toInt ≤ 9) (h3 : 0 ≤ ((mf 1) 5).toInt ∧ ((mf 1) 5).toInt ≤ 200) (h4 : 0 ≤ (mi 44).toInt ∧ (mi 44).toInt ≤ 10) (h5 : 0 ≤ (mi 42).toInt ∧ (mi 42).toInt ≤ 40) (h6 : 0 ≤ ((mf 27) 0).toInt) (h7 : ((mf 27) 0).toInt ≤ 16) (h8 : 0 ≤ ((mf 27) 1).toInt) (h9 : ((mf 27) 1).toInt ≤ 16) (h10 : 0 ≤ (mi 49).toInt ∧ (mi 49).toInt ≤ 200) (h11 : (-29) ≤ (mi 15).toInt ∧ (mi 15).toInt ≤ 69) (h12 : 0 ≤ (mi 17).toInt ∧ (mi 17).toInt ≤ 8) (h13 : 0 ≤ (mi 3).toInt ∧ (mi 3).toInt ≤ 6) (a_paths : pathsOK (mf 43)) (lf_people : pplOK (mi 6).toInt (mf 8)) (lf_round : rndOK (mi 49).toInt (mi 6).toInt (mf 50)) (lf_law0 : LW 0 0 (mf 31) (mf 32) (mf 28) (mf 29) (mf 30) ((mf 27) 0).toInt 400) (lf_law1 : LW 16 400 (mf 31) (mf 32) (mf 28) (mf 29) (mf 30) ((mf 27) 1).toInt 400) (lf_lamp : (((mi 6).toInt = 0 ∧ ((mf 1) 3).toInt = 0) ∨ ((mf 1) 3).toInt < (mi 6).toInt)) (lf_rows : rowsOK (mi 3).toInt (mi 6).toInt (mf 2)) (lf_img : IMGO ((mi 67).toInt) (mf 69)) : Met l yX12_image (Cond.code yX12_image cX12_image 3 (some .boolean) :: GW) ({ frames := 3, cells := 0, slots := 0, locals := 83 } : Room) (va_Pc [.ref M, .int 0] (PW D cI cJ sz (MW cI cJ M mr mi mf mg) xT)) (va_Qi (fun (r : Int32) (u : Int32 × Int32 × Int32 × (Nat → Int32) × Int32 × Int32 × (Nat → Int32) × (Nat → Int32) × (Nat → Int32) × (Nat → Int32) × (Nat → Int32) × Int32 × Int32 × Int32 × Int32 × Int32 × (Nat → Int32) × (Nat → Int32) × Int32 × (Nat → Int32) × Int32 × (Nat → Int32) × Int32 × (Nat → Int32) × (Nat → Int32) × (Nat → Int32) × (Nat → Int32) × (Nat → Int32) × (Nat → Int32) × (Nat → Int32) × (Nat → Int32) × Int32) => (0 ≤ r.toInt) ∧ (r.toInt ≤ 1) ∧ (0 ≤ (u.2.2.2.1 2).toInt) ∧ ((u.2.2.2.1 2).toInt ≤ 150) ∧ (0 ≤ (u.2.2.2.1 3).toInt) ∧ ((u.2.2.2.1 3).toInt ≤ 9) ∧ (0 ≤ (u.2.2.2.1 5).toInt) ∧ ((u.2.2.2.1 5).toInt ≤ 200) ∧ (0 ≤ u.2.2.2.2.2.1.toInt) ∧ (u.2.2.2.2.2.1.toInt ≤ 10) ∧ ((-29) ≤ u.2.2.2.2.2.2.2.2.2.2.2.2.2.2.1.toInt) ∧ (u.2.2.2.2.2.2.2.2.2.2.2.2.2.2.1.toInt ≤ 69) ∧ (0 ≤ u.2.2.2.2.2.2.2.2.2.2.2.2.2.2.2.1.toInt) ∧ (u.2.2.2.2.2.2.2.2.2.2.2.2.2.2.2.1.toInt ≤ 8) ∧ (0 ≤ u.2.2.2.2.2.2.2.2.2.2.2.2.2.2.2.2.2.2.1.toInt) ∧ (u.2.2.2.2.2.2.2.2.2.2.2.2.2.2.2.2.2.2.1.toInt ≤ 40) ∧ (0 ≤ u.2.2.2.2.2.2.2.2.2.2.2.2.2.2.2.2.2.2.2.2.1.toInt) ∧ (u.2.2.2.2.2.2.2.2.2.2.2.2.2.2.2.2.2.2.2.2.1.toInt ≤ 10) ∧ (0 ≤ u.2.2.2.2.2.2.2.2.2.2.2.2.2.2.2.2.2.2.2.2.2.2.1.toInt) ∧ (u.2.2.2.2.2.2.2.2.2.2.2.2.2.2.2.2.2.2.2.2.2.2.1.toInt ≤ 200) ∧ (0 ≤ (u.2.2.2.2.2.2.2.2.2.2.2.2.2.2.2.2.2.2.2.2.2.2.2.2.2.1 0).toInt) ∧ ((u.2.2.2.2.2.2.2.2.2.2.2.2.2.2.2.2.2.2.2.2.2.2.2.2.2.1 0).toInt ≤ 16) ∧ (0 ≤ (u.2.2.2.2.2.2.2.2.2.2.2.2.2.2.2.2.2.2.2.2.2.2.2.2.2.1 1).toInt) ∧ ((u.2.2.2.2.2.2.2.2.2.2.2.2.2.2.2.2.2.2.2.2.2.2.2.2.2.1 1).toInt ≤ 16) ∧ (0 ≤ u.2.2.2.2.2.2.2.2.2.2.2.2.2.2.2.2.2.2.2.2.2.2.2.2.2.2.2.2.2.2.2.toInt) ∧ (u.2.2.2.2.2.2.2.2.2.2.2.2.2.2.2.2.2.2.2.2.2.2.2.2.2.2.2.2.2.2.2.toInt ≤ 6) ∧ (pathsOK u.2.2.2.2.2.2.2.2.2.2.2.2.2.2.2.2.2.2.2.1) ∧ (pplOK u.2.2.2.2.2.1.toInt u.2.2.2.2.2.2.2.1) ∧ (rndOK u.2.2.2.2.2.2.2.2.2.2.2.2.2.2.2.2.2.2.2.2.2.2.1.toInt u.2.2.2.2.2.1.toInt u.2.2.2.2.2.2.2.2.2.2.2.2.2.2.2.2.2.2.2.2.2.2.2.1) ∧ (LW 0 0 u.2.2.2.2.2.2.2.2.2.2.2.2.2.2.2.2.2.2.2.2.2.2.2.2.2.2.2.2.2.1 u.2.2.2.2.2.2.2.2.2.2.2.2.2.2.2.2.2.2.2.2.2.2.2.2.2.2.2.2.2.2.1 u.2.2.2.2.2.2.2.2.2.2.2.2.2.2.2.2.2.2.2.2.2.2.2.2.2.2.1 u.2.2.2.2.2.2.2.2.2.2.2.2.2.2.2.2.2.2.2.2.2.2.2.2.2.2.2.1 u.2.2.2.2.2.2.2.2.2.2.2.2.2.2.2.2.2.2.2.2.2.2.2.2.2.2.2.2.1 (u.2.2.2.2.2.2.2.2.2.2.2.2.2.2.2.2.2.2.2.2.2.2.2.2.2.1 0).toInt 400) ∧ (LW 16 400 u.2.2.2.2.2.2.2.2.2.2.2.2.2.2.2.2.2.2.2.2.2.2.2.2.2.2.2.2.2.1 u.2.2.2.2.2.2.2.2.2.2.2.2.2.2.2.2.2.2.2.2.2.2.2.2.2.2.2.2.2.2.1 u.2.2.2.2.2.2.2.2.2.2.2.2.2.2.2.2.2.2.2.2.2.2.2.2.2.2.1 u.2.2.2.2.2.2.2.2.2.2.2.2.2.2.2.2.2.2.2.2.2.2.2.2.2.2.2.1 u.2.2.2.2.2.2.2.2.2.2.2.2.2.2.2.2.2.2.2.2.2.2.2.2.2.2.2.2.1 (u.2.2.2.2.2.2.2.2.2.2.2.2.2.2.2.2.2.2.2.2.2.2.2.2.2.1 1).toInt 400) ∧ (((u.2.2.2.2.2.1.toInt = 0 ∧ (u.2.2.2.1 3).toInt = 0) ∨ (u.2.2.2.1 3).toInt < u.2.2.2.2.2.1.toInt)) ∧ (rowsOK u.2.2.2.2.2.2.2.2.2.2.2.2.2.2.2.2.2.2.2.2.2.2.2.2.2.2.2.2.2.2.2.toInt u.2.2.2.2.2.1.toInt (mf 2)) ∧ (IMGO u.2.2.1.toInt (mf 69)) ∧ (((mi 67).toInt = 0 ∧ u.2.2.1.toInt = 0 ∧ u.2.2.2.2.2.1.toInt = (mi 6).toInt ∧ u.2.2.2.2.2.2.1 = (mf 7) ∧ u.2.2.2.2.2.2.2.2.2.2.2.2.2.2.2.1.toInt = (mi 17).toInt) ∨ ((mi 67).toInt ≠ 0 ∧ u.2.2.1.toInt ≠ 0 ∧ u.2.2.2.2.2.1.toInt = ((mf 69) 66).toInt ∧ SGT (mf 69) u.2.2.2.2.2.2.1 0 67 5 10 ∧ u.2.2.2.2.2.2.2.2.2.2.2.2.2.2.2.1.toInt = ((mf 69) 121).toInt)) ∧ ((((mi 67).toInt = 0 ∧ u.2.2.2.2.2.2.2.2.2.2.1 = (mf 11)) ∨ ((mi 67).toInt ≠ 0 ∧ SGT (mf 69) u.2.2.2.2.2.2.2.2.2.2.1 0 71 5 10)))) (fun u => QW D cI cJ (va_A (MW cI cJ M mr mi mf mg) sz) ((fun (u : Int32 × Int32 × Int32 × (Nat → Int32) × Int32 × Int32 × (Nat → Int32) × (Nat → Int32) × (Nat → Int32) × (Nat → Int32) × (Nat → Int32) × Int32 × Int32 × Int32 × Int32 × Int32 × (Nat → Int32) × (Nat → Int32) × Int32 × (Nat → Int32) × Int32 × (Nat → Int32) × Int32 × (Nat → Int32) × (Nat → Int32) × (Nat → Int32) × (Nat → Int32) × (Nat → Int32) × (Nat → Int32) × (Nat → Int32) × (Nat → Int32) × Int32) => (MW cI cJ M mr (upd (upd (upd (upd (upd (upd (upd (upd (upd (upd (upd (upd (upd (upd mi 0 u.1) 66 u.2.1) 67 u.2.2.1) 68 u.2.2.2.2.1) 6 u.2.2.2.2.2.1) 12 u.2.2.2.2.2.2.2.2.2.2.2.1) 13 u.2.2.2.2.2.2.2.2.2.2.2.2.1) 14 u.2.2.2.2.2.2.2.2.2.2.2.2.2.1) 15 u.2.2.2.2.2.2.2.2.2.2.2.2.2.2.1) 17 u.2.2.2.2.2.2.2.2.2.2.2.2.2.2.2.1) 42 u.2.2.2.2.2.2.2.2.2.2.2.2.2.2.2.2.2.2.1) 44 u.2.2.2.2.2.2.2.2.2.2.2.2.2.2.2.2.2.2.2.2.1) 49 u.2.2.2.2.2.2.2.2.2.2.2.2.2.2.2.2.2.2.2.2.2.2.1) 3 u.2.2.2.2.2.2.2.2.2.2.2.2.2.2.2.2.2.2.2.2.2.2.2.2.2.2.2.2.2.2.2) (va_up (va_up (va_up (va_up (va_up (va_up (va_up (va_up (va_up (va_up (va_up (va_up (va_up (va_up (va_up (va_up (va_up (va_up mf 1 u.2.2.2.1) 7 u.2.2.2.2.2.2.1) 8 u.2.2.2.2.2.2.2.1) 9 u.2.2.2.2.2.2.2.2.1) 10 u.2.2.2.2.2.2.2.2.2.1) 11 u.2.2.2.2.2.2.2.2.2.2.1) 18 u.2.2.2.2.2.2.2.2.2.2.2.2.2.2.2.2.1) 19 u.2.2.2.2.2.2.2.2.2.2.2.2.2.2.2.2.2.1) 43 u.2.2.2.2.2.2.2.2.2.2.2.2.2.2.2.2.2.2.2.1) 45 u.2.2.2.2.2.2.2.2.2.2.2.2.2.2.2.2.2.2.2.2.2.1) 50 u.2.2.2.2.2.2.2.2.2.2.2.2.2.2.2.2.2.2.2.2.2.2.2.1) 16 u.2.2.2.2.2.2.2.2.2.2.2.2.2.2.2.2.2.2.2.2.2.2.2.2.1) 27 u.2.2.2.2.2.2.2.2.2.2.2.2.2.2.2.2.2.2.2.2.2.2.2.2.2.1) 28 u.2.2.2.2.2.2.2.2.2.2.2.2.2.2.2.2.2.2.2.2.2.2.2.2.2.2.1) 29 u.2.2.2.2.2.2.2.2.2.2.2.2.2.2.2.2.2.2.2.2.2.2.2.2.2.2.2.1) 30 u.2.2.2.2.2.2.2.2.2.2.2.2.2.2.2.2.2.2.2.2.2.2.2.2.2.2.2.2.1) 31 u.2.2.2.2.2.2.2.2.2.2.2.2.2.2.2.2.2.2.2.2.2.2.2.2.2.2.2.2.2.1) 32 u.2.2.2.2.2.2.2.2.2.2.2.2.2.2.2.2.2.2.2.2.2.2.2.2.2.2.2.2.2.2.1) mg)) u)) (va_A (MW cI cJ M mr mi mf mg) sz)) 0 0 (va_A (MW cI cJ M mr mi mf mg) sz) := by
  refine mk_met (y := yX12_image) (bytes := cX12_image) (maxL := 3) (avs := [.ref M, .int 0]) (WS := (MW cI cJ M mr mi mf mg)) (Qf := fun A => va_Qi (fun (r : Int32) (u : Int32 × Int32 × Int32 × (Nat → Int32) × Int32 × Int32 × (Nat → Int32) × (Nat → Int32) × (Nat → Int32) × (Nat → Int32) × (Nat → Int32) × Int32 × Int32 × Int32 × Int32 × Int32 × (Nat → Int32) × (Nat → Int32) × Int32 × (Nat → Int32) × Int32 × (Nat → Int32) × Int32 × (Nat → Int32) × (Nat → Int32) × (Nat → Int32) × (Nat → Int32) × (Nat → Int32) × (Nat → Int32) × (Nat → Int32) × (Nat → Int32) × Int32) => (0 ≤ r.toInt) ∧ (r.toInt ≤ 1) ∧ (0 ≤ (u.2.2.2.1 2).toInt) ∧ ((u.2.2.2.1 2).toInt ≤ 150) ∧ (0 ≤ (u.2.2.2.1 3).toInt) ∧ ((u.2.2.2.1 3).toInt ≤ 9) ∧ (0 ≤ (u.2.2.2.1 5).toInt) ∧ ((u.2.2.2.1 5).toInt ≤ 200) ∧ (0 ≤ u.2.2.2.2.2.1.toInt) ∧ (u.2.2.2.2.2.1.toInt ≤ 10) ∧ ((-29) ≤ u.2.2.2.2.2.2.2.2.2.2.2.2.2.2.1.toInt) ∧ (u.2.2.2.2.2.2.2.2.2.2.2.2.2.2.1.toInt ≤ 69) ∧ (0 ≤ u.2.2.2.2.2.2.2.2.2.2.2.2.2.2.2.1.toInt) ∧ (u.2.2.2.2.2.2.2.2.2.2.2.2.2.2.2.1.toInt ≤ 8) ∧ (0 ≤ u.2.2.2.2.2.2.2.2.2.2.2.2.2.2.2.2.2.2.1.toInt) ∧ (u.2.2.2.2.2.2.2.2.2.2.2.2.2.2.2.2.2.2.1.toInt ≤ 40) ∧ (0 ≤ u.2.2.2.2.2.2.2.2.2.2.2.2.2.2.2.2.2.2.2.2.1.toInt) ∧ (u.2.2.2.2.2.2.2.2.2.2.2.2.2.2.2.2.2.2.2.2.1.toInt ≤ 10) ∧ (0 ≤ u.2.2.2.2.2.2.2.2.2.2.2.2.2.2.2.2.2.2.2.2.2.2.1.toInt) ∧ (u.2.2.2.2.2.2.2.2.2.2.2.2.2.2.2.2.2.2.2.2.2.2.1.toInt ≤ 200) ∧ (0 ≤ (u.2.2.2.2.2.2.2.2.2.2.2.2.2.2.2.2.2.2.2.2.2.2.2.2.2.1 0).toInt) ∧ ((u.2.2.2.2.2.2.2.2.2.2.2.2.2.2.2.2.2.2.2.2.2.2.2.2.2.1 0).toInt ≤ 16) ∧ (0 ≤ (u.2.2.2.2.2.2.2.2.2.2.2.2.2.2.2.2.2.2.2.2.2.2.2.2.2.1 1).toInt) ∧ ((u.2.2.2.2.2.2.2.2.2.2.2.2.2.2.2.2.2.2.2.2.2.2.2.2.2.1 1).toInt ≤ 16) ∧ (0 ≤ u.2.2.2.2.2.2.2.2.2.2.2.2.2.2.2.2.2.2.2.2.2.2.2.2.2.2.2.2.2.2.2.toInt) ∧ (u.2.2.2.2.2.2.2.2.2.2.2.2.2.2.2.2.2.2.2.2.2.2.2.2.2.2.2.2.2.2.2.toInt ≤ 6) ∧ (pathsOK u.2.2.2.2.2.2.2.2.2.2.2.2.2.2.2.2.2.2.2.1) ∧ (pplOK u.2.2.2.2.2.1.toInt u.2.2.2.2.2.2.2.1) ∧ (rndOK u.2.2.2.2.2.2.2.2.2.2.2.2.2.2.2.2.2.2.2.2.2.2.1.toInt u.2.2.2.2.2.1.toInt u.2.2.2.2.2.2.2.2.2.2.2.2.2.2.2.2.2.2.2.2.2.2.2.1) ∧ (LW 0 0 u.2.2.2.2.2.2.2.2.2.2.2.2.2.2.2.2.2.2.2.2.2.2.2.2.2.2.2.2.2.1 u.2.2.2.2.2.2.2.2.2.2.2.2.2.2.2.2.2.2.2.2.2.2.2.2.2.2.2.2.2.2.1 u.2.2.2.2.2.2.2.2.2.2.2.2.2.2.2.2.2.2.2.2.2.2.2.2.2.2.1 u.2.2.2.2.2.2.2.2.2.2.2.2.2.2.2.2.2.2.2.2.2.2.2.2.2.2.2.1 u.2.2.2.2.2.2.2.2.2.2.2.2.2.2.2.2.2.2.2.2.2.2.2.2.2.2.2.2.1 (u.2.2.2.2.2.2.2.2.2.2.2.2.2.2.2.2.2.2.2.2.2.2.2.2.2.1 0).toInt 400) ∧ (LW 16 400 u.2.2.2.2.2.2.2.2.2.2.2.2.2.2.2.2.2.2.2.2.2.2.2.2.2.2.2.2.2.1 u.2.2.2.2.2.2.2.2.2.2.2.2.2.2.2.2.2.2.2.2.2.2.2.2.2.2.2.2.2.2.1 u.2.2.2.2.2.2.2.2.2.2.2.2.2.2.2.2.2.2.2.2.2.2.2.2.2.2.1 u.2.2.2.2.2.2.2.2.2.2.2.2.2.2.2.2.2.2.2.2.2.2.2.2.2.2.2.1 u.2.2.2.2.2.2.2.2.2.2.2.2.2.2.2.2.2.2.2.2.2.2.2.2.2.2.2.2.1 (u.2.2.2.2.2.2.2.2.2.2.2.2.2.2.2.2.2.2.2.2.2.2.2.2.2.1 1).toInt 400) ∧ (((u.2.2.2.2.2.1.toInt = 0 ∧ (u.2.2.2.1 3).toInt = 0) ∨ (u.2.2.2.1 3).toInt < u.2.2.2.2.2.1.toInt)) ∧ (rowsOK u.2.2.2.2.2.2.2.2.2.2.2.2.2.2.2.2.2.2.2.2.2.2.2.2.2.2.2.2.2.2.2.toInt u.2.2.2.2.2.1.toInt (mf 2)) ∧ (IMGO u.2.2.1.toInt (mf 69)) ∧ (((mi 67).toInt = 0 ∧ u.2.2.1.toInt = 0 ∧ u.2.2.2.2.2.1.toInt = (mi 6).toInt ∧ u.2.2.2.2.2.2.1 = (mf 7) ∧ u.2.2.2.2.2.2.2.2.2.2.2.2.2.2.2.1.toInt = (mi 17).toInt) ∨ ((mi 67).toInt ≠ 0 ∧ u.2.2.1.toInt ≠ 0 ∧ u.2.2.2.2.2.1.toInt = ((mf 69) 66).toInt ∧ SGT (mf 69) u.2.2.2.2.2.2.1 0 67 5 10 ∧ u.2.2.2.2.2.2.2.2.2.2.2.2.2.2.2.1.toInt = ((mf 69) 121).toInt)) ∧ ((((mi 67).toInt = 0 ∧ u.2.2.2.2.2.2.2.2.2.2.1 = (mf 11)) ∨ ((mi 67).toInt ≠ 0 ∧ SGT (mf 69) u.2.2.2.2.2.2.2.2.2.2.1 0 71 5 10)))) (fun u => QW D cI cJ A ((fun (u : Int32 × Int32 × Int32 × (Nat → Int32) × Int32 × Int32 × (Nat → Int32) × (Nat → Int32) × (Nat → Int32) × (Nat → Int32) × (Nat → Int32) × Int32 × Int32 × Int32 × Int32 × Int32 × (Nat → Int32) × (Nat → Int32) × Int32 × (Nat → Int32) × Int32 × (Nat → Int32) × Int32 × (Nat → Int32) × (Nat → Int32) × (Nat → Int32) × (Nat → Int32) × (Nat → Int32) × (Nat → Int32) × (Nat → Int32) × (Nat → Int32) × Int32) => (MW cI cJ M mr (upd (upd (upd (upd (upd (upd (upd (upd (upd (upd (upd (upd (upd (upd mi 0 u.1) 66 u.2.1) 67 u.2.2.1) 68 u.2.2.2.2.1) 6 u.2.2.2.2.2.1) 12 u.2.2.2.2.2.2.2.2.2.2.2.1) 13 u.2.2.2.2.2.2.2.2.2.2.2.2.1) 14 u.2.2.2.2.2.2.2.2.2.2.2.2.2.1) 15 u.2.2.2.2.2.2.2.2.2.2.2.2.2.2.1) 17 u.2.2.2.2.2.2.2.2.2.2.2.2.2.2.2.1) 42 u.2.2.2.2.2.2.2.2.2.2.2.2.2.2.2.2.2.2.1) 44 u.2.2.2.2.2.2.2.2.2.2.2.2.2.2.2.2.2.2.2.2.1) 49 u.2.2.2.2.2.2.2.2.2.2.2.2.2.2.2.2.2.2.2.2.2.2.1) 3 u.2.2.2.2.2.2.2.2.2.2.2.2.2.2.2.2.2.2.2.2.2.2.2.2.2.2.2.2.2.2.2) (va_up (va_up (va_up (va_up (va_up (va_up (va_up (va_up (va_up (va_up (va_up (va_up (va_up (va_up (va_up (va_up (va_up (va_up mf 1 u.2.2.2.1) 7 u.2.2.2.2.2.2.1) 8 u.2.2.2.2.2.2.2.1) 9 u.2.2.2.2.2.2.2.2.1) 10 u.2.2.2.2.2.2.2.2.2.1) 11 u.2.2.2.2.2.2.2.2.2.2.1) 18 u.2.2.2.2.2.2.2.2.2.2.2.2.2.2.2.2.1) 19 u.2.2.2.2.2.2.2.2.2.2.2.2.2.2.2.2.2.1) 43 u.2.2.2.2.2.2.2.2.2.2.2.2.2.2.2.2.2.2.2.1) 45 u.2.2.2.2.2.2.2.2.2.2.2.2.2.2.2.2.2.2.2.2.2.1) 50 u.2.2.2.2.2.2.2.2.2.2.2.2.2.2.2.2.2.2.2.2.2.2.2.1) 16 u.2.2.2.2.2.2.2.2.2.2.2.2.2.2.2.2.2.2.2.2.2.2.2.2.1) 27 u.2.2.2.2.2.2.2.2.2.2.2.2.2.2.2.2.2.2.2.2.2.2.2.2.2.1) 28 u.2.2.2.2.2.2.2.2.2.2.2.2.2.2.2.2.2.2.2.2.2.2.2.2.2.2.1) 29 u.2.2.2.2.2.2.2.2.2.2.2.2.2.2.2.2.2.2.2.2.2.2.2.2.2.2.2.1) 30 u.2.2.2.2.2.2.2.2.2.2.2.2.2.2.2.2.2.2.2.2.2.2.2.2.2.2.2.2.1) 31 u.2.2.2.2.2.2.2.2.2.2.2.2.2.2.2.2.2.2.2.2.2.2.2.2.2.2.2.2.2.1) 32 u.2.2.2.2.2.2.2.2.2.2.2.2.2.2.2.2.2.2.2.2.2.2.2.2.2.2.2.2.2.2.1) mg)) u)) A) (by decide) (Nat.le_of_ble_eq_true rfl) ?_
  intro p e s m below meth c A ls E hr hlk hnm hX hw1 hl2
  have hl3 : lv_has ls 3 [(0, .ref M), (1, .int 0)] := hl2
  refine lv_aload_n (pc := 0) E.1 E.2.1 dX12_image_0 rfl (lv_at hl3 0 rfl) ?_
  refine lv_iconst (pc := 1) (v := 0) E.1 E.2.1 dX12_image_1 (by decide +kernel) ?_
  refine x_put (pc := 2) (T := TX12) (N := 70) (ci := 12) (ws' := (MW cI cJ M mr (upd mi 0 0) mf mg)) E hw1 inX12 tyX12_ok nmX12 0 0 q_1399 rfl rfl (by decide) rfl rfl rfl rfl (Nat.le_of_ble_eq_true rfl) rfl dX12_image_2 (fun H locs hw4 => ?_)
  refine lv_iload_n (pc := 5) E.1 E.2.1 dX12_image_5 rfl (lv_at hl3 1 rfl) ?_
  refine lv_if_ne (pc := 6) (tgt := 18) E.1 E.2.1 dX12_image_6 (by decide) (fun c_5 => absurd (meqE (a := 0) (b := 0) (by decide +kernel) (by decide +kernel) (by omega)) c_5) (fun _ => ?_)
  refine lv_aload_n (pc := 9) E.1 E.2.1 dX12_image_9 rfl (lv_at hl3 0 rfl) ?_
  refine x_get (pc := 10) (T := TX12) (N := 70) (ci := 12) (v := .int (mi 67)) E hw4 inX12 0 67 q_1466 rfl rfl (by decide) rfl rfl dX12_image_10 ?_
  refine lv_if_ne (pc := 13) (tgt := 18) E.1 E.2.1 dX12_image_13 (by decide) (fun c_6 => ?_) (fun c_6 => ?_)
  · skip
    have hc_6 := neE (a := (mi 67).toInt) (b := 0) rfl (by decide +kernel) c_6
    have himg : IMG (mf 69) := lf_img.resolve_left (by omega)
    have himb := himg.1
    refine lv_aload_n (pc := 18) E.1 E.2.1 dX12_image_18 rfl (lv_at hl3 0 rfl) ?_
    refine lv_iload_n (pc := 19) E.1 E.2.1 dX12_image_19 rfl (lv_at hl3 1 rfl) ?_
    refine x_put (pc := 20) (T := TX12) (N := 70) (ci := 12) (ws' := (MW cI cJ M mr (upd (upd mi 0 0) 66 0) mf mg)) E hw4 inX12 tyX12_ok nmX12 0 66 q_1465 rfl rfl (by decide) rfl rfl rfl rfl (Nat.le_of_ble_eq_true rfl) rfl dX12_image_20 (fun H locs hw7 => ?_)
    refine lv_aload_n (pc := 23) E.1 E.2.1 dX12_image_23 rfl (lv_at hl3 0 rfl) ?_
    refine lv_iconst (pc := 24) (v := 1) E.1 E.2.1 dX12_image_24 (by decide +kernel) ?_
    refine x_put (pc := 25) (T := TX12) (N := 70) (ci := 12) (ws' := (MW cI cJ M mr (upd (upd (upd mi 0 0) 66 0) 67 1) mf mg)) E hw7 inX12 tyX12_ok nmX12 0 67 q_1466 rfl rfl (by decide) rfl rfl rfl rfl (Nat.le_of_ble_eq_true rfl) rfl dX12_image_25 (fun H locs hw8 => ?_)
    refine lv_aload_n (pc := 28) E.1 E.2.1 dX12_image_28 rfl (lv_at hl3 0 rfl) ?_
    refine lv_iconst (pc := 29) (v := 0) E.1 E.2.1 dX12_image_29 (by decide +kernel) ?_
    refine x_put (pc := 30) (T := TX12) (N := 70) (ci := 12) (ws' := (MW cI cJ M mr (upd (upd (upd (upd mi 0 0) 66 0) 67 1) 68 0) mf mg)) E hw8 inX12 tyX12_ok nmX12 0 68 q_1467 rfl rfl (by decide) rfl rfl rfl rfl (Nat.le_of_ble_eq_true rfl) rfl dX12_image_30 (fun H locs hw9 => ?_)
    refine lv_iconst (pc := 33) (v := 0) E.1 E.2.1 dX12_image_33 (by decide +kernel) ?_
    refine lv_istore_n (pc := 34) (lv' := [(2, .int 0), (0, .ref M), (1, .int 0)]) E.1 E.2.1 dX12_image_34 rfl hl3 (by decide) rfl (fun ls hl10 => ?_)
    have loop_11 : ∀ (k : Nat) (x_12 : Int32) (x_13 : Int32) (g_14 : Nat → Int32) (H : Heap) (locs : List Loc) (ls : Array Slot), (0 ≤ x_12.toInt) ∧ (x_12.toInt ≤ 66) ∧ (x_13.toInt = x_12.toInt) ∧ (SGT (mf 69) g_14 0 0 1 x_12.toInt) → 66 - x_12.toInt < (k : Int) → WD D A s.heap (MW cI cJ M mr (upd (upd (upd (upd mi 0 0) 66 0) 67 1) 68 x_13) (va_up mf 1 g_14) mg) H locs → lv_has ls 3 [(2, .int x_12), (0, .ref M), (1, .int 0)] → W p l e ({ frames := 3, cells := 0, slots := 0, locals := 83 } : Room) s m ([.ref M, .int 0] : List Value).toArray below meth c H locs 0 0 (MQ below (va_Qi (fun (r : Int32) (u : Int32 × Int32 × Int32 × (Nat → Int32) × Int32 × Int32 × (Nat → Int32) × (Nat → Int32) × (Nat → Int32) × (Nat → Int32) × (Nat → Int32) × Int32 × Int32 × Int32 × Int32 × Int32 × (Nat → Int32) × (Nat → Int32) × Int32 × (Nat → Int32) × Int32 × (Nat → Int32) × Int32 × (Nat → Int32) × (Nat → Int32) × (Nat → Int32) × (Nat → Int32) × (Nat → Int32) × (Nat → Int32) × (Nat → Int32) × (Nat → Int32) × Int32) => (0 ≤ r.toInt) ∧ (r.toInt ≤ 1) ∧ (0 ≤ (u.2.2.2.1 2).toInt) ∧ ((u.2.2.2.1 2).toInt ≤ 150) ∧ (0 ≤ (u.2.2.2.1 3).toInt) ∧ ((u.2.2.2.1 3).toInt ≤ 9) ∧ (0 ≤ (u.2.2.2.1 5).toInt) ∧ ((u.2.2.2.1 5).toInt ≤ 200) ∧ (0 ≤ u.2.2.2.2.2.1.toInt) ∧ (u.2.2.2.2.2.1.toInt ≤ 10) ∧ ((-29) ≤ u.2.2.2.2.2.2.2.2.2.2.2.2.2.2.1.toInt) ∧ (u.2.2.2.2.2.2.2.2.2.2.2.2.2.2.1.toInt ≤ 69) ∧ (0 ≤ u.2.2.2.2.2.2.2.2.2.2.2.2.2.2.2.1.toInt) ∧ (u.2.2.2.2.2.2.2.2.2.2.2.2.2.2.2.1.toInt ≤ 8) ∧ (0 ≤ u.2.2.2.2.2.2.2.2.2.2.2.2.2.2.2.2.2.2.1.toInt) ∧ (u.2.2.2.2.2.2.2.2.2.2.2.2.2.2.2.2.2.2.1.toInt ≤ 40) ∧ (0 ≤ u.2.2.2.2.2.2.2.2.2.2.2.2.2.2.2.2.2.2.2.2.1.toInt) ∧ (u.2.2.2.2.2.2.2.2.2.2.2.2.2.2.2.2.2.2.2.2.1.toInt ≤ 10) ∧ (0 ≤ u.2.2.2.2.2.2.2.2.2.2.2.2.2.2.2.2.2.2.2.2.2.2.1.toInt) ∧ (u.2.2.2.2.2.2.2.2.2.2.2.2.2.2.2.2.2.2.2.2.2.2.1.toInt ≤ 200) ∧ (0 ≤ (u.2.2.2.2.2.2.2.2.2.2.2.2.2.2.2.2.2.2.2.2.2.2.2.2.2.1 0).toInt) ∧ ((u.2.2.2.2.2.2.2.2.2.2.2.2.2.2.2.2.2.2.2.2.2.2.2.2.2.1 0).toInt ≤ 16) ∧ (0 ≤ (u.2.2.2.2.2.2.2.2.2.2.2.2.2.2.2.2.2.2.2.2.2.2.2.2.2.1 1).toInt) ∧ ((u.2.2.2.2.2.2.2.2.2.2.2.2.2.2.2.2.2.2.2.2.2.2.2.2.2.1 1).toInt ≤ 16) ∧ (0 ≤ u.2.2.2.2.2.2.2.2.2.2.2.2.2.2.2.2.2.2.2.2.2.2.2.2.2.2.2.2.2.2.2.toInt) ∧ (u.2.2.2.2.2.2.2.2.2.2.2.2.2.2.2.2.2.2.2.2.2.2.2.2.2.2.2.2.2.2.2.toInt ≤ 6) ∧ (pathsOK u.2.2.2.2.2.2.2.2.2.2.2.2.2.2.2.2.2.2.2.1) ∧ (pplOK u.2.2.2.2.2.1.toInt u.2.2.2.2.2.2.2.1) ∧ (rndOK u.2.2.2.2.2.2.2.2.2.2.2.2.2.2.2.2.2.2.2.2.2.2.1.toInt u.2.2.2.2.2.1.toInt u.2.2.2.2.2.2.2.2.2.2.2.2.2.2.2.2.2.2.2.2.2.2.2.1) ∧ (LW 0 0 u.2.2.2.2.2.2.2.2.2.2.2.2.2.2.2.2.2.2.2.2.2.2.2.2.2.2.2.2.2.1 u.2.2.2.2.2.2.2.2.2.2.2.2.2.2.2.2.2.2.2.2.2.2.2.2.2.2.2.2.2.2.1 u.2.2.2.2.2.2.2.2.2.2.2.2.2.2.2.2.2.2.2.2.2.2.2.2.2.2.1 u.2.2.2.2.2.2.2.2.2.2.2.2.2.2.2.2.2.2.2.2.2.2.2.2.2.2.2.1 u.2.2.2.2.2.2.2.2.2.2.2.2.2.2.2.2.2.2.2.2.2.2.2.2.2.2.2.2.1 (u.2.2.2.2.2.2.2.2.2.2.2.2.2.2.2.2.2.2.2.2.2.2.2.2.2.1 0).toInt 400) ∧ (LW 16 400 u.2.2.2.2.2.2.2.2.2.2.2.2.2.2.2.2.2.2.2.2.2.2.2.2.2.2.2.2.2.1 u.2.2.2.2.2.2.2.2.2.2.2.2.2.2.2.2.2.2.2.2.2.2.2.2.2.2.2.2.2.2.1 u.2.2.2.2.2.2.2.2.2.2.2.2.2.2.2.2.2.2.2.2.2.2.2.2.2.2.1 u.2.2.2.2.2.2.2.2.2.2.2.2.2.2.2.2.2.2.2.2.2.2.2.2.2.2.2.1 u.2.2.2.2.2.2.2.2.2.2.2.2.2.2.2.2.2.2.2.2.2.2.2.2.2.2.2.2.1 (u.2.2.2.2.2.2.2.2.2.2.2.2.2.2.2.2.2.2.2.2.2.2.2.2.2.1 1).toInt 400) ∧ (((u.2.2.2.2.2.1.toInt = 0 ∧ (u.2.2.2.1 3).toInt = 0) ∨ (u.2.2.2.1 3).toInt < u.2.2.2.2.2.1.toInt)) ∧ (rowsOK u.2.2.2.2.2.2.2.2.2.2.2.2.2.2.2.2.2.2.2.2.2.2.2.2.2.2.2.2.2.2.2.toInt u.2.2.2.2.2.1.toInt (mf 2)) ∧ (IMGO u.2.2.1.toInt (mf 69)) ∧ (((mi 67).toInt = 0 ∧ u.2.2.1.toInt = 0 ∧ u.2.2.2.2.2.1.toInt = (mi 6).toInt ∧ u.2.2.2.2.2.2.1 = (mf 7) ∧ u.2.2.2.2.2.2.2.2.2.2.2.2.2.2.2.1.toInt = (mi 17).toInt) ∨ ((mi 67).toInt ≠ 0 ∧ u.2.2.1.toInt ≠ 0 ∧ u.2.2.2.2.2.1.toInt = ((mf 69) 66).toInt ∧ SGT (mf 69) u.2.2.2.2.2.2.1 0 67 5 10 ∧ u.2.2.2.2.2.2.2.2.2.2.2.2.2.2.2.1.toInt = ((mf 69) 121).toInt)) ∧ ((((mi 67).toInt = 0 ∧ u.2.2.2.2.2.2.2.2.2.2.1 = (mf 11)) ∨ ((mi 67).toInt ≠ 0 ∧ SGT (mf 69) u.2.2.2.2.2.2.2.2.2.2.1 0 71 5 10)))) (fun u => QW D cI cJ A ((fun (u : Int32 × Int32 × Int32 × (Nat → Int32) × Int32 × Int32 × (Nat → Int32) × (Nat → Int32) × (Nat → Int32) × (Nat → Int32) × (Nat → Int32) × Int32 × Int32 × Int32 × Int32 × Int32 × (Nat → Int32) × (Nat → Int32) × Int32 × (Nat → Int32) × Int32 × (Nat → Int32) × Int32 × (Nat → Int32) × (Nat → Int32) × (Nat → Int32) × (Nat → Int32) × (Nat → Int32) × (Nat → Int32) × (Nat → Int32) × (Nat → Int32) × Int32) => (MW cI cJ M mr (upd (upd (upd (upd (upd (upd (upd (upd (upd (upd (upd (upd (upd (upd mi 0 u.1) 66 u.2.1) 67 u.2.2.1) 68 u.2.2.2.2.1) 6 u.2.2.2.2.2.1) 12 u.2.2.2.2.2.2.2.2.2.2.2.1) 13 u.2.2.2.2.2.2.2.2.2.2.2.2.1) 14 u.2.2.2.2.2.2.2.2.2.2.2.2.2.1) 15 u.2.2.2.2.2.2.2.2.2.2.2.2.2.2.1) 17 u.2.2.2.2.2.2.2.2.2.2.2.2.2.2.2.1) 42 u.2.2.2.2.2.2.2.2.2.2.2.2.2.2.2.2.2.2.1) 44 u.2.2.2.2.2.2.2.2.2.2.2.2.2.2.2.2.2.2.2.2.1) 49 u.2.2.2.2.2.2.2.2.2.2.2.2.2.2.2.2.2.2.2.2.2.2.1) 3 u.2.2.2.2.2.2.2.2.2.2.2.2.2.2.2.2.2.2.2.2.2.2.2.2.2.2.2.2.2.2.2) (va_up (va_up (va_up (va_up (va_up (va_up (va_up (va_up (va_up (va_up (va_up (va_up (va_up (va_up (va_up (va_up (va_up (va_up mf 1 u.2.2.2.1) 7 u.2.2.2.2.2.2.1) 8 u.2.2.2.2.2.2.2.1) 9 u.2.2.2.2.2.2.2.2.1) 10 u.2.2.2.2.2.2.2.2.2.1) 11 u.2.2.2.2.2.2.2.2.2.2.1) 18 u.2.2.2.2.2.2.2.2.2.2.2.2.2.2.2.2.1) 19 u.2.2.2.2.2.2.2.2.2.2.2.2.2.2.2.2.2.1) 43 u.2.2.2.2.2.2.2.2.2.2.2.2.2.2.2.2.2.2.2.1) 45 u.2.2.2.2.2.2.2.2.2.2.2.2.2.2.2.2.2.2.2.2.2.1) 50 u.2.2.2.2.2.2.2.2.2.2.2.2.2.2.2.2.2.2.2.2.2.2.2.1) 16 u.2.2.2.2.2.2.2.2.2.2.2.2.2.2.2.2.2.2.2.2.2.2.2.2.1) 27 u.2.2.2.2.2.2.2.2.2.2.2.2.2.2.2.2.2.2.2.2.2.2.2.2.2.1) 28 u.2.2.2.2.2.2.2.2.2.2.2.2.2.2.2.2.2.2.2.2.2.2.2.2.2.2.1) 29 u.2.2.2.2.2.2.2.2.2.2.2.2.2.2.2.2.2.2.2.2.2.2.2.2.2.2.2.1) 30 u.2.2.2.2.2.2.2.2.2.2.2.2.2.2.2.2.2.2.2.2.2.2.2.2.2.2.2.2.1) 31 u.2.2.2.2.2.2.2.2.2.2.2.2.2.2.2.2.2.2.2.2.2.2.2.2.2.2.2.2.2.1) 32 u.2.2.2.2.2.2.2.2.2.2.2.2.2.2.2.2.2.2.2.2.2.2.2.2.2.2.2.2.2.2.1) mg)) u)) A) ([.ref M, .int 0] : List Value).toArray s 0 0 A) (F0 m 35 ls []) := by
      intro k
      induction k with
      | zero =>
        intro x_12 x_13 g_14 _ _ _ hinv hm
        obtain ⟨hi_14_0, hi_14_1, hi_14_2, hi_14_3⟩ := hinv
        exact absurd hm (by omega)
      | succ k ih_15 =>
        intro x_12 x_13 g_14 H locs ls hinv hm hw16 hl17
        obtain ⟨hi_14_0, hi_14_1, hi_14_2, hi_14_3⟩ := hinv
        refine lv_iload_n (pc := 35) E.1 E.2.1 dX12_image_35 rfl (lv_at hl17 0 rfl) ?_
        refine lv_bipush (pc := 36) (v := 66) E.1 E.2.1 dX12_image_36 (by decide +kernel) ?_
        refine lv_icmp_ge (pc := 38) (tgt := 63) E.1 E.2.1 dX12_image_38 (by decide) (fun c_18 => ?_) (fun c_18 => ?_)
        · skip
          have hc_18 := leE (a := 66) (b := x_12.toInt) (by decide +kernel) rfl c_18
          have hn_19 : (g_14 2).toInt = ((mf 69) 2).toInt := by have q := hi_14_3 2 (by omega); exact (congrArg Int32.toInt q).symm
          have hn_19b : 0 ≤ (g_14 2).toInt ∧ (g_14 2).toInt ≤ 150 := by omega
          have hn_20 : (g_14 3).toInt = ((mf 69) 3).toInt := by have q := hi_14_3 3 (by omega); exact (congrArg Int32.toInt q).symm
          have hn_20b : 0 ≤ (g_14 3).toInt ∧ (g_14 3).toInt ≤ 9 := by omega
          have hn_21 : (g_14 5).toInt = ((mf 69) 5).toInt := by have q := hi_14_3 5 (by omega); exact (congrArg Int32.toInt q).symm
          have hn_21b : 0 ≤ (g_14 5).toInt ∧ (g_14 5).toInt ≤ 200 := by omega
          refine lv_aload_n (pc := 63) E.1 E.2.1 dX12_image_63 rfl (lv_at hl17 1 rfl) ?_
          refine cm_v (pc := 64) hw16 (rn_M (As := []) (rest := []) E hw16 (s_keepsVillage0B l D cI cJ _ M mr (upd (upd (upd (upd mi 0 0) 66 0) 67 1) 68 x_13) (va_up mf 1 g_14) mg (by show (0 : Int32).toInt = 0; have k_0 : (0 : Int32).toInt = 0 := (by decide +kernel); omega) (by show x_13.toInt = 66; omega)) (gdV q_2129 q_2131 q_147 q_162 q_2132) hdV_X12_keepsVillage ⟨rfl, rfl⟩ ⟨(Nat.le_of_ble_eq_true rfl), (Nat.le_of_ble_eq_true rfl)⟩ ⟨(Nat.le_of_ble_eq_true rfl), (Nat.le_of_ble_eq_true rfl)⟩ 12 rfl rfl rfl rfl hl17.1 rfl (Nat.le_of_ble_eq_true rfl) dX12_image_64) (fun u_22 H1 locs hp hw24 => ?_)
          obtain ⟨nkeptAt_25, nhouses_26, gplaceOf_27, gpeopleOf_28, gbidOf_29, gsaysOf_30, gfriendsOf_31, nflakes_32, nmargin_33, nduskBut_34, ndueBut_35, nclueMany_36, gclueNight_37, gclueSet_38⟩ := u_22
          generalize H1 = H at hw24 ⊢
          have hw39 : WD D A s.heap (MW cI cJ M mr (upd (upd (upd (upd (upd (upd (upd (upd (upd (upd mi 0 0) 6 nhouses_26) 12 nflakes_32) 13 nmargin_33) 14 nduskBut_34) 15 ndueBut_35) 17 nclueMany_36) 66 0) 67 1) 68 nkeptAt_25) (va_up (va_up (va_up (va_up (va_up (va_up (va_up (va_up mf 1 g_14) 7 gplaceOf_27) 8 gpeopleOf_28) 9 gbidOf_29) 10 gsaysOf_30) 11 gfriendsOf_31) 18 gclueNight_37) 19 gclueSet_38) mg) H locs := hw24
          obtain ⟨hp_40, hp_41, hp_42, hp_43⟩ := hp
          have hp_40 : nkeptAt_25.toInt = 138 := hp_40
          have hp_41 : (nhouses_26.toInt = ((mf 69) 66).toInt ∧ SGT (mf 69) gpeopleOf_28 0 68 5 10 ∧ ndueBut_35.toInt = ((mf 69) 120).toInt ∧ nclueMany_36.toInt = ((mf 69) 121).toInt) := hp_41
          have hp_42 : SGT (mf 69) gplaceOf_27 0 67 5 10 := hp_42
          have hp_43 : SGT (mf 69) gfriendsOf_31 0 71 5 10 := hp_43
          refine lv_aload_n (pc := 67) E.1 E.2.1 dX12_image_67 rfl (lv_at hl17 1 rfl) ?_
          refine cm_v (pc := 68) hw39 (rn_M (As := []) (rest := []) E hw39 (s_keepsTexts0 l D cI cJ _ M mr (upd (upd (upd (upd (upd (upd (upd (upd (upd (upd mi 0 0) 6 nhouses_26) 12 nflakes_32) 13 nmargin_33) 14 nduskBut_34) 15 ndueBut_35) 17 nclueMany_36) 66 0) 67 1) 68 nkeptAt_25) (va_up (va_up (va_up (va_up (va_up (va_up (va_up (va_up mf 1 g_14) 7 gplaceOf_27) 8 gpeopleOf_28) 9 gbidOf_29) 10 gsaysOf_30) 11 gfriendsOf_31) 18 gclueNight_37) 19 gclueSet_38) mg (by show (0 : Int32).toInt = 0; have k_0 : (0 : Int32).toInt = 0 := (by decide +kernel); omega) hp_40) (gdV q_2133 q_2135 q_148 q_162 q_2136) hdV_X12_keepsTexts ⟨rfl, rfl⟩ ⟨(Nat.le_of_ble_eq_true rfl), (Nat.le_of_ble_eq_true rfl)⟩ ⟨(Nat.le_of_ble_eq_true rfl), (Nat.le_of_ble_eq_true rfl)⟩ 12 rfl rfl rfl rfl hl17.1 rfl (Nat.le_of_ble_eq_true rfl) dX12_image_68) (fun u_44 H1 locs hp hw46 => ?_)
          obtain ⟨nkeptAt_47, npathMany_48, gpaths_49, nneedMany_50, gneeds_51, nroundMany_52, ground_53⟩ := u_44
          generalize H1 = H at hw46 ⊢
          have hw54 : WD D A s.heap (MW cI cJ M mr (upd (upd (upd (upd (upd (upd (upd (upd (upd (upd (upd (upd (upd mi 0 0) 6 nhouses_26) 12 nflakes_32) 13 nmargin_33) 14 nduskBut_34) 15 ndueBut_35) 17 nclueMany_36) 42 npathMany_48) 44 nneedMany_50) 49 nroundMany_52) 66 0) 67 1) 68 nkeptAt_47) (va_up (va_up (va_up (va_up (va_up (va_up (va_up (va_up (va_up (va_up (va_up mf 1 g_14) 7 gplaceOf_27) 8 gpeopleOf_28) 9 gbidOf_29) 10 gsaysOf_30) 11 gfriendsOf_31) 18 gclueNight_37) 19 gclueSet_38) 43 gpaths_49) 45 gneeds_51) 50 ground_53) mg) H locs := hw46
          obtain ⟨hp_55, hp_56⟩ := hp
          have hp_55 : nkeptAt_47.toInt = 551 := hp_55
          have hp_56 : (npathMany_48.toInt = ((mf 69) 138).toInt ∧ SGT (mf 69) gpaths_49 0 139 1 160 ∧ nneedMany_50.toInt = ((mf 69) 299).toInt ∧ nroundMany_52.toInt = ((mf 69) 350).toInt ∧ SGT (mf 69) ground_53 0 351 1 200) := hp_56
          refine lv_iconst (pc := 71) (v := 0) E.1 E.2.1 dX12_image_71 (by decide +kernel) ?_
          refine lv_istore_n (pc := 72) (lv' := [(2, .int 0), (0, .ref M), (1, .int 0)]) E.1 E.2.1 dX12_image_72 rfl hl17 (by decide) rfl (fun ls hl57 => ?_)
          have loop_58 : ∀ (k : Nat) (x_59 : Int32) (x_60 : Int32) (g_61 : Nat → Int32) (H : Heap) (locs : List Loc) (ls : Array Slot), (0 ≤ x_59.toInt) ∧ (x_59.toInt ≤ 900) ∧ (x_60.toInt = 551 + x_59.toInt) → 900 - x_59.toInt < (k : Int) → WD D A s.heap (MW cI cJ M mr (upd (upd (upd (upd (upd (upd (upd (upd (upd (upd (upd (upd (upd mi 0 0) 6 nhouses_26) 12 nflakes_32) 13 nmargin_33) 14 nduskBut_34) 15 ndueBut_35) 17 nclueMany_36) 42 npathMany_48) 44 nneedMany_50) 49 nroundMany_52) 66 0) 67 1) 68 x_60) (va_up (va_up (va_up (va_up (va_up (va_up (va_up (va_up (va_up (va_up (va_up (va_up mf 1 g_14) 7 gplaceOf_27) 8 gpeopleOf_28) 9 gbidOf_29) 10 gsaysOf_30) 11 gfriendsOf_31) 16 g_61) 18 gclueNight_37) 19 gclueSet_38) 43 gpaths_49) 45 gneeds_51) 50 ground_53) mg) H locs → lv_has ls 3 [(2, .int x_59), (0, .ref M), (1, .int 0)] → W p l e ({ frames := 3, cells := 0, slots := 0, locals := 83 } : Room) s m ([.ref M, .int 0] : List Value).toArray below meth c H locs 0 0 (MQ below (va_Qi (fun (r : Int32) (u : Int32 × Int32 × Int32 × (Nat → Int32) × Int32 × Int32 × (Nat → Int32) × (Nat → Int32) × (Nat → Int32) × (Nat → Int32) × (Nat → Int32) × Int32 × Int32 × Int32 × Int32 × Int32 × (Nat → Int32) × (Nat → Int32) × Int32 × (Nat → Int32) × Int32 × (Nat → Int32) × Int32 × (Nat → Int32) × (Nat → Int32) × (Nat → Int32) × (Nat → Int32) × (Nat → Int32) × (Nat → Int32) × (Nat → Int32) × (Nat → Int32) × Int32) => (0 ≤ r.toInt) ∧ (r.toInt ≤ 1) ∧ (0 ≤ (u.2.2.2.1 2).toInt) ∧ ((u.2.2.2.1 2).toInt ≤ 150) ∧ (0 ≤ (u.2.2.2.1 3).toInt) ∧ ((u.2.2.2.1 3).toInt ≤ 9) ∧ (0 ≤ (u.2.2.2.1 5).toInt) ∧ ((u.2.2.2.1 5).toInt ≤ 200) ∧ (0 ≤ u.2.2.2.2.2.1.toInt) ∧ (u.2.2.2.2.2.1.toInt ≤ 10) ∧ ((-29) ≤ u.2.2.2.2.2.2.2.2.2.2.2.2.2.2.1.toInt) ∧ (u.2.2.2.2.2.2.2.2.2.2.2.2.2.2.1.toInt ≤ 69) ∧ (0 ≤ u.2.2.2.2.2.2.2.2.2.2.2.2.2.2.2.1.toInt) ∧ (u.2.2.2.2.2.2.2.2.2.2.2.2.2.2.2.1.toInt ≤ 8) ∧ (0 ≤ u.2.2.2.2.2.2.2.2.2.2.2.2.2.2.2.2.2.2.1.toInt) ∧ (u.2.2.2.2.2.2.2.2.2.2.2.2.2.2.2.2.2.2.1.toInt ≤ 40) ∧ (0 ≤ u.2.2.2.2.2.2.2.2.2.2.2.2.2.2.2.2.2.2.2.2.1.toInt) ∧ (u.2.2.2.2.2.2.2.2.2.2.2.2.2.2.2.2.2.2.2.2.1.toInt ≤ 10) ∧ (0 ≤ u.2.2.2.2.2.2.2.2.2.2.2.2.2.2.2.2.2.2.2.2.2.2.1.toInt) ∧ (u.2.2.2.2.2.2.2.2.2.2.2.2.2.2.2.2.2.2.2.2.2.2.1.toInt ≤ 200) ∧ (0 ≤ (u.2.2.2.2.2.2.2.2.2.2.2.2.2.2.2.2.2.2.2.2.2.2.2.2.2.1 0).toInt) ∧ ((u.2.2.2.2.2.2.2.2.2.2.2.2.2.2.2.2.2.2.2.2.2.2.2.2.2.1 0).toInt ≤ 16) ∧ (0 ≤ (u.2.2.2.2.2.2.2.2.2.2.2.2.2.2.2.2.2.2.2.2.2.2.2.2.2.1 1).toInt) ∧ ((u.2.2.2.2.2.2.2.2.2.2.2.2.2.2.2.2.2.2.2.2.2.2.2.2.2.1 1).toInt ≤ 16) ∧ (0 ≤ u.2.2.2.2.2.2.2.2.2.2.2.2.2.2.2.2.2.2.2.2.2.2.2.2.2.2.2.2.2.2.2.toInt) ∧ (u.2.2.2.2.2.2.2.2.2.2.2.2.2.2.2.2.2.2.2.2.2.2.2.2.2.2.2.2.2.2.2.toInt ≤ 6) ∧ (pathsOK u.2.2.2.2.2.2.2.2.2.2.2.2.2.2.2.2.2.2.2.1) ∧ (pplOK u.2.2.2.2.2.1.toInt u.2.2.2.2.2.2.2.1) ∧ (rndOK u.2.2.2.2.2.2.2.2.2.2.2.2.2.2.2.2.2.2.2.2.2.2.1.toInt u.2.2.2.2.2.1.toInt u.2.2.2.2.2.2.2.2.2.2.2.2.2.2.2.2.2.2.2.2.2.2.2.1) ∧ (LW 0 0 u.2.2.2.2.2.2.2.2.2.2.2.2.2.2.2.2.2.2.2.2.2.2.2.2.2.2.2.2.2.1 u.2.2.2.2.2.2.2.2.2.2.2.2.2.2.2.2.2.2.2.2.2.2.2.2.2.2.2.2.2.2.1 u.2.2.2.2.2.2.2.2.2.2.2.2.2.2.2.2.2.2.2.2.2.2.2.2.2.2.1 u.2.2.2.2.2.2.2.2.2.2.2.2.2.2.2.2.2.2.2.2.2.2.2.2.2.2.2.1 u.2.2.2.2.2.2.2.2.2.2.2.2.2.2.2.2.2.2.2.2.2.2.2.2.2.2.2.2.1 (u.2.2.2.2.2.2.2.2.2.2.2.2.2.2.2.2.2.2.2.2.2.2.2.2.2.1 0).toInt 400) ∧ (LW 16 400 u.2.2.2.2.2.2.2.2.2.2.2.2.2.2.2.2.2.2.2.2.2.2.2.2.2.2.2.2.2.1 u.2.2.2.2.2.2.2.2.2.2.2.2.2.2.2.2.2.2.2.2.2.2.2.2.2.2.2.2.2.2.1 u.2.2.2.2.2.2.2.2.2.2.2.2.2.2.2.2.2.2.2.2.2.2.2.2.2.2.1 u.2.2.2.2.2.2.2.2.2.2.2.2.2.2.2.2.2.2.2.2.2.2.2.2.2.2.2.1 u.2.2.2.2.2.2.2.2.2.2.2.2.2.2.2.2.2.2.2.2.2.2.2.2.2.2.2.2.1 (u.2.2.2.2.2.2.2.2.2.2.2.2.2.2.2.2.2.2.2.2.2.2.2.2.2.1 1).toInt 400) ∧ (((u.2.2.2.2.2.1.toInt = 0 ∧ (u.2.2.2.1 3).toInt = 0) ∨ (u.2.2.2.1 3).toInt < u.2.2.2.2.2.1.toInt)) ∧ (rowsOK u.2.2.2.2.2.2.2.2.2.2.2.2.2.2.2.2.2.2.2.2.2.2.2.2.2.2.2.2.2.2.2.toInt u.2.2.2.2.2.1.toInt (mf 2)) ∧ (IMGO u.2.2.1.toInt (mf 69)) ∧ (((mi 67).toInt = 0 ∧ u.2.2.1.toInt = 0 ∧ u.2.2.2.2.2.1.toInt = (mi 6).toInt ∧ u.2.2.2.2.2.2.1 = (mf 7) ∧ u.2.2.2.2.2.2.2.2.2.2.2.2.2.2.2.1.toInt = (mi 17).toInt) ∨ ((mi 67).toInt ≠ 0 ∧ u.2.2.1.toInt ≠ 0 ∧ u.2.2.2.2.2.1.toInt = ((mf 69) 66).toInt ∧ SGT (mf 69) u.2.2.2.2.2.2.1 0 67 5 10 ∧ u.2.2.2.2.2.2.2.2.2.2.2.2.2.2.2.1.toInt = ((mf 69) 121).toInt)) ∧ ((((mi 67).toInt = 0 ∧ u.2.2.2.2.2.2.2.2.2.2.1 = (mf 11)) ∨ ((mi 67).toInt ≠ 0 ∧ SGT (mf 69) u.2.2.2.2.2.2.2.2.2.2.1 0 71 5 10)))) (fun u => QW D cI cJ A ((fun (u : Int32 × Int32 × Int32 × (Nat → Int32) × Int32 × Int32 × (Nat → Int32) × (Nat → Int32) × (Nat → Int32) × (Nat → Int32) × (Nat → Int32) × Int32 × Int32 × Int32 × Int32 × Int32 × (Nat → Int32) × (Nat → Int32) × Int32 × (Nat → Int32) × Int32 × (Nat → Int32) × Int32 × (Nat → Int32) × (Nat → Int32) × (Nat → Int32) × (Nat → Int32) × (Nat → Int32) × (Nat → Int32) × (Nat → Int32) × (Nat → Int32) × Int32) => (MW cI cJ M mr (upd (upd (upd (upd (upd (upd (upd (upd (upd (upd (upd (upd (upd (upd mi 0 u.1) 66 u.2.1) 67 u.2.2.1) 68 u.2.2.2.2.1) 6 u.2.2.2.2.2.1) 12 u.2.2.2.2.2.2.2.2.2.2.2.1) 13 u.2.2.2.2.2.2.2.2.2.2.2.2.1) 14 u.2.2.2.2.2.2.2.2.2.2.2.2.2.1) 15 u.2.2.2.2.2.2.2.2.2.2.2.2.2.2.1) 17 u.2.2.2.2.2.2.2.2.2.2.2.2.2.2.2.1) 42 u.2.2.2.2.2.2.2.2.2.2.2.2.2.2.2.2.2.2.1) 44 u.2.2.2.2.2.2.2.2.2.2.2.2.2.2.2.2.2.2.2.2.1) 49 u.2.2.2.2.2.2.2.2.2.2.2.2.2.2.2.2.2.2.2.2.2.2.1) 3 u.2.2.2.2.2.2.2.2.2.2.2.2.2.2.2.2.2.2.2.2.2.2.2.2.2.2.2.2.2.2.2) (va_up (va_up (va_up (va_up (va_up (va_up (va_up (va_up (va_up (va_up (va_up (va_up (va_up (va_up (va_up (va_up (va_up (va_up mf 1 u.2.2.2.1) 7 u.2.2.2.2.2.2.1) 8 u.2.2.2.2.2.2.2.1) 9 u.2.2.2.2.2.2.2.2.1) 10 u.2.2.2.2.2.2.2.2.2.1) 11 u.2.2.2.2.2.2.2.2.2.2.1) 18 u.2.2.2.2.2.2.2.2.2.2.2.2.2.2.2.2.1) 19 u.2.2.2.2.2.2.2.2.2.2.2.2.2.2.2.2.2.1) 43 u.2.2.2.2.2.2.2.2.2.2.2.2.2.2.2.2.2.2.2.1) 45 u.2.2.2.2.2.2.2.2.2.2.2.2.2.2.2.2.2.2.2.2.2.1) 50 u.2.2.2.2.2.2.2.2.2.2.2.2.2.2.2.2.2.2.2.2.2.2.2.1) 16 u.2.2.2.2.2.2.2.2.2.2.2.2.2.2.2.2.2.2.2.2.2.2.2.2.1) 27 u.2.2.2.2.2.2.2.2.2.2.2.2.2.2.2.2.2.2.2.2.2.2.2.2.2.1) 28 u.2.2.2.2.2.2.2.2.2.2.2.2.2.2.2.2.2.2.2.2.2.2.2.2.2.2.1) 29 u.2.2.2.2.2.2.2.2.2.2.2.2.2.2.2.2.2.2.2.2.2.2.2.2.2.2.2.1) 30 u.2.2.2.2.2.2.2.2.2.2.2.2.2.2.2.2.2.2.2.2.2.2.2.2.2.2.2.2.1) 31 u.2.2.2.2.2.2.2.2.2.2.2.2.2.2.2.2.2.2.2.2.2.2.2.2.2.2.2.2.2.1) 32 u.2.2.2.2.2.2.2.2.2.2.2.2.2.2.2.2.2.2.2.2.2.2.2.2.2.2.2.2.2.2.1) mg)) u)) A) ([.ref M, .int 0] : List Value).toArray s 0 0 A) (F0 m 73 ls []) := by
            intro k
            induction k with
            | zero =>
              intro x_59 x_60 g_61 _ _ _ hinv hm
              obtain ⟨hi_61_0, hi_61_1, hi_61_2⟩ := hinv
              exact absurd hm (by omega)
            | succ k ih_62 =>
              intro x_59 x_60 g_61 H locs ls hinv hm hw63 hl64
              obtain ⟨hi_61_0, hi_61_1, hi_61_2⟩ := hinv
              refine lv_iload_n (pc := 73) E.1 E.2.1 dX12_image_73 rfl (lv_at hl64 0 rfl) ?_
              refine lv_sipush (pc := 74) (v := 900) E.1 E.2.1 dX12_image_74 (by decide +kernel) ?_
              refine lv_icmp_ge (pc := 77) (tgt := 102) E.1 E.2.1 dX12_image_77 (by decide) (fun c_65 => ?_) (fun c_65 => ?_)
              · skip
                have hc_65 := leE (a := 900) (b := x_59.toInt) (by decide +kernel) rfl c_65
                refine lv_aload_n (pc := 102) E.1 E.2.1 dX12_image_102 rfl (lv_at hl64 1 rfl) ?_
                refine lv_iconst (pc := 103) (v := 0) E.1 E.2.1 dX12_image_103 (by decide +kernel) ?_
                refine cm_v (pc := 104) hw63 (rn_M (As := [.int 0]) (rest := []) E hw63 (s_keepsLaw0_0 l D cI cJ _ M mr (upd (upd (upd (upd (upd (upd (upd (upd (upd (upd (upd (upd (upd mi 0 0) 6 nhouses_26) 12 nflakes_32) 13 nmargin_33) 14 nduskBut_34) 15 ndueBut_35) 17 nclueMany_36) 42 npathMany_48) 44 nneedMany_50) 49 nroundMany_52) 66 0) 67 1) 68 x_60) (va_up (va_up (va_up (va_up (va_up (va_up (va_up (va_up (va_up (va_up (va_up (va_up mf 1 g_14) 7 gplaceOf_27) 8 gpeopleOf_28) 9 gbidOf_29) 10 gsaysOf_30) 11 gfriendsOf_31) 16 g_61) 18 gclueNight_37) 19 gclueSet_38) 43 gpaths_49) 45 gneeds_51) 50 ground_53) mg (by show (0 : Int32).toInt = 0; have k_0 : (0 : Int32).toInt = 0 := (by decide +kernel); omega) (by show x_60.toInt = 1451; omega)) (gdV q_2137 q_2139 q_149 q_162 q_2140) hdV_X12_keepsLaw ⟨rfl, rfl⟩ ⟨(Nat.le_of_ble_eq_true rfl), (Nat.le_of_ble_eq_true rfl)⟩ ⟨(Nat.le_of_ble_eq_true rfl), (Nat.le_of_ble_eq_true rfl)⟩ 12 rfl rfl rfl rfl hl64.1 rfl (Nat.le_of_ble_eq_true rfl) dX12_image_104) (fun u_66 H1 locs hp hw68 => ?_)
                obtain ⟨nkeptAt_69, glineMany_70, glineFrom_71, glineWhen_72, glineTo_73, gop_74, garg_75⟩ := u_66
                generalize H1 = H at hw68 ⊢
                have hw76 : WD D A s.heap (MW cI cJ M mr (upd (upd (upd (upd (upd (upd (upd (upd (upd (upd (upd (upd (upd mi 0 0) 6 nhouses_26) 12 nflakes_32) 13 nmargin_33) 14 nduskBut_34) 15 ndueBut_35) 17 nclueMany_36) 42 npathMany_48) 44 nneedMany_50) 49 nroundMany_52) 66 0) 67 1) 68 nkeptAt_69) (va_up (va_up (va_up (va_up (va_up (va_up (va_up (va_up (va_up (va_up (va_up (va_up (va_up (va_up (va_up (va_up (va_up (va_up mf 1 g_14) 7 gplaceOf_27) 8 gpeopleOf_28) 9 gbidOf_29) 10 gsaysOf_30) 11 gfriendsOf_31) 16 g_61) 18 gclueNight_37) 19 gclueSet_38) 27 glineMany_70) 28 glineFrom_71) 29 glineWhen_72) 30 glineTo_73) 31 gop_74) 32 garg_75) 43 gpaths_49) 45 gneeds_51) 50 ground_53) mg) H locs := hw68
                obtain ⟨hp_77, hp_78, hp_79⟩ := hp
                have hp_77 : nkeptAt_69.toInt = 2300 := hp_77
                have hp_78 : (glineMany_70 1).toInt = ((mf 27) 1).toInt := hp_78
                have hp_79 : LT0 1451 0 0 (mf 31) (mf 32) (mf 28) (mf 29) (mf 30) gop_74 garg_75 glineFrom_71 glineWhen_72 glineTo_73 (mf 69) (glineMany_70 0).toInt := hp_79
                refine lv_aload_n (pc := 107) E.1 E.2.1 dX12_image_107 rfl (lv_at hl64 1 rfl) ?_
                refine lv_iconst (pc := 108) (v := 1) E.1 E.2.1 dX12_image_108 (by decide +kernel) ?_
                refine cm_v (pc := 109) hw76 (rn_M (As := [.int 1]) (rest := []) E hw76 (s_keepsLaw1_0 l D cI cJ _ M mr (upd (upd (upd (upd (upd (upd (upd (upd (upd (upd (upd (upd (upd mi 0 0) 6 nhouses_26) 12 nflakes_32) 13 nmargin_33) 14 nduskBut_34) 15 ndueBut_35) 17 nclueMany_36) 42 npathMany_48) 44 nneedMany_50) 49 nroundMany_52) 66 0) 67 1) 68 nkeptAt_69) (va_up (va_up (va_up (va_up (va_up (va_up (va_up (va_up (va_up (va_up (va_up (va_up (va_up (va_up (va_up (va_up (va_up (va_up mf 1 g_14) 7 gplaceOf_27) 8 gpeopleOf_28) 9 gbidOf_29) 10 gsaysOf_30) 11 gfriendsOf_31) 16 g_61) 18 gclueNight_37) 19 gclueSet_38) 27 glineMany_70) 28 glineFrom_71) 29 glineWhen_72) 30 glineTo_73) 31 gop_74) 32 garg_75) 43 gpaths_49) 45 gneeds_51) 50 ground_53) mg (by show (0 : Int32).toInt = 0; have k_1 : (0 : Int32).toInt = 0 := (by decide +kernel); omega) hp_77) (gdV q_2137 q_2139 q_149 q_162 q_2140) hdV_X12_keepsLaw ⟨rfl, rfl⟩ ⟨(Nat.le_of_ble_eq_true rfl), (Nat.le_of_ble_eq_true rfl)⟩ ⟨(Nat.le_of_ble_eq_true rfl), (Nat.le_of_ble_eq_true rfl)⟩ 12 rfl rfl rfl rfl hl64.1 rfl (Nat.le_of_ble_eq_true rfl) dX12_image_109) (fun u_80 H1 locs hp hw82 => ?_)
                obtain ⟨nkeptAt_83, glineMany_84, glineFrom_85, glineWhen_86, glineTo_87, gop_88, garg_89⟩ := u_80
                generalize H1 = H at hw82 ⊢
                have hw90 : WD D A s.heap (MW cI cJ M mr (upd (upd (upd (upd (upd (upd (upd (upd (upd (upd (upd (upd (upd mi 0 0) 6 nhouses_26) 12 nflakes_32) 13 nmargin_33) 14 nduskBut_34) 15 ndueBut_35) 17 nclueMany_36) 42 npathMany_48) 44 nneedMany_50) 49 nroundMany_52) 66 0) 67 1) 68 nkeptAt_83) (va_up (va_up (va_up (va_up (va_up (va_up (va_up (va_up (va_up (va_up (va_up (va_up (va_up (va_up (va_up (va_up (va_up (va_up mf 1 g_14) 7 gplaceOf_27) 8 gpeopleOf_28) 9 gbidOf_29) 10 gsaysOf_30) 11 gfriendsOf_31) 16 g_61) 18 gclueNight_37) 19 gclueSet_38) 27 glineMany_84) 28 glineFrom_85) 29 glineWhen_86) 30 glineTo_87) 31 gop_88) 32 garg_89) 43 gpaths_49) 45 gneeds_51) 50 ground_53) mg) H locs := hw82
                obtain ⟨hp_91, hp_92, hp_93⟩ := hp
                have hp_91 : nkeptAt_83.toInt = 3149 := hp_91
                have hp_92 : (glineMany_84 0).toInt = (glineMany_70 0).toInt := hp_92
                have hp_93 : LT0 2300 16 400 gop_74 garg_75 glineFrom_71 glineWhen_72 glineTo_73 gop_88 garg_89 glineFrom_85 glineWhen_86 glineTo_87 (mf 69) (glineMany_84 1).toInt := hp_93
                refine lv_iload_n (pc := 112) E.1 E.2.1 dX12_image_112 rfl (lv_at hl64 2 rfl) ?_
                refine lv_if_ne (pc := 113) (tgt := 121) E.1 E.2.1 dX12_image_113 (by decide) (fun c_94 => absurd (meqE (a := 0) (b := 0) (by decide +kernel) (by decide +kernel) (by omega)) c_94) (fun _ => ?_)
                refine lv_aload_n (pc := 116) E.1 E.2.1 dX12_image_116 rfl (lv_at hl64 1 rfl) ?_
                refine lv_iconst (pc := 117) (v := 0) E.1 E.2.1 dX12_image_117 (by decide +kernel) ?_
                refine x_put (pc := 118) (T := TX12) (N := 70) (ci := 12) (ws' := (MW cI cJ M mr (upd (upd (upd (upd (upd (upd (upd (upd (upd (upd (upd (upd (upd (upd mi 0 0) 3 0) 6 nhouses_26) 12 nflakes_32) 13 nmargin_33) 14 nduskBut_34) 15 ndueBut_35) 17 nclueMany_36) 42 npathMany_48) 44 nneedMany_50) 49 nroundMany_52) 66 0) 67 1) 68 nkeptAt_83) (va_up (va_up (va_up (va_up (va_up (va_up (va_up (va_up (va_up (va_up (va_up (va_up (va_up (va_up (va_up (va_up (va_up (va_up mf 1 g_14) 7 gplaceOf_27) 8 gpeopleOf_28) 9 gbidOf_29) 10 gsaysOf_30) 11 gfriendsOf_31) 16 g_61) 18 gclueNight_37) 19 gclueSet_38) 27 glineMany_84) 28 glineFrom_85) 29 glineWhen_86) 30 glineTo_87) 31 gop_88) 32 garg_89) 43 gpaths_49) 45 gneeds_51) 50 ground_53) mg)) E hw90 inX12 tyX12_ok nmX12 0 3 q_1402 rfl rfl (by decide) rfl rfl rfl rfl (Nat.le_of_ble_eq_true rfl) rfl dX12_image_118 (fun H locs hw95 => ?_)
                have hpq : pathsOK gpaths_49 := pathsOK_tr himg.2.2.1 (fun j hj => (SGT_z hp_56.2.1 (by omega)).symm)
                have hq_houses := hp_41.1
                have hqb_houses : 0 ≤ nhouses_26.toInt ∧ nhouses_26.toInt ≤ 10 := by omega
                have hq_dueBut := hp_41.2.2.1
                have hqb_dueBut : -29 ≤ ndueBut_35.toInt ∧ ndueBut_35.toInt ≤ 69 := by omega
                have hq_clueMany := hp_41.2.2.2
                have hqb_clueMany : 0 ≤ nclueMany_36.toInt ∧ nclueMany_36.toInt ≤ 8 := by omega
                have hq_pathMany := hp_56.1
                have hqb_pathMany : 0 ≤ npathMany_48.toInt ∧ npathMany_48.toInt ≤ 40 := by omega
                have hq_needMany := hp_56.2.2.1
                have hqb_needMany : 0 ≤ nneedMany_50.toInt ∧ nneedMany_50.toInt ≤ 10 := by omega
                have hq_roundMany := hp_56.2.2.2.1
                have hqb_roundMany : 0 ≤ nroundMany_52.toInt ∧ nroundMany_52.toInt ≤ 200 := by omega
                have hq_l0 := hp_79.1
                have hq_l1 := hp_93.1
                have hqb_l0 : 0 ≤ (glineMany_84 0).toInt ∧ (glineMany_84 0).toInt ≤ 16 := by omega
                have hqb_l1 : 0 ≤ (glineMany_84 1).toInt ∧ (glineMany_84 1).toInt ≤ 16 := by omega
                refine lv_iconst (pc := 121) (v := 1) E.1 E.2.1 dX12_image_121 (by decide +kernel) ?_
                exact em_z (w1 := (fun (u : Int32 × Int32 × Int32 × (Nat → Int32) × Int32 × Int32 × (Nat → Int32) × (Nat → Int32) × (Nat → Int32) × (Nat → Int32) × (Nat → Int32) × Int32 × Int32 × Int32 × Int32 × Int32 × (Nat → Int32) × (Nat → Int32) × Int32 × (Nat → Int32) × Int32 × (Nat → Int32) × Int32 × (Nat → Int32) × (Nat → Int32) × (Nat → Int32) × (Nat → Int32) × (Nat → Int32) × (Nat → Int32) × (Nat → Int32) × (Nat → Int32) × Int32) => (MW cI cJ M mr (upd (upd (upd (upd (upd (upd (upd (upd (upd (upd (upd (upd (upd (upd mi 0 u.1) 66 u.2.1) 67 u.2.2.1) 68 u.2.2.2.2.1) 6 u.2.2.2.2.2.1) 12 u.2.2.2.2.2.2.2.2.2.2.2.1) 13 u.2.2.2.2.2.2.2.2.2.2.2.2.1) 14 u.2.2.2.2.2.2.2.2.2.2.2.2.2.1) 15 u.2.2.2.2.2.2.2.2.2.2.2.2.2.2.1) 17 u.2.2.2.2.2.2.2.2.2.2.2.2.2.2.2.1) 42 u.2.2.2.2.2.2.2.2.2.2.2.2.2.2.2.2.2.2.1) 44 u.2.2.2.2.2.2.2.2.2.2.2.2.2.2.2.2.2.2.2.2.1) 49 u.2.2.2.2.2.2.2.2.2.2.2.2.2.2.2.2.2.2.2.2.2.2.1) 3 u.2.2.2.2.2.2.2.2.2.2.2.2.2.2.2.2.2.2.2.2.2.2.2.2.2.2.2.2.2.2.2) (va_up (va_up (va_up (va_up (va_up (va_up (va_up (va_up (va_up (va_up (va_up (va_up (va_up (va_up (va_up (va_up (va_up (va_up mf 1 u.2.2.2.1) 7 u.2.2.2.2.2.2.1) 8 u.2.2.2.2.2.2.2.1) 9 u.2.2.2.2.2.2.2.2.1) 10 u.2.2.2.2.2.2.2.2.2.1) 11 u.2.2.2.2.2.2.2.2.2.2.1) 18 u.2.2.2.2.2.2.2.2.2.2.2.2.2.2.2.2.1) 19 u.2.2.2.2.2.2.2.2.2.2.2.2.2.2.2.2.2.1) 43 u.2.2.2.2.2.2.2.2.2.2.2.2.2.2.2.2.2.2.2.1) 45 u.2.2.2.2.2.2.2.2.2.2.2.2.2.2.2.2.2.2.2.2.2.1) 50 u.2.2.2.2.2.2.2.2.2.2.2.2.2.2.2.2.2.2.2.2.2.2.2.1) 16 u.2.2.2.2.2.2.2.2.2.2.2.2.2.2.2.2.2.2.2.2.2.2.2.2.1) 27 u.2.2.2.2.2.2.2.2.2.2.2.2.2.2.2.2.2.2.2.2.2.2.2.2.2.1) 28 u.2.2.2.2.2.2.2.2.2.2.2.2.2.2.2.2.2.2.2.2.2.2.2.2.2.2.1) 29 u.2.2.2.2.2.2.2.2.2.2.2.2.2.2.2.2.2.2.2.2.2.2.2.2.2.2.2.1) 30 u.2.2.2.2.2.2.2.2.2.2.2.2.2.2.2.2.2.2.2.2.2.2.2.2.2.2.2.2.1) 31 u.2.2.2.2.2.2.2.2.2.2.2.2.2.2.2.2.2.2.2.2.2.2.2.2.2.2.2.2.2.1) 32 u.2.2.2.2.2.2.2.2.2.2.2.2.2.2.2.2.2.2.2.2.2.2.2.2.2.2.2.2.2.2.1) mg))) E hr hlk (0, 0, 1, g_14, nkeptAt_83, nhouses_26, gplaceOf_27, gpeopleOf_28, gbidOf_29, gsaysOf_30, gfriendsOf_31, nflakes_32, nmargin_33, nduskBut_34, ndueBut_35, nclueMany_36, gclueNight_37, gclueSet_38, npathMany_48, gpaths_49, nneedMany_50, gneeds_51, nroundMany_52, ground_53, g_61, glineMany_84, glineFrom_85, glineWhen_86, glineTo_87, gop_88, garg_89, 0) hw95 ⟨(by show 0 ≤ (1 : Int32).toInt; have k_0 : (0 : Int32).toInt = 0 := (by decide +kernel); have k_1 : (0 : Int32).toInt = 0 := (by decide +kernel); have k_2 : (0 : Int32).toInt = 0 := (by decide +kernel); have k_3 : (0 : Int32).toInt = 0 := (by decide +kernel); have k_4 : (1 : Int32).toInt = 1 := (by decide +kernel); have k_5 : (1 : Int32).toInt = 1 := (by decide +kernel); omega), (by show (1 : Int32).toInt ≤ 1; have k_0 : (0 : Int32).toInt = 0 := (by decide +kernel); have k_1 : (0 : Int32).toInt = 0 := (by decide +kernel); have k_2 : (0 : Int32).toInt = 0 := (by decide +kernel); have k_3 : (0 : Int32).toInt = 0 := (by decide +kernel); have k_4 : (1 : Int32).toInt = 1 := (by decide +kernel); have k_5 : (1 : Int32).toInt = 1 := (by decide +kernel); omega), (by show 0 ≤ (g_14 2).toInt; have k_0 : (0 : Int32).toInt = 0 := (by decide +kernel); have k_1 : (0 : Int32).toInt = 0 := (by decide +kernel); have k_2 : (0 : Int32).toInt = 0 := (by decide +kernel); have k_3 : (0 : Int32).toInt = 0 := (by decide +kernel); have k_4 : (1 : Int32).toInt = 1 := (by decide +kernel); have k_5 : (1 : Int32).toInt = 1 := (by decide +kernel); omega), (by show (g_14 2).toInt ≤ 150; have k_0 : (0 : Int32).toInt = 0 := (by decide +kernel); have k_1 : (0 : Int32).toInt = 0 := (by decide +kernel); have k_2 : (0 : Int32).toInt = 0 := (by decide +kernel); have k_3 : (0 : Int32).toInt = 0 := (by decide +kernel); have k_4 : (1 : Int32).toInt = 1 := (by decide +kernel); have k_5 : (1 : Int32).toInt = 1 := (by decide +kernel); omega), (by show 0 ≤ (g_14 3).toInt; have k_0 : (0 : Int32).toInt = 0 := (by decide +kernel); have k_1 : (0 : Int32).toInt = 0 := (by decide +kernel); have k_2 : (0 : Int32).toInt = 0 := (by decide +kernel); have k_3 : (0 : Int32).toInt = 0 := (by decide +kernel); have k_4 : (1 : Int32).toInt = 1 := (by decide +kernel); have k_5 : (1 : Int32).toInt = 1 := (by decide +kernel); omega), (by show (g_14 3).toInt ≤ 9; have k_0 : (0 : Int32).toInt = 0 := (by decide +kernel); have k_1 : (0 : Int32).toInt = 0 := (by decide +kernel); have k_2 : (0 : Int32).toInt = 0 := (by decide +kernel); have k_3 : (0 : Int32).toInt = 0 := (by decide +kernel); have k_4 : (1 : Int32).toInt = 1 := (by decide +kernel); have k_5 : (1 : Int32).toInt = 1 := (by decide +kernel); omega), (by show 0 ≤ (g_14 5).toInt; have k_0 : (0 : Int32).toInt = 0 := (by decide +kernel); have k_1 : (0 : Int32).toInt = 0 := (by decide +kernel); have k_2 : (0 : Int32).toInt = 0 := (by decide +kernel); have k_3 : (0 : Int32).toInt = 0 := (by decide +kernel); have k_4 : (1 : Int32).toInt = 1 := (by decide +kernel); have k_5 : (1 : Int32).toInt = 1 := (by decide +kernel); omega), (by show (g_14 5).toInt ≤ 200; have k_0 : (0 : Int32).toInt = 0 := (by decide +kernel); have k_1 : (0 : Int32).toInt = 0 := (by decide +kernel); have k_2 : (0 : Int32).toInt = 0 := (by decide +kernel); have k_3 : (0 : Int32).toInt = 0 := (by decide +kernel); have k_4 : (1 : Int32).toInt = 1 := (by decide +kernel); have k_5 : (1 : Int32).toInt = 1 := (by decide +kernel); omega), (by show 0 ≤ nhouses_26.toInt; have k_0 : (0 : Int32).toInt = 0 := (by decide +kernel); have k_1 : (0 : Int32).toInt = 0 := (by decide +kernel); have k_2 : (0 : Int32).toInt = 0 := (by decide +kernel); have k_3 : (0 : Int32).toInt = 0 := (by decide +kernel); have k_4 : (1 : Int32).toInt = 1 := (by decide +kernel); have k_5 : (1 : Int32).toInt = 1 := (by decide +kernel); omega), (by show nhouses_26.toInt ≤ 10; have k_0 : (0 : Int32).toInt = 0 := (by decide +kernel); have k_1 : (0 : Int32).toInt = 0 := (by decide +kernel); have k_2 : (0 : Int32).toInt = 0 := (by decide +kernel); have k_3 : (0 : Int32).toInt = 0 := (by decide +kernel); have k_4 : (1 : Int32).toInt = 1 := (by decide +kernel); have k_5 : (1 : Int32).toInt = 1 := (by decide +kernel); omega), (by show (-29) ≤ ndueBut_35.toInt; have k_0 : (0 : Int32).toInt = 0 := (by decide +kernel); have k_1 : (0 : Int32).toInt = 0 := (by decide +kernel); have k_2 : (0 : Int32).toInt = 0 := (by decide +kernel); have k_3 : (0 : Int32).toInt = 0 := (by decide +kernel); have k_4 : (1 : Int32).toInt = 1 := (by decide +kernel); have k_5 : (1 : Int32).toInt = 1 := (by decide +kernel); omega), (by show ndueBut_35.toInt ≤ 69; have k_0 : (0 : Int32).toInt = 0 := (by decide +kernel); have k_1 : (0 : Int32).toInt = 0 := (by decide +kernel); have k_2 : (0 : Int32).toInt = 0 := (by decide +kernel); have k_3 : (0 : Int32).toInt = 0 := (by decide +kernel); have k_4 : (1 : Int32).toInt = 1 := (by decide +kernel); have k_5 : (1 : Int32).toInt = 1 := (by decide +kernel); omega), (by show 0 ≤ nclueMany_36.toInt; have k_0 : (0 : Int32).toInt = 0 := (by decide +kernel); have k_1 : (0 : Int32).toInt = 0 := (by decide +kernel); have k_2 : (0 : Int32).toInt = 0 := (by decide +kernel); have k_3 : (0 : Int32).toInt = 0 := (by decide +kernel); have k_4 : (1 : Int32).toInt = 1 := (by decide +kernel); have k_5 : (1 : Int32).toInt = 1 := (by decide +kernel); omega), (by show nclueMany_36.toInt ≤ 8; have k_0 : (0 : Int32).toInt = 0 := (by decide +kernel); have k_1 : (0 : Int32).toInt = 0 := (by decide +kernel); have k_2 : (0 : Int32).toInt = 0 := (by decide +kernel); have k_3 : (0 : Int32).toInt = 0 := (by decide +kernel); have k_4 : (1 : Int32).toInt = 1 := (by decide +kernel); have k_5 : (1 : Int32).toInt = 1 := (by decide +kernel); omega), (by show 0 ≤ npathMany_48.toInt; have k_0 : (0 : Int32).toInt = 0 := (by decide +kernel); have k_1 : (0 : Int32).toInt = 0 := (by decide +kernel); have k_2 : (0 : Int32).toInt = 0 := (by decide +kernel); have k_3 : (0 : Int32).toInt = 0 := (by decide +kernel); have k_4 : (1 : Int32).toInt = 1 := (by decide +kernel); have k_5 : (1 : Int32).toInt = 1 := (by decide +kernel); omega), (by show npathMany_48.toInt ≤ 40; have k_0 : (0 : Int32).toInt = 0 := (by decide +kernel); have k_1 : (0 : Int32).toInt = 0 := (by decide +kernel); have k_2 : (0 : Int32).toInt = 0 := (by decide +kernel); have k_3 : (0 : Int32).toInt = 0 := (by decide +kernel); have k_4 : (1 : Int32).toInt = 1 := (by decide +kernel); have k_5 : (1 : Int32).toInt = 1 := (by decide +kernel); omega), (by show 0 ≤ nneedMany_50.toInt; have k_0 : (0 : Int32).toInt = 0 := (by decide +kernel); have k_1 : (0 : Int32).toInt = 0 := (by decide +kernel); have k_2 : (0 : Int32).toInt = 0 := (by decide +kernel); have k_3 : (0 : Int32).toInt = 0 := (by decide +kernel); have k_4 : (1 : Int32).toInt = 1 := (by decide +kernel); have k_5 : (1 : Int32).toInt = 1 := (by decide +kernel); omega), (by show nneedMany_50.toInt ≤ 10; have k_0 : (0 : Int32).toInt = 0 := (by decide +kernel); have k_1 : (0 : Int32).toInt = 0 := (by decide +kernel); have k_2 : (0 : Int32).toInt = 0 := (by decide +kernel); have k_3 : (0 : Int32).toInt = 0 := (by decide +kernel); have k_4 : (1 : Int32).toInt = 1 := (by decide +kernel); have k_5 : (1 : Int32).toInt = 1 := (by decide +kernel); omega), (by show 0 ≤ nroundMany_52.toInt; have k_0 : (0 : Int32).toInt = 0 := (by decide +kernel); have k_1 : (0 : Int32).toInt = 0 := (by decide +kernel); have k_2 : (0 : Int32).toInt = 0 := (by decide +kernel); have k_3 : (0 : Int32).toInt = 0 := (by decide +kernel); have k_4 : (1 : Int32).toInt = 1 := (by decide +kernel); have k_5 : (1 : Int32).toInt = 1 := (by decide +kernel); omega), (by show nroundMany_52.toInt ≤ 200; have k_0 : (0 : Int32).toInt = 0 := (by decide +kernel); have k_1 : (0 : Int32).toInt = 0 := (by decide +kernel); have k_2 : (0 : Int32).toInt = 0 := (by decide +kernel); have k_3 : (0 : Int32).toInt = 0 := (by decide +kernel); have k_4 : (1 : Int32).toInt = 1 := (by decide +kernel); have k_5 : (1 : Int32).toInt = 1 := (by decide +kernel); omega), (by show 0 ≤ (glineMany_84 0).toInt; have k_0 : (0 : Int32).toInt = 0 := (by decide +kernel); have k_1 : (0 : Int32).toInt = 0 := (by decide +kernel); have k_2 : (0 : Int32).toInt = 0 := (by decide +kernel); have k_3 : (0 : Int32).toInt = 0 := (by decide +kernel); have k_4 : (1 : Int32).toInt = 1 := (by decide +kernel); have k_5 : (1 : Int32).toInt = 1 := (by decide +kernel); omega), (by show (glineMany_84 0).toInt ≤ 16; have k_0 : (0 : Int32).toInt = 0 := (by decide +kernel); have k_1 : (0 : Int32).toInt = 0 := (by decide +kernel); have k_2 : (0 : Int32).toInt = 0 := (by decide +kernel); have k_3 : (0 : Int32).toInt = 0 := (by decide +kernel); have k_4 : (1 : Int32).toInt = 1 := (by decide +kernel); have k_5 : (1 : Int32).toInt = 1 := (by decide +kernel); omega), (by show 0 ≤ (glineMany_84 1).toInt; have k_0 : (0 : Int32).toInt = 0 := (by decide +kernel); have k_1 : (0 : Int32).toInt = 0 := (by decide +kernel); have k_2 : (0 : Int32).toInt = 0 := (by decide +kernel); have k_3 : (0 : Int32).toInt = 0 := (by decide +kernel); have k_4 : (1 : Int32).toInt = 1 := (by decide +kernel); have k_5 : (1 : Int32).toInt = 1 := (by decide +kernel); omega), (by show (glineMany_84 1).toInt ≤ 16; have k_0 : (0 : Int32).toInt = 0 := (by decide +kernel); have k_1 : (0 : Int32).toInt = 0 := (by decide +kernel); have k_2 : (0 : Int32).toInt = 0 := (by decide +kernel); have k_3 : (0 : Int32).toInt = 0 := (by decide +kernel); have k_4 : (1 : Int32).toInt = 1 := (by decide +kernel); have k_5 : (1 : Int32).toInt = 1 := (by decide +kernel); omega), (by show 0 ≤ (0 : Int32).toInt; have k_0 : (0 : Int32).toInt = 0 := (by decide +kernel); have k_1 : (0 : Int32).toInt = 0 := (by decide +kernel); have k_2 : (0 : Int32).toInt = 0 := (by decide +kernel); have k_3 : (0 : Int32).toInt = 0 := (by decide +kernel); have k_4 : (1 : Int32).toInt = 1 := (by decide +kernel); have k_5 : (1 : Int32).toInt = 1 := (by decide +kernel); omega), (by show (0 : Int32).toInt ≤ 6; have k_0 : (0 : Int32).toInt = 0 := (by decide +kernel); have k_1 : (0 : Int32).toInt = 0 := (by decide +kernel); have k_2 : (0 : Int32).toInt = 0 := (by decide +kernel); have k_3 : (0 : Int32).toInt = 0 := (by decide +kernel); have k_4 : (1 : Int32).toInt = 1 := (by decide +kernel); have k_5 : (1 : Int32).toInt = 1 := (by decide +kernel); omega), hpq, (show pplOK nhouses_26.toInt gpeopleOf_28 from (by rw [hq_houses]; exact pplOK_tr himg.2.1 (fun j hj => (SGT_z hp_41.2.1 (by omega)).symm))), (show rndOK nroundMany_52.toInt nhouses_26.toInt ground_53 from (by rw [hq_houses, hq_roundMany]; exact rndOK_tr himg.2.2.2.1 (fun j hj => (SGT_z hp_56.2.2.2.2 (by omega)).symm))), (show LW 0 0 gop_88 garg_89 glineFrom_85 glineWhen_86 glineTo_87 (glineMany_84 0).toInt 400 from (img_LW (S := 1451) himg.2.2.2.2.1 (by omega) (SGT_rf hp_79.2.1.1 hp_93.2.1.2 (fun j hj => by omega)) (SGT_rf hp_79.2.2.1.1 hp_93.2.2.1.2 (fun j hj => by omega)) (SGT_rf hp_79.2.2.2.1.1 hp_93.2.2.2.1.2 (fun j hj => by omega)) (SGT_rf hp_79.2.2.2.2.1.1 hp_93.2.2.2.2.1.2 (fun j hj => by omega)) (SGT_rf hp_79.2.2.2.2.2.1 hp_93.2.2.2.2.2.2 (fun j hj => by omega)) (by omega))), (show LW 16 400 gop_88 garg_89 glineFrom_85 glineWhen_86 glineTo_87 (glineMany_84 1).toInt 400 from (img_LW (S := 2300) himg.2.2.2.2.2 (by omega) hp_93.2.1.1 hp_93.2.2.1.1 hp_93.2.2.2.1.1 hp_93.2.2.2.2.1.1 hp_93.2.2.2.2.2.1 (by omega))), (show ((nhouses_26.toInt = 0 ∧ (g_14 3).toInt = 0) ∨ (g_14 3).toInt < nhouses_26.toInt) from (by have q := himb.2.2.2.2.1; omega)), (show rowsOK (0 : Int32).toInt nhouses_26.toInt (mf 2) from (rowsOK_nil (by decide +kernel))), (show IMGO ((1 : Int32).toInt) (mf 69) from (Or.inr himg)), (show ((mi 67).toInt = 0 ∧ (1 : Int32).toInt = 0 ∧ nhouses_26.toInt = (mi 6).toInt ∧ gplaceOf_27 = (mf 7) ∧ nclueMany_36.toInt = (mi 17).toInt) ∨ ((mi 67).toInt ≠ 0 ∧ (1 : Int32).toInt ≠ 0 ∧ nhouses_26.toInt = ((mf 69) 66).toInt ∧ SGT (mf 69) gplaceOf_27 0 67 5 10 ∧ nclueMany_36.toInt = ((mf 69) 121).toInt) from (Or.inr ⟨by omega, by decide +kernel, hq_houses, hp_42, hq_clueMany⟩)), (show (((mi 67).toInt = 0 ∧ gfriendsOf_31 = (mf 11)) ∨ ((mi 67).toInt ≠ 0 ∧ SGT (mf 69) gfriendsOf_31 0 71 5 10)) from (Or.inr ⟨by omega, hp_43⟩))⟩ (by decide +kernel) (Nat.le_of_ble_eq_true rfl) (Nat.le_of_ble_eq_true rfl) dX12_image_122
              · skip
                have hc_65 := nleE (a := 900) (b := x_59.toInt) (by decide +kernel) rfl c_65
                refine lv_aload_n (pc := 80) E.1 E.2.1 dX12_image_80 rfl (lv_at hl64 1 rfl) ?_
                refine x_get (pc := 81) (T := TX12) (N := 70) (ci := 12) (v := .ref (mr 16)) E hw63 inX12 0 16 q_1415 rfl rfl (by decide) rfl rfl dX12_image_81 ?_
                refine lv_iload_n (pc := 84) E.1 E.2.1 dX12_image_84 rfl (lv_at hl64 0 rfl) ?_
                refine lv_aload_n (pc := 85) E.1 E.2.1 dX12_image_85 rfl (lv_at hl64 1 rfl) ?_
                refine lv_aload_n (pc := 86) E.1 E.2.1 dX12_image_86 rfl (lv_at hl64 1 rfl) ?_
                refine x_get (pc := 87) (T := TX12) (N := 70) (ci := 12) (v := .ref (mr 16)) E hw63 inX12 0 16 q_1415 rfl rfl (by decide) rfl rfl dX12_image_87 ?_
                refine lv_iload_n (pc := 90) E.1 E.2.1 dX12_image_90 rfl (lv_at hl64 0 rfl) ?_
                refine x_iald (pc := 91) (f := g_61) E hw63 9 rfl (inbE (a := x_59.toInt) (n := 900) rfl (by omega)) dX12_image_91 ?_
                refine lv_topi (fun v_96 ev_96 => ?_)
                refine cm_i (pc := 92) hw63 (rn_M (As := [.int v_96]) (rest := [.int x_59, .ref (mr 16)]) E hw63 (s_kept0 l D cI cJ _ M mr (upd (upd (upd (upd (upd (upd (upd (upd (upd (upd (upd (upd (upd mi 0 0) 6 nhouses_26) 12 nflakes_32) 13 nmargin_33) 14 nduskBut_34) 15 ndueBut_35) 17 nclueMany_36) 42 npathMany_48) 44 nneedMany_50) 49 nroundMany_52) 66 0) 67 1) 68 x_60) (va_up (va_up (va_up (va_up (va_up (va_up (va_up (va_up (va_up (va_up (va_up (va_up mf 1 g_14) 7 gplaceOf_27) 8 gpeopleOf_28) 9 gbidOf_29) 10 gsaysOf_30) 11 gfriendsOf_31) 16 g_61) 18 gclueNight_37) 19 gclueSet_38) 43 gpaths_49) 45 gneeds_51) 50 ground_53) mg v_96 (by show (0 : Int32).toInt = 0; have k_0 : (0 : Int32).toInt = 0 := (by decide +kernel); omega) (by show 0 ≤ x_60.toInt ∧ x_60.toInt ≤ 3599; omega)) (gdV q_2125 q_2127 q_146 q_162 q_2128) hdV_X12_kept ⟨rfl, rfl⟩ ⟨(Nat.le_of_ble_eq_true rfl), (Nat.le_of_ble_eq_true rfl)⟩ ⟨(Nat.le_of_ble_eq_true rfl), (Nat.le_of_ble_eq_true rfl)⟩ 12 rfl rfl rfl rfl hl64.1 rfl (Nat.le_of_ble_eq_true rfl) dX12_image_92) (fun r_98 u_97 H1 locs hp hw99 => ?_)
                obtain ⟨nkeptAt_100, rfl⟩ : ∃ z, z = u_97 := ⟨_, rfl⟩
                generalize H1 = H at hw99 ⊢
                have hw101 : WD D A s.heap (MW cI cJ M mr (upd (upd (upd (upd (upd (upd (upd (upd (upd (upd (upd (upd (upd mi 0 0) 6 nhouses_26) 12 nflakes_32) 13 nmargin_33) 14 nduskBut_34) 15 ndueBut_35) 17 nclueMany_36) 42 npathMany_48) 44 nneedMany_50) 49 nroundMany_52) 66 0) 67 1) 68 nkeptAt_100) (va_up (va_up (va_up (va_up (va_up (va_up (va_up (va_up (va_up (va_up (va_up (va_up mf 1 g_14) 7 gplaceOf_27) 8 gpeopleOf_28) 9 gbidOf_29) 10 gsaysOf_30) 11 gfriendsOf_31) 16 g_61) 18 gclueNight_37) 19 gclueSet_38) 43 gpaths_49) 45 gneeds_51) 50 ground_53) mg) H locs := hw99
                obtain ⟨hp_102, hp_103⟩ := hp
                have hp_102 : nkeptAt_100.toInt = x_60.toInt + 1 := hp_102
                have hp_103 : r_98 = (mf 69) (x_60).toNatClampNeg := hp_103
                have er_98 := hp_103
                refine x_iastG (pc := 95) (f := g_61) (wf := fun g => (MW cI cJ M mr (upd (upd (upd (upd (upd (upd (upd (upd (upd (upd (upd (upd (upd mi 0 0) 6 nhouses_26) 12 nflakes_32) 13 nmargin_33) 14 nduskBut_34) 15 ndueBut_35) 17 nclueMany_36) 42 npathMany_48) 44 nneedMany_50) 49 nroundMany_52) 66 0) 67 1) 68 nkeptAt_100) (va_up (va_up (va_up (va_up (va_up (va_up (va_up (va_up (va_up (va_up (va_up (va_up mf 1 g_14) 7 gplaceOf_27) 8 gpeopleOf_28) 9 gbidOf_29) 10 gsaysOf_30) 11 gfriendsOf_31) 16 g) 18 gclueNight_37) 19 gclueSet_38) 43 gpaths_49) 45 gneeds_51) 50 ground_53) mg)) E hw101 9 rfl (inbE (a := x_59.toInt) (n := 900) rfl (by omega)) (fun _ => rfl) dX12_image_95 (fun g_104 H locs eg_104 hw105 => ?_)
                obtain ⟨v_106, ev_106⟩ : ∃ z : Int32, x_59 + Int32.ofInt (1) = z := ⟨_, rfl⟩
                have hv_106 : v_106.toInt = x_59.toInt + (1) := by rw [← ev_106]; exact incE rfl (by decide) (by omega)
                refine lv_iinc (pc := 96) (v := v_106) (lv' := [(2, .int v_106), (0, .ref M), (1, .int 0)]) E.1 E.2.1 dX12_image_96 hl64 (k := 0) rfl ev_106 (by decide) rfl (fun ls hl107 => ?_)
                refine lv_goto (pc := 99) (tgt := 73) E.1 E.2.1 dX12_image_99 (by decide) ?_
                exact ih_62 v_106 nkeptAt_100 g_104 _ _ _ ⟨(by show 0 ≤ v_106.toInt; omega), (by show v_106.toInt ≤ 900; omega), (by show nkeptAt_100.toInt = 551 + v_106.toInt; omega)⟩ (by omega) hw105 (lv_sub hl107 [0, 1, 2] rfl)
          exact loop_58 (Int.toNat (900 - 0) + 1) 0 nkeptAt_47 (mf 16) _ _ _ ⟨(by show 0 ≤ (0 : Int32).toInt; have k_0 : (0 : Int32).toInt = 0 := (by decide +kernel); omega), (by show (0 : Int32).toInt ≤ 900; have k_0 : (0 : Int32).toInt = 0 := (by decide +kernel); omega), (by show nkeptAt_47.toInt = 551 + (0 : Int32).toInt; have k_0 : (0 : Int32).toInt = 0 := (by decide +kernel); omega)⟩ (by have k_0 : (0 : Int32).toInt = 0 := (by decide +kernel); omega) hw54 (lv_sub hl57 [0, 1, 2] rfl)
        · skip
          have hc_18 := nleE (a := 66) (b := x_12.toInt) (by decide +kernel) rfl c_18
          refine lv_aload_n (pc := 41) E.1 E.2.1 dX12_image_41 rfl (lv_at hl17 1 rfl) ?_
          refine x_get (pc := 42) (T := TX12) (N := 70) (ci := 12) (v := .ref (mr 1)) E hw16 inX12 0 1 q_1400 rfl rfl (by decide) rfl rfl dX12_image_42 ?_
          refine lv_iload_n (pc := 45) E.1 E.2.1 dX12_image_45 rfl (lv_at hl17 0 rfl) ?_
          refine lv_aload_n (pc := 46) E.1 E.2.1 dX12_image_46 rfl (lv_at hl17 1 rfl) ?_
          refine lv_aload_n (pc := 47) E.1 E.2.1 dX12_image_47 rfl (lv_at hl17 1 rfl) ?_
          refine x_get (pc := 48) (T := TX12) (N := 70) (ci := 12) (v := .ref (mr 1)) E hw16 inX12 0 1 q_1400 rfl rfl (by decide) rfl rfl dX12_image_48 ?_
          refine lv_iload_n (pc := 51) E.1 E.2.1 dX12_image_51 rfl (lv_at hl17 0 rfl) ?_
          refine x_iald (pc := 52) (f := g_14) E hw16 1 rfl (inbE (a := x_12.toInt) (n := 66) rfl (by omega)) dX12_image_52 ?_
          refine lv_topi (fun v_108 ev_108 => ?_)
          refine cm_i (pc := 53) hw16 (rn_M (As := [.int v_108]) (rest := [.int x_12, .ref (mr 1)]) E hw16 (s_kept0 l D cI cJ _ M mr (upd (upd (upd (upd mi 0 0) 66 0) 67 1) 68 x_13) (va_up mf 1 g_14) mg v_108 (by show (0 : Int32).toInt = 0; have k_0 : (0 : Int32).toInt = 0 := (by decide +kernel); omega) (by show 0 ≤ x_13.toInt ∧ x_13.toInt ≤ 3599; omega)) (gdV q_2125 q_2127 q_146 q_162 q_2128) hdV_X12_kept ⟨rfl, rfl⟩ ⟨(Nat.le_of_ble_eq_true rfl), (Nat.le_of_ble_eq_true rfl)⟩ ⟨(Nat.le_of_ble_eq_true rfl), (Nat.le_of_ble_eq_true rfl)⟩ 12 rfl rfl rfl rfl hl17.1 rfl (Nat.le_of_ble_eq_true rfl) dX12_image_53) (fun r_110 u_109 H1 locs hp hw111 => ?_)
          obtain ⟨nkeptAt_112, rfl⟩ : ∃ z, z = u_109 := ⟨_, rfl⟩
          generalize H1 = H at hw111 ⊢
          have hw113 : WD D A s.heap (MW cI cJ M mr (upd (upd (upd (upd mi 0 0) 66 0) 67 1) 68 nkeptAt_112) (va_up mf 1 g_14) mg) H locs := hw111
          obtain ⟨hp_114, hp_115⟩ := hp
          have hp_114 : nkeptAt_112.toInt = x_13.toInt + 1 := hp_114
          have hp_115 : r_110 = (mf 69) (x_13).toNatClampNeg := hp_115
          have er_110 := hp_115
          refine x_iastG (pc := 56) (f := g_14) (wf := fun g => (MW cI cJ M mr (upd (upd (upd (upd mi 0 0) 66 0) 67 1) 68 nkeptAt_112) (va_up mf 1 g) mg)) E hw113 1 rfl (inbE (a := x_12.toInt) (n := 66) rfl (by omega)) (fun _ => rfl) dX12_image_56 (fun g_116 H locs eg_116 hw117 => ?_)
          obtain ⟨v_121, ev_121⟩ : ∃ z : Int32, x_12 + Int32.ofInt (1) = z := ⟨_, rfl⟩
          have hv_121 : v_121.toInt = x_12.toInt + (1) := by rw [← ev_121]; exact incE rfl (by decide) (by omega)
          refine lv_iinc (pc := 57) (v := v_121) (lv' := [(2, .int v_121), (0, .ref M), (1, .int 0)]) E.1 E.2.1 dX12_image_57 hl17 (k := 0) rfl ev_121 (by decide) rfl (fun ls hl122 => ?_)
          refine lv_goto (pc := 60) (tgt := 35) E.1 E.2.1 dX12_image_60 (by decide) ?_
          exact ih_15 v_121 nkeptAt_112 g_116 _ _ _ ⟨(by show 0 ≤ v_121.toInt; omega), (by show v_121.toInt ≤ 66; omega), (by show nkeptAt_112.toInt = v_121.toInt; omega), (SGT_row hi_14_3 eg_116 (by omega) (by omega) er_110 (by omega) (m := v_121.toInt) (by omega))⟩ (by omega) hw117 (lv_sub hl122 [0, 1, 2] rfl)
    exact loop_11 (Int.toNat (66 - 0) + 1) 0 0 (mf 1) _ _ _ ⟨(by show 0 ≤ (0 : Int32).toInt; have k_0 : (0 : Int32).toInt = 0 := (by decide +kernel); omega), (by show (0 : Int32).toInt ≤ 66; have k_0 : (0 : Int32).toInt = 0 := (by decide +kernel); omega), rfl, (SGT_nil (by decide +kernel))⟩ (by have k_0 : (0 : Int32).toInt = 0 := (by decide +kernel); have k_1 : (0 : Int32).toInt = 0 := (by decide +kernel); omega) hw9 (lv_sub hl10 [0, 1, 2] rfl)
  · skip
    have hc_6 := eqE (a := (mi 67).toInt) (b := 0) rfl (by decide +kernel) c_6
    refine lv_iconst (pc := 16) (v := 0) E.1 E.2.1 dX12_image_16 (by decide +kernel) ?_
    exact em_z (w1 := (fun (u : Int32 × Int32 × Int32 × (Nat → Int32) × Int32 × Int32 × (Nat → Int32) × (Nat → Int32) × (Nat → Int32) × (Nat → Int32) × (Nat → Int32) × Int32 × Int32 × Int32 × Int32 × Int32 × (Nat → Int32) × (Nat → Int32) × Int32 × (Nat → Int32) × Int32 × (Nat → Int32) × Int32 × (Nat → Int32) × (Nat → Int32) × (Nat → Int32) × (Nat → Int32) × (Nat → Int32) × (Nat → Int32) × (Nat → Int32) × (Nat → Int32) × Int32) => (MW cI cJ M mr (upd (upd (upd (upd (upd (upd (upd (upd (upd (upd (upd (upd (upd (upd mi 0 u.1) 66 u.2.1) 67 u.2.2.1) 68 u.2.2.2.2.1) 6 u.2.2.2.2.2.1) 12 u.2.2.2.2.2.2.2.2.2.2.2.1) 13 u.2.2.2.2.2.2.2.2.2.2.2.2.1) 14 u.2.2.2.2.2.2.2.2.2.2.2.2.2.1) 15 u.2.2.2.2.2.2.2.2.2.2.2.2.2.2.1) 17 u.2.2.2.2.2.2.2.2.2.2.2.2.2.2.2.1) 42 u.2.2.2.2.2.2.2.2.2.2.2.2.2.2.2.2.2.2.1) 44 u.2.2.2.2.2.2.2.2.2.2.2.2.2.2.2.2.2.2.2.2.1) 49 u.2.2.2.2.2.2.2.2.2.2.2.2.2.2.2.2.2.2.2.2.2.2.1) 3 u.2.2.2.2.2.2.2.2.2.2.2.2.2.2.2.2.2.2.2.2.2.2.2.2.2.2.2.2.2.2.2) (va_up (va_up (va_up (va_up (va_up (va_up (va_up (va_up (va_up (va_up (va_up (va_up (va_up (va_up (va_up (va_up (va_up (va_up mf 1 u.2.2.2.1) 7 u.2.2.2.2.2.2.1) 8 u.2.2.2.2.2.2.2.1) 9 u.2.2.2.2.2.2.2.2.1) 10 u.2.2.2.2.2.2.2.2.2.1) 11 u.2.2.2.2.2.2.2.2.2.2.1) 18 u.2.2.2.2.2.2.2.2.2.2.2.2.2.2.2.2.1) 19 u.2.2.2.2.2.2.2.2.2.2.2.2.2.2.2.2.2.1) 43 u.2.2.2.2.2.2.2.2.2.2.2.2.2.2.2.2.2.2.2.1) 45 u.2.2.2.2.2.2.2.2.2.2.2.2.2.2.2.2.2.2.2.2.2.1) 50 u.2.2.2.2.2.2.2.2.2.2.2.2.2.2.2.2.2.2.2.2.2.2.2.1) 16 u.2.2.2.2.2.2.2.2.2.2.2.2.2.2.2.2.2.2.2.2.2.2.2.2.1) 27 u.2.2.2.2.2.2.2.2.2.2.2.2.2.2.2.2.2.2.2.2.2.2.2.2.2.1) 28 u.2.2.2.2.2.2.2.2.2.2.2.2.2.2.2.2.2.2.2.2.2.2.2.2.2.2.1) 29 u.2.2.2.2.2.2.2.2.2.2.2.2.2.2.2.2.2.2.2.2.2.2.2.2.2.2.2.1) 30 u.2.2.2.2.2.2.2.2.2.2.2.2.2.2.2.2.2.2.2.2.2.2.2.2.2.2.2.2.1) 31 u.2.2.2.2.2.2.2.2.2.2.2.2.2.2.2.2.2.2.2.2.2.2.2.2.2.2.2.2.2.1) 32 u.2.2.2.2.2.2.2.2.2.2.2.2.2.2.2.2.2.2.2.2.2.2.2.2.2.2.2.2.2.2.1) mg))) E hr hlk (0, (mi 66), (mi 67), (mf 1), (mi 68), (mi 6), (mf 7), (mf 8), (mf 9), (mf 10), (mf 11), (mi 12), (mi 13), (mi 14), (mi 15), (mi 17), (mf 18), (mf 19), (mi 42), (mf 43), (mi 44), (mf 45), (mi 49), (mf 50), (mf 16), (mf 27), (mf 28), (mf 29), (mf 30), (mf 31), (mf 32), (mi 3)) hw4 ⟨(by show 0 ≤ (0 : Int32).toInt; have k_0 : (0 : Int32).toInt = 0 := (by decide +kernel); have k_1 : (0 : Int32).toInt = 0 := (by decide +kernel); omega), (by show (0 : Int32).toInt ≤ 1; have k_0 : (0 : Int32).toInt = 0 := (by decide +kernel); have k_1 : (0 : Int32).toInt = 0 := (by decide +kernel); omega), h1.1, h1.2, h2.1, h2.2, h3.1, h3.2, h0.1, h0.2, h11.1, h11.2, h12.1, h12.2, h5.1, h5.2, h4.1, h4.2, h10.1, h10.2, h6, h7, h8, h9, h13.1, h13.2, a_paths, (show pplOK (mi 6).toInt (mf 8) from lf_people), (show rndOK (mi 49).toInt (mi 6).toInt (mf 50) from lf_round), (show LW 0 0 (mf 31) (mf 32) (mf 28) (mf 29) (mf 30) ((mf 27) 0).toInt 400 from lf_law0), (show LW 16 400 (mf 31) (mf 32) (mf 28) (mf 29) (mf 30) ((mf 27) 1).toInt 400 from lf_law1), (show (((mi 6).toInt = 0 ∧ ((mf 1) 3).toInt = 0) ∨ ((mf 1) 3).toInt < (mi 6).toInt) from lf_lamp), (show rowsOK (mi 3).toInt (mi 6).toInt (mf 2) from lf_rows), (show IMGO ((mi 67).toInt) (mf 69) from lf_img), (show ((mi 67).toInt = 0 ∧ (mi 67).toInt = 0 ∧ (mi 6).toInt = (mi 6).toInt ∧ (mf 7) = (mf 7) ∧ (mi 17).toInt = (mi 17).toInt) ∨ ((mi 67).toInt ≠ 0 ∧ (mi 67).toInt ≠ 0 ∧ (mi 6).toInt = ((mf 69) 66).toInt ∧ SGT (mf 69) (mf 7) 0 67 5 10 ∧ (mi 17).toInt = ((mf 69) 121).toInt) from (Or.inl ⟨by omega, by omega, rfl, rfl, rfl⟩)), (show (((mi 67).toInt = 0 ∧ (mf 11) = (mf 11)) ∨ ((mi 67).toInt ≠ 0 ∧ SGT (mf 69) (mf 11) 0 71 5 10)) from (Or.inl ⟨by omega, rfl⟩))⟩ (by decide +kernel) (Nat.le_of_ble_eq_true rfl) (Nat.le_of_ble_eq_true rfl) dX12_image_17
set_option maxHeartbeats 4000000 in
set_option maxRecDepth 100000 in
theorem s_friendsG (l : Launch) (D : va_G) (cI cJ : ClassId) (sz M : Nat) (mr : Nat → Nat) (mi : Nat → Int32) (mf : Nat → Nat → Int32) (mg : Nat → Nat → Int64) (z_a : Int32) (z_b : Int32) (z_are : Int32) (h0 : 0 ≤ (mi 6).toInt ∧ (mi 6).toInt ≤ 10) (h1 : 0 ≤ (mi 3).toInt ∧ (mi 3).toInt ≤ 6) : Met l yX12_friends (Cond.code yX12_friends cX12_friends 4 (some .boolean) :: GW) ({ frames := 2, cells := 0, slots := 0, locals := 61 } : Room) (va_Pc [.ref M, .int z_a, .int z_b, .int z_are] (PW D cI cJ sz (MW cI cJ M mr mi mf mg) xT)) (va_Qi (fun (r : Int32) (u : Int32 × (Nat → Int32) × Int32) => (0 ≤ u.2.2.toInt ∧ u.2.2.toInt ≤ 6) ∧ (u.2.2.toInt ≤ (mi 3).toInt) ∧ (((FRDC (mi 6).toInt z_a.toInt z_b.toInt ∧ u.2.1 = fru (mf 11) z_a z_b z_are) ∨ (¬ FRDC (mi 6).toInt z_a.toInt z_b.toInt ∧ u.2.1 = (mf 11))))) (fun u => QW D cI cJ (va_A (MW cI cJ M mr mi mf mg) sz) ((fun (u : Int32 × (Nat → Int32) × Int32) => (MW cI cJ M mr (upd (upd mi 0 u.1) 3 u.2.2) (va_up mf 11 u.2.1) mg)) u)) (va_A (MW cI cJ M mr mi mf mg) sz)) 0 0 (va_A (MW cI cJ M mr mi mf mg) sz) := by
  refine mk_met (y := yX12_friends) (bytes := cX12_friends) (maxL := 4) (avs := [.ref M, .int z_a, .int z_b, .int z_are]) (WS := (MW cI cJ M mr mi mf mg)) (Qf := fun A => va_Qi (fun (r : Int32) (u : Int32 × (Nat → Int32) × Int32) => (0 ≤ u.2.2.toInt ∧ u.2.2.toInt ≤ 6) ∧ (u.2.2.toInt ≤ (mi 3).toInt) ∧ (((FRDC (mi 6).toInt z_a.toInt z_b.toInt ∧ u.2.1 = fru (mf 11) z_a z_b z_are) ∨ (¬ FRDC (mi 6).toInt z_a.toInt z_b.toInt ∧ u.2.1 = (mf 11))))) (fun u => QW D cI cJ A ((fun (u : Int32 × (Nat → Int32) × Int32) => (MW cI cJ M mr (upd (upd mi 0 u.1) 3 u.2.2) (va_up mf 11 u.2.1) mg)) u)) A) (by decide) (Nat.le_of_ble_eq_true rfl) ?_
  intro p e s m below meth c A ls E hr hlk hnm hX hw1 hl2
  have hl3 : lv_has ls 4 [(0, .ref M), (1, .int z_a), (2, .int z_b), (3, .int z_are)] := hl2
  refine lv_aload_n (pc := 0) E.1 E.2.1 dX12_friends_0 rfl (lv_at hl3 0 rfl) ?_
  refine lv_iconst (pc := 1) (v := 0) E.1 E.2.1 dX12_friends_1 (by decide +kernel) ?_
  refine x_put (pc := 2) (T := TX12) (N := 70) (ci := 12) (ws' := (MW cI cJ M mr (upd mi 0 0) mf mg)) E hw1 inX12 tyX12_ok nmX12 0 0 q_1399 rfl rfl (by decide) rfl rfl rfl rfl (Nat.le_of_ble_eq_true rfl) rfl dX12_friends_2 (fun H locs hw4 => ?_)
  refine lv_aload_n (pc := 5) E.1 E.2.1 dX12_friends_5 rfl (lv_at hl3 0 rfl) ?_
  refine lv_iload_n (pc := 6) E.1 E.2.1 dX12_friends_6 rfl (lv_at hl3 1 rfl) ?_
  refine cm_i (pc := 7) hw4 (rn_M (As := [.int z_a]) (rest := []) E hw4 (s_isHouse l D cI cJ _ M mr (upd mi 0 0) mf mg z_a) (gdV q_1634 q_1636 q_48 q_162 q_1637) hdV_X12_isHouse ⟨rfl, rfl⟩ ⟨(Nat.le_of_ble_eq_true rfl), (Nat.le_of_ble_eq_true rfl)⟩ ⟨(Nat.le_of_ble_eq_true rfl), (Nat.le_of_ble_eq_true rfl)⟩ 12 rfl rfl rfl rfl hl3.1 rfl (Nat.le_of_ble_eq_true rfl) dX12_friends_7) (fun r_6 u_5 H1 locs hp hw7 => ?_)
  generalize H1 = H at hw7 ⊢
  have hw8 : WD D A s.heap (MW cI cJ M mr (upd mi 0 0) mf mg) H locs := hw7
  have hp_9 := hp
  rcases hp_9 with ⟨rfl, ha_10⟩ | ⟨rfl, ha_11⟩ | ⟨rfl, ha_12, ha_13⟩
  · skip
    have ha_10 : z_a.toInt < 0 := ha_10
    refine lv_if_eq (pc := 10) (tgt := 26) E.1 E.2.1 dX12_friends_10 (by decide) (fun _ => ?_) (fun c_14 => absurd (meqE (a := 0) (b := 0) (by decide +kernel) (by decide +kernel) (by omega)) c_14)
    refine lv_iconst (pc := 26) (v := 0) E.1 E.2.1 dX12_friends_26 (by decide +kernel) ?_
    exact em_z (w1 := (fun (u : Int32 × (Nat → Int32) × Int32) => (MW cI cJ M mr (upd (upd mi 0 u.1) 3 u.2.2) (va_up mf 11 u.2.1) mg))) E hr hlk (0, (mf 11), (mi 3)) hw8 ⟨h1, (by show (mi 3).toInt ≤ (mi 3).toInt; have k_0 : (0 : Int32).toInt = 0 := (by decide +kernel); have k_1 : (0 : Int32).toInt = 0 := (by decide +kernel); omega), (show ((FRDC (mi 6).toInt z_a.toInt z_b.toInt ∧ (mf 11) = fru (mf 11) z_a z_b z_are) ∨ (¬ FRDC (mi 6).toInt z_a.toInt z_b.toInt ∧ (mf 11) = (mf 11))) from (Or.inr ⟨fun h => by obtain ⟨⟨h1, h2⟩, ⟨h3, h4⟩, h5⟩ := h; omega, rfl⟩))⟩ (by decide +kernel) (Nat.le_of_ble_eq_true rfl) (Nat.le_of_ble_eq_true rfl) dX12_friends_27
  · skip
    have ha_11 : (mi 6).toInt ≤ z_a.toInt := ha_11
    refine lv_if_eq (pc := 10) (tgt := 26) E.1 E.2.1 dX12_friends_10 (by decide) (fun _ => ?_) (fun c_15 => absurd (meqE (a := 0) (b := 0) (by decide +kernel) (by decide +kernel) (by omega)) c_15)
    refine lv_iconst (pc := 26) (v := 0) E.1 E.2.1 dX12_friends_26 (by decide +kernel) ?_
    exact em_z (w1 := (fun (u : Int32 × (Nat → Int32) × Int32) => (MW cI cJ M mr (upd (upd mi 0 u.1) 3 u.2.2) (va_up mf 11 u.2.1) mg))) E hr hlk (0, (mf 11), (mi 3)) hw8 ⟨h1, (by show (mi 3).toInt ≤ (mi 3).toInt; have k_0 : (0 : Int32).toInt = 0 := (by decide +kernel); have k_1 : (0 : Int32).toInt = 0 := (by decide +kernel); omega), (show ((FRDC (mi 6).toInt z_a.toInt z_b.toInt ∧ (mf 11) = fru (mf 11) z_a z_b z_are) ∨ (¬ FRDC (mi 6).toInt z_a.toInt z_b.toInt ∧ (mf 11) = (mf 11))) from (Or.inr ⟨fun h => by obtain ⟨⟨h1, h2⟩, ⟨h3, h4⟩, h5⟩ := h; omega, rfl⟩))⟩ (by decide +kernel) (Nat.le_of_ble_eq_true rfl) (Nat.le_of_ble_eq_true rfl) dX12_friends_27
  · skip
    have ha_12 : 0 ≤ z_a.toInt := ha_12
    have ha_13 : z_a.toInt < (mi 6).toInt := ha_13
    refine lv_if_eq (pc := 10) (tgt := 26) E.1 E.2.1 dX12_friends_10 (by decide) (fun c_16 => absurd c_16 (mneE (a := 1) (b := 0) (by decide +kernel) (by decide +kernel) (by omega))) (fun _ => ?_)
    refine lv_aload_n (pc := 13) E.1 E.2.1 dX12_friends_13 rfl (lv_at hl3 0 rfl) ?_
    refine lv_iload_n (pc := 14) E.1 E.2.1 dX12_friends_14 rfl (lv_at hl3 2 rfl) ?_
    refine cm_i (pc := 15) hw8 (rn_M (As := [.int z_b]) (rest := []) E hw8 (s_isHouse l D cI cJ _ M mr (upd mi 0 0) mf mg z_b) (gdV q_1634 q_1636 q_48 q_162 q_1637) hdV_X12_isHouse ⟨rfl, rfl⟩ ⟨(Nat.le_of_ble_eq_true rfl), (Nat.le_of_ble_eq_true rfl)⟩ ⟨(Nat.le_of_ble_eq_true rfl), (Nat.le_of_ble_eq_true rfl)⟩ 12 rfl rfl rfl rfl hl3.1 rfl (Nat.le_of_ble_eq_true rfl) dX12_friends_15) (fun r_18 u_17 H1 locs hp hw19 => ?_)
    generalize H1 = H at hw19 ⊢
    have hw20 : WD D A s.heap (MW cI cJ M mr (upd mi 0 0) mf mg) H locs := hw19
    have hp_21 := hp
    rcases hp_21 with ⟨rfl, ha_22⟩ | ⟨rfl, ha_23⟩ | ⟨rfl, ha_24, ha_25⟩
    · skip
      have ha_22 : z_b.toInt < 0 := ha_22
      refine lv_if_eq (pc := 18) (tgt := 26) E.1 E.2.1 dX12_friends_18 (by decide) (fun _ => ?_) (fun c_26 => absurd (meqE (a := 0) (b := 0) (by decide +kernel) (by decide +kernel) (by omega)) c_26)
      refine lv_iconst (pc := 26) (v := 0) E.1 E.2.1 dX12_friends_26 (by decide +kernel) ?_
      exact em_z (w1 := (fun (u : Int32 × (Nat → Int32) × Int32) => (MW cI cJ M mr (upd (upd mi 0 u.1) 3 u.2.2) (va_up mf 11 u.2.1) mg))) E hr hlk (0, (mf 11), (mi 3)) hw20 ⟨h1, (by show (mi 3).toInt ≤ (mi 3).toInt; have k_0 : (0 : Int32).toInt = 0 := (by decide +kernel); have k_1 : (0 : Int32).toInt = 0 := (by decide +kernel); omega), (show ((FRDC (mi 6).toInt z_a.toInt z_b.toInt ∧ (mf 11) = fru (mf 11) z_a z_b z_are) ∨ (¬ FRDC (mi 6).toInt z_a.toInt z_b.toInt ∧ (mf 11) = (mf 11))) from (Or.inr ⟨fun h => by obtain ⟨⟨h1, h2⟩, ⟨h3, h4⟩, h5⟩ := h; omega, rfl⟩))⟩ (by decide +kernel) (Nat.le_of_ble_eq_true rfl) (Nat.le_of_ble_eq_true rfl) dX12_friends_27
    · skip
      have ha_23 : (mi 6).toInt ≤ z_b.toInt := ha_23
      refine lv_if_eq (pc := 18) (tgt := 26) E.1 E.2.1 dX12_friends_18 (by decide) (fun _ => ?_) (fun c_27 => absurd (meqE (a := 0) (b := 0) (by decide +kernel) (by decide +kernel) (by omega)) c_27)
      refine lv_iconst (pc := 26) (v := 0) E.1 E.2.1 dX12_friends_26 (by decide +kernel) ?_
      exact em_z (w1 := (fun (u : Int32 × (Nat → Int32) × Int32) => (MW cI cJ M mr (upd (upd mi 0 u.1) 3 u.2.2) (va_up mf 11 u.2.1) mg))) E hr hlk (0, (mf 11), (mi 3)) hw20 ⟨h1, (by show (mi 3).toInt ≤ (mi 3).toInt; have k_0 : (0 : Int32).toInt = 0 := (by decide +kernel); have k_1 : (0 : Int32).toInt = 0 := (by decide +kernel); omega), (show ((FRDC (mi 6).toInt z_a.toInt z_b.toInt ∧ (mf 11) = fru (mf 11) z_a z_b z_are) ∨ (¬ FRDC (mi 6).toInt z_a.toInt z_b.toInt ∧ (mf 11) = (mf 11))) from (Or.inr ⟨fun h => by obtain ⟨⟨h1, h2⟩, ⟨h3, h4⟩, h5⟩ := h; omega, rfl⟩))⟩ (by decide +kernel) (Nat.le_of_ble_eq_true rfl) (Nat.le_of_ble_eq_true rfl) dX12_friends_27
    · skip
      have ha_24 : 0 ≤ z_b.toInt := ha_24
      have ha_25 : z_b.toInt < (mi 6).toInt := ha_25
      refine lv_if_eq (pc := 18) (tgt := 26) E.1 E.2.1 dX12_friends_18 (by decide) (fun c_28 => absurd c_28 (mneE (a := 1) (b := 0) (by decide +kernel) (by decide +kernel) (by omega))) (fun _ => ?_)
      refine lv_iload_n (pc := 21) E.1 E.2.1 dX12_friends_21 rfl (lv_at hl3 1 rfl) ?_
      refine lv_iload_n (pc := 22) E.1 E.2.1 dX12_friends_22 rfl (lv_at hl3 2 rfl) ?_
      refine lv_icmp_ne (pc := 23) (tgt := 28) E.1 E.2.1 dX12_friends_23 (by decide) (fun c_29 => ?_) (fun c_29 => ?_)
      · skip
        have hc_29 := neE (a := z_a.toInt) (b := z_b.toInt) rfl rfl c_29
        refine lv_aload_n (pc := 28) E.1 E.2.1 dX12_friends_28 rfl (lv_at hl3 0 rfl) ?_
        refine x_get (pc := 29) (T := TX12) (N := 70) (ci := 12) (v := .ref (mr 11)) E hw20 inX12 0 11 q_1410 rfl rfl (by decide) rfl rfl dX12_friends_29 ?_
        refine lv_iload_n (pc := 32) E.1 E.2.1 dX12_friends_32 rfl (lv_at hl3 1 rfl) ?_
        refine lv_iload_n (pc := 33) E.1 E.2.1 dX12_friends_33 rfl (lv_at hl3 3 rfl) ?_
        refine lv_if_eq (pc := 34) (tgt := 50) E.1 E.2.1 dX12_friends_34 (by decide) (fun c_30 => ?_) (fun c_30 => ?_)
        · skip
          have hc_30 := eqE (a := z_are.toInt) (b := 0) rfl (by decide +kernel) c_30
          refine lv_aload_n (pc := 50) E.1 E.2.1 dX12_friends_50 rfl (lv_at hl3 0 rfl) ?_
          refine x_get (pc := 51) (T := TX12) (N := 70) (ci := 12) (v := .ref (mr 11)) E hw20 inX12 0 11 q_1410 rfl rfl (by decide) rfl rfl dX12_friends_51 ?_
          refine lv_iload_n (pc := 54) E.1 E.2.1 dX12_friends_54 rfl (lv_at hl3 1 rfl) ?_
          refine x_iald (pc := 55) (f := (mf 11)) E hw20 8 rfl (inbE (a := z_a.toInt) (n := 10) rfl (by omega)) dX12_friends_55 ?_
          refine lv_topi (fun v_31 ev_31 => ?_)
          refine lv_iconst (pc := 56) (v := 1) E.1 E.2.1 dX12_friends_56 (by decide +kernel) ?_
          refine lv_iload_n (pc := 57) E.1 E.2.1 dX12_friends_57 rfl (lv_at hl3 2 rfl) ?_
          refine lv_ishl (pc := 58) E.1 E.2.1 dX12_friends_58 ?_
          refine lv_topi (fun v_32 ev_32 => ?_)
          have hb1v_32 : 1 ≤ v_32.toInt ∧ v_32.toInt ≤ 512 := by rw [ev_32]; exact shl9 (by omega)
          refine lv_iconst (pc := 59) (v := (-1)) E.1 E.2.1 dX12_friends_59 (by decide +kernel) ?_
          refine lv_ixor (pc := 60) E.1 E.2.1 dX12_friends_60 ?_
          refine lv_topi (fun v_33 ev_33 => ?_)
          refine lv_iand (pc := 61) E.1 E.2.1 dX12_friends_61 ?_
          refine lv_topi (fun v_34 ev_34 => ?_)
          refine x_iastG (pc := 62) (f := (mf 11)) (wf := fun g => (MW cI cJ M mr (upd mi 0 0) (va_up mf 11 g) mg)) E hw20 8 rfl (inbE (a := z_a.toInt) (n := 10) rfl (by omega)) (fun _ => rfl) dX12_friends_62 (fun g_35 H locs eg_35 hw36 => ?_)
          refine lv_aload_n (pc := 63) E.1 E.2.1 dX12_friends_63 rfl (lv_at hl3 0 rfl) ?_
          refine x_get (pc := 64) (T := TX12) (N := 70) (ci := 12) (v := .ref (mr 11)) E hw36 inX12 0 11 q_1410 rfl rfl (by decide) rfl rfl dX12_friends_64 ?_
          refine lv_iload_n (pc := 67) E.1 E.2.1 dX12_friends_67 rfl (lv_at hl3 2 rfl) ?_
          refine lv_iload_n (pc := 68) E.1 E.2.1 dX12_friends_68 rfl (lv_at hl3 3 rfl) ?_
          refine lv_if_eq (pc := 69) (tgt := 85) E.1 E.2.1 dX12_friends_69 (by decide) (fun _ => ?_) (fun c_37 => absurd (meqE (a := z_are.toInt) (b := 0) rfl (by decide +kernel) (by omega)) c_37)
          refine lv_aload_n (pc := 85) E.1 E.2.1 dX12_friends_85 rfl (lv_at hl3 0 rfl) ?_
          refine x_get (pc := 86) (T := TX12) (N := 70) (ci := 12) (v := .ref (mr 11)) E hw36 inX12 0 11 q_1410 rfl rfl (by decide) rfl rfl dX12_friends_86 ?_
          refine lv_iload_n (pc := 89) E.1 E.2.1 dX12_friends_89 rfl (lv_at hl3 2 rfl) ?_
          refine x_iald (pc := 90) (f := g_35) E hw36 8 rfl (inbE (a := z_b.toInt) (n := 10) rfl (by omega)) dX12_friends_90 ?_
          refine lv_topi (fun v_38 ev_38 => ?_)
          refine lv_iconst (pc := 91) (v := 1) E.1 E.2.1 dX12_friends_91 (by decide +kernel) ?_
          refine lv_iload_n (pc := 92) E.1 E.2.1 dX12_friends_92 rfl (lv_at hl3 1 rfl) ?_
          refine lv_ishl (pc := 93) E.1 E.2.1 dX12_friends_93 ?_
          refine lv_topi (fun v_39 ev_39 => ?_)
          have hb1v_39 : 1 ≤ v_39.toInt ∧ v_39.toInt ≤ 512 := by rw [ev_39]; exact shl9 (by omega)
          refine lv_iconst (pc := 94) (v := (-1)) E.1 E.2.1 dX12_friends_94 (by decide +kernel) ?_
          refine lv_ixor (pc := 95) E.1 E.2.1 dX12_friends_95 ?_
          refine lv_topi (fun v_40 ev_40 => ?_)
          refine lv_iand (pc := 96) E.1 E.2.1 dX12_friends_96 ?_
          refine lv_topi (fun v_41 ev_41 => ?_)
          refine x_iastG (pc := 97) (f := g_35) (wf := fun g => (MW cI cJ M mr (upd mi 0 0) (va_up mf 11 g) mg)) E hw36 8 rfl (inbE (a := z_b.toInt) (n := 10) rfl (by omega)) (fun _ => rfl) dX12_friends_97 (fun g_42 H locs eg_42 hw43 => ?_)
          refine lv_aload_n (pc := 98) E.1 E.2.1 dX12_friends_98 rfl (lv_at hl3 0 rfl) ?_
          refine lv_iconst (pc := 99) (v := 0) E.1 E.2.1 dX12_friends_99 (by decide +kernel) ?_
          refine x_put (pc := 100) (T := TX12) (N := 70) (ci := 12) (ws' := (MW cI cJ M mr (upd (upd mi 0 0) 3 0) (va_up mf 11 g_42) mg)) E hw43 inX12 tyX12_ok nmX12 0 3 q_1402 rfl rfl (by decide) rfl rfl rfl rfl (Nat.le_of_ble_eq_true rfl) rfl dX12_friends_100 (fun H locs hw44 => ?_)
          refine lv_iconst (pc := 103) (v := 1) E.1 E.2.1 dX12_friends_103 (by decide +kernel) ?_
          exact em_z (w1 := (fun (u : Int32 × (Nat → Int32) × Int32) => (MW cI cJ M mr (upd (upd mi 0 u.1) 3 u.2.2) (va_up mf 11 u.2.1) mg))) E hr hlk (0, g_42, 0) hw44 ⟨(by show 0 ≤ (0 : Int32).toInt ∧ (0 : Int32).toInt ≤ 6; have k_0 : (0 : Int32).toInt = 0 := (by decide +kernel); have k_1 : (0 : Int32).toInt = 0 := (by decide +kernel); have k_2 : (1 : Int32).toInt = 1 := (by decide +kernel); omega), (by show (0 : Int32).toInt ≤ (mi 3).toInt; have k_0 : (0 : Int32).toInt = 0 := (by decide +kernel); have k_1 : (0 : Int32).toInt = 0 := (by decide +kernel); have k_2 : (1 : Int32).toInt = 1 := (by decide +kernel); omega), (show ((FRDC (mi 6).toInt z_a.toInt z_b.toInt ∧ g_42 = fru (mf 11) z_a z_b z_are) ∨ (¬ FRDC (mi 6).toInt z_a.toInt z_b.toInt ∧ g_42 = (mf 11))) from (Or.inl ⟨⟨⟨by omega, by omega⟩, ⟨by omega, by omega⟩, by omega⟩, bf_2 (bf_cl ev_31 ev_32 ev_33 ev_34 eg_35 (by omega) (by omega)) (bf_cl ev_38 ev_39 ev_40 ev_41 eg_42 (by omega) (by omega)) (by omega) (by omega) (by omega)⟩))⟩ (by decide +kernel) (Nat.le_of_ble_eq_true rfl) (Nat.le_of_ble_eq_true rfl) dX12_friends_104
        · skip
          have hc_30 := neE (a := z_are.toInt) (b := 0) rfl (by decide +kernel) c_30
          refine lv_aload_n (pc := 37) E.1 E.2.1 dX12_friends_37 rfl (lv_at hl3 0 rfl) ?_
          refine x_get (pc := 38) (T := TX12) (N := 70) (ci := 12) (v := .ref (mr 11)) E hw20 inX12 0 11 q_1410 rfl rfl (by decide) rfl rfl dX12_friends_38 ?_
          refine lv_iload_n (pc := 41) E.1 E.2.1 dX12_friends_41 rfl (lv_at hl3 1 rfl) ?_
          refine x_iald (pc := 42) (f := (mf 11)) E hw20 8 rfl (inbE (a := z_a.toInt) (n := 10) rfl (by omega)) dX12_friends_42 ?_
          refine lv_topi (fun v_45 ev_45 => ?_)
          refine lv_iconst (pc := 43) (v := 1) E.1 E.2.1 dX12_friends_43 (by decide +kernel) ?_
          refine lv_iload_n (pc := 44) E.1 E.2.1 dX12_friends_44 rfl (lv_at hl3 2 rfl) ?_
          refine lv_ishl (pc := 45) E.1 E.2.1 dX12_friends_45 ?_
          refine lv_topi (fun v_46 ev_46 => ?_)
          have hb1v_46 : 1 ≤ v_46.toInt ∧ v_46.toInt ≤ 512 := by rw [ev_46]; exact shl9 (by omega)
          refine lv_ior (pc := 46) E.1 E.2.1 dX12_friends_46 ?_
          refine lv_topi (fun v_47 ev_47 => ?_)
          refine lv_goto (pc := 47) (tgt := 62) E.1 E.2.1 dX12_friends_47 (by decide) ?_
          refine x_iastG (pc := 62) (f := (mf 11)) (wf := fun g => (MW cI cJ M mr (upd mi 0 0) (va_up mf 11 g) mg)) E hw20 8 rfl (inbE (a := z_a.toInt) (n := 10) rfl (by omega)) (fun _ => rfl) dX12_friends_62 (fun g_48 H locs eg_48 hw49 => ?_)
          refine lv_aload_n (pc := 63) E.1 E.2.1 dX12_friends_63 rfl (lv_at hl3 0 rfl) ?_
          refine x_get (pc := 64) (T := TX12) (N := 70) (ci := 12) (v := .ref (mr 11)) E hw49 inX12 0 11 q_1410 rfl rfl (by decide) rfl rfl dX12_friends_64 ?_
          refine lv_iload_n (pc := 67) E.1 E.2.1 dX12_friends_67 rfl (lv_at hl3 2 rfl) ?_
          refine lv_iload_n (pc := 68) E.1 E.2.1 dX12_friends_68 rfl (lv_at hl3 3 rfl) ?_
          refine lv_if_eq (pc := 69) (tgt := 85) E.1 E.2.1 dX12_friends_69 (by decide) (fun c_50 => absurd c_50 (mneE (a := z_are.toInt) (b := 0) rfl (by decide +kernel) (by omega))) (fun _ => ?_)
          refine lv_aload_n (pc := 72) E.1 E.2.1 dX12_friends_72 rfl (lv_at hl3 0 rfl) ?_
          refine x_get (pc := 73) (T := TX12) (N := 70) (ci := 12) (v := .ref (mr 11)) E hw49 inX12 0 11 q_1410 rfl rfl (by decide) rfl rfl dX12_friends_73 ?_
          refine lv_iload_n (pc := 76) E.1 E.2.1 dX12_friends_76 rfl (lv_at hl3 2 rfl) ?_
          refine x_iald (pc := 77) (f := g_48) E hw49 8 rfl (inbE (a := z_b.toInt) (n := 10) rfl (by omega)) dX12_friends_77 ?_
          refine lv_topi (fun v_51 ev_51 => ?_)
          refine lv_iconst (pc := 78) (v := 1) E.1 E.2.1 dX12_friends_78 (by decide +kernel) ?_
          refine lv_iload_n (pc := 79) E.1 E.2.1 dX12_friends_79 rfl (lv_at hl3 1 rfl) ?_
          refine lv_ishl (pc := 80) E.1 E.2.1 dX12_friends_80 ?_
          refine lv_topi (fun v_52 ev_52 => ?_)
          have hb1v_52 : 1 ≤ v_52.toInt ∧ v_52.toInt ≤ 512 := by rw [ev_52]; exact shl9 (by omega)
          refine lv_ior (pc := 81) E.1 E.2.1 dX12_friends_81 ?_
          refine lv_topi (fun v_53 ev_53 => ?_)
          refine lv_goto (pc := 82) (tgt := 97) E.1 E.2.1 dX12_friends_82 (by decide) ?_
          refine x_iastG (pc := 97) (f := g_48) (wf := fun g => (MW cI cJ M mr (upd mi 0 0) (va_up mf 11 g) mg)) E hw49 8 rfl (inbE (a := z_b.toInt) (n := 10) rfl (by omega)) (fun _ => rfl) dX12_friends_97 (fun g_54 H locs eg_54 hw55 => ?_)
          refine lv_aload_n (pc := 98) E.1 E.2.1 dX12_friends_98 rfl (lv_at hl3 0 rfl) ?_
          refine lv_iconst (pc := 99) (v := 0) E.1 E.2.1 dX12_friends_99 (by decide +kernel) ?_
          refine x_put (pc := 100) (T := TX12) (N := 70) (ci := 12) (ws' := (MW cI cJ M mr (upd (upd mi 0 0) 3 0) (va_up mf 11 g_54) mg)) E hw55 inX12 tyX12_ok nmX12 0 3 q_1402 rfl rfl (by decide) rfl rfl rfl rfl (Nat.le_of_ble_eq_true rfl) rfl dX12_friends_100 (fun H locs hw56 => ?_)
          refine lv_iconst (pc := 103) (v := 1) E.1 E.2.1 dX12_friends_103 (by decide +kernel) ?_
          exact em_z (w1 := (fun (u : Int32 × (Nat → Int32) × Int32) => (MW cI cJ M mr (upd (upd mi 0 u.1) 3 u.2.2) (va_up mf 11 u.2.1) mg))) E hr hlk (0, g_54, 0) hw56 ⟨(by show 0 ≤ (0 : Int32).toInt ∧ (0 : Int32).toInt ≤ 6; have k_0 : (0 : Int32).toInt = 0 := (by decide +kernel); have k_1 : (0 : Int32).toInt = 0 := (by decide +kernel); have k_2 : (1 : Int32).toInt = 1 := (by decide +kernel); omega), (by show (0 : Int32).toInt ≤ (mi 3).toInt; have k_0 : (0 : Int32).toInt = 0 := (by decide +kernel); have k_1 : (0 : Int32).toInt = 0 := (by decide +kernel); have k_2 : (1 : Int32).toInt = 1 := (by decide +kernel); omega), (show ((FRDC (mi 6).toInt z_a.toInt z_b.toInt ∧ g_54 = fru (mf 11) z_a z_b z_are) ∨ (¬ FRDC (mi 6).toInt z_a.toInt z_b.toInt ∧ g_54 = (mf 11))) from (Or.inl ⟨⟨⟨by omega, by omega⟩, ⟨by omega, by omega⟩, by omega⟩, bf_2 (bf_or ev_45 ev_46 ev_47 eg_48 (by omega) (by omega)) (bf_or ev_51 ev_52 ev_53 eg_54 (by omega) (by omega)) (by omega) (by omega) (by omega)⟩))⟩ (by decide +kernel) (Nat.le_of_ble_eq_true rfl) (Nat.le_of_ble_eq_true rfl) dX12_friends_104
      · skip
        have hc_29 := eqE (a := z_a.toInt) (b := z_b.toInt) rfl rfl c_29
        refine lv_iconst (pc := 26) (v := 0) E.1 E.2.1 dX12_friends_26 (by decide +kernel) ?_
        exact em_z (w1 := (fun (u : Int32 × (Nat → Int32) × Int32) => (MW cI cJ M mr (upd (upd mi 0 u.1) 3 u.2.2) (va_up mf 11 u.2.1) mg))) E hr hlk (0, (mf 11), (mi 3)) hw20 ⟨h1, (by show (mi 3).toInt ≤ (mi 3).toInt; have k_0 : (0 : Int32).toInt = 0 := (by decide +kernel); have k_1 : (0 : Int32).toInt = 0 := (by decide +kernel); omega), (show ((FRDC (mi 6).toInt z_a.toInt z_b.toInt ∧ (mf 11) = fru (mf 11) z_a z_b z_are) ∨ (¬ FRDC (mi 6).toInt z_a.toInt z_b.toInt ∧ (mf 11) = (mf 11))) from (Or.inr ⟨fun h => by obtain ⟨⟨h1, h2⟩, ⟨h3, h4⟩, h5⟩ := h; omega, rfl⟩))⟩ (by decide +kernel) (Nat.le_of_ble_eq_true rfl) (Nat.le_of_ble_eq_true rfl) dX12_friends_27
set_option maxHeartbeats 4000000 in
set_option maxRecDepth 100000 in
theorem s_greaterB (l : Launch) (D : va_G) (cI cJ : ClassId) (sz M : Nat) (mr : Nat → Nat) (mi : Nat → Int32) (mf : Nat → Nat → Int32) (mg : Nat → Nat → Int64) (z_a : Int32) (z_b : Int32)  : Met l yX12_greater (Cond.code yX12_greater cX12_greater 3 (some .int) :: GW) ({ frames := 1, cells := 0, slots := 0, locals := 40 } : Room) (va_Pc [.ref M, .int z_a, .int z_b] (PW D cI cJ sz (MW cI cJ M mr mi mf mg) xT)) (va_Qi (fun (r : Int32) (u : Unit) => ((r.toInt = z_a.toInt ∧ z_b.toInt ≤ z_a.toInt) ∨ (r.toInt = z_b.toInt ∧ z_a.toInt ≤ z_b.toInt))) (fun u => QW D cI cJ (va_A (MW cI cJ M mr mi mf mg) sz) ((fun (u : Unit) => (MW cI cJ M mr mi mf mg)) u)) (va_A (MW cI cJ M mr mi mf mg) sz)) 0 0 (va_A (MW cI cJ M mr mi mf mg) sz) := by
  refine mk_met (y := yX12_greater) (bytes := cX12_greater) (maxL := 3) (avs := [.ref M, .int z_a, .int z_b]) (WS := (MW cI cJ M mr mi mf mg)) (Qf := fun A => va_Qi (fun (r : Int32) (u : Unit) => ((r.toInt = z_a.toInt ∧ z_b.toInt ≤ z_a.toInt) ∨ (r.toInt = z_b.toInt ∧ z_a.toInt ≤ z_b.toInt))) (fun u => QW D cI cJ A ((fun (u : Unit) => (MW cI cJ M mr mi mf mg)) u)) A) (by decide) (Nat.le_of_ble_eq_true rfl) ?_
  intro p e s m below meth c A ls E hr hlk hnm hX hw1 hl2
  have hl3 : lv_has ls 3 [(0, .ref M), (1, .int z_a), (2, .int z_b)] := hl2
  refine lv_iload_n (pc := 0) E.1 E.2.1 dX12_greater_0 rfl (lv_at hl3 1 rfl) ?_
  refine lv_iload_n (pc := 1) E.1 E.2.1 dX12_greater_1 rfl (lv_at hl3 2 rfl) ?_
  refine lv_icmp_le (pc := 2) (tgt := 9) E.1 E.2.1 dX12_greater_2 (by decide) (fun c_4 => ?_) (fun c_4 => ?_)
  · skip
    have hc_4 := leE (a := z_a.toInt) (b := z_b.toInt) rfl rfl c_4
    refine lv_iload_n (pc := 9) E.1 E.2.1 dX12_greater_9 rfl (lv_at hl3 2 rfl) ?_
    exact em_i (w1 := (fun (u : Unit) => (MW cI cJ M mr mi mf mg))) E hr hlk () hw1 (Or.inr (⟨rfl, (by show z_a.toInt ≤ z_b.toInt; omega)⟩)) (Nat.le_of_ble_eq_true rfl) (Nat.le_of_ble_eq_true rfl) dX12_greater_10
  · skip
    have hc_4 := nleE (a := z_a.toInt) (b := z_b.toInt) rfl rfl c_4
    refine lv_iload_n (pc := 5) E.1 E.2.1 dX12_greater_5 rfl (lv_at hl3 1 rfl) ?_
    refine lv_goto (pc := 6) (tgt := 10) E.1 E.2.1 dX12_greater_6 (by decide) ?_
    exact em_i (w1 := (fun (u : Unit) => (MW cI cJ M mr mi mf mg))) E hr hlk () hw1 (Or.inl ⟨rfl, (by show z_b.toInt ≤ z_a.toInt; omega)⟩) (Nat.le_of_ble_eq_true rfl) (Nat.le_of_ble_eq_true rfl) dX12_greater_10
set_option maxHeartbeats 4000000 in
set_option maxRecDepth 100000 in
theorem s_lowestB (l : Launch) (D : va_G) (cI cJ : ClassId) (sz M : Nat) (mr : Nat → Nat) (mi : Nat → Int32) (mf : Nat → Nat → Int32) (mg : Nat → Nat → Int64) (z_set : Int32) (h0 : 1 ≤ z_set.toInt ∧ z_set.toInt ≤ 1023) : Met l yX12_lowest (Cond.code yX12_lowest cX12_lowest 3 (some .int) :: GW) ({ frames := 1, cells := 0, slots := 0, locals := 40 } : Room) (va_Pc [.ref M, .int z_set] (PW D cI cJ sz (MW cI cJ M mr mi mf mg) xT)) (va_Qi (fun (r : Int32) (u : Unit) => (0 ≤ r.toInt) ∧ (r.toInt ≤ 9) ∧ (LOW z_set.toInt.toNat (r : Int32).toInt.toNat)) (fun u => QW D cI cJ (va_A (MW cI cJ M mr mi mf mg) sz) ((fun (u : Unit) => (MW cI cJ M mr mi mf mg)) u)) (va_A (MW cI cJ M mr mi mf mg) sz)) 0 0 (va_A (MW cI cJ M mr mi mf mg) sz) := by
  refine mk_met (y := yX12_lowest) (bytes := cX12_lowest) (maxL := 3) (avs := [.ref M, .int z_set]) (WS := (MW cI cJ M mr mi mf mg)) (Qf := fun A => va_Qi (fun (r : Int32) (u : Unit) => (0 ≤ r.toInt) ∧ (r.toInt ≤ 9) ∧ (LOW z_set.toInt.toNat (r : Int32).toInt.toNat)) (fun u => QW D cI cJ A ((fun (u : Unit) => (MW cI cJ M mr mi mf mg)) u)) A) (by decide) (Nat.le_of_ble_eq_true rfl) ?_
  intro p e s m below meth c A ls E hr hlk hnm hX hw1 hl2
  have hl3 : lv_has ls 3 [(0, .ref M), (1, .int z_set)] := hl2
  refine lv_iconst (pc := 0) (v := 0) E.1 E.2.1 dX12_lowest_0 (by decide +kernel) ?_
  refine lv_istore_n (pc := 1) (lv' := [(2, .int 0), (0, .ref M), (1, .int z_set)]) E.1 E.2.1 dX12_lowest_1 rfl hl3 (by decide) rfl (fun ls hl4 => ?_)
  have loop_5 : ∀ (k : Nat) (x_6 : Int32) (H : Heap) (locs : List Loc) (ls : Array Slot), (0 ≤ x_6.toInt) ∧ (x_6.toInt ≤ 9) ∧ (∀ j : Nat, (j : Int) < x_6.toInt → z_set.toInt.toNat.testBit j = false) → 9 - x_6.toInt < (k : Int) → WD D A s.heap (MW cI cJ M mr mi mf mg) H locs → lv_has ls 3 [(2, .int x_6), (0, .ref M), (1, .int z_set)] → W p l e ({ frames := 1, cells := 0, slots := 0, locals := 40 } : Room) s m ([.ref M, .int z_set] : List Value).toArray below meth c H locs 0 0 (MQ below (va_Qi (fun (r : Int32) (u : Unit) => (0 ≤ r.toInt) ∧ (r.toInt ≤ 9) ∧ (LOW z_set.toInt.toNat (r : Int32).toInt.toNat)) (fun u => QW D cI cJ A ((fun (u : Unit) => (MW cI cJ M mr mi mf mg)) u)) A) ([.ref M, .int z_set] : List Value).toArray s 0 0 A) (F0 m 2 ls []) := by
    intro k
    induction k with
    | zero =>
      intro x_6 _ _ _ hinv hm
      obtain ⟨hi_6_0, hi_6_1, hi_6_2⟩ := hinv
      exact absurd hm (by omega)
    | succ k ih_7 =>
      intro x_6 H locs ls hinv hm hw8 hl9
      obtain ⟨hi_6_0, hi_6_1, hi_6_2⟩ := hinv
      refine lv_iload_n (pc := 2) E.1 E.2.1 dX12_lowest_2 rfl (lv_at hl9 2 rfl) ?_
      refine lv_iload_n (pc := 3) E.1 E.2.1 dX12_lowest_3 rfl (lv_at hl9 0 rfl) ?_
      refine lv_ishr (pc := 4) E.1 E.2.1 dX12_lowest_4 ?_
      refine lv_topi (fun v_10 ev_10 => ?_)
      refine lv_iconst (pc := 5) (v := 1) E.1 E.2.1 dX12_lowest_5 (by decide +kernel) ?_
      refine lv_iand (pc := 6) E.1 E.2.1 dX12_lowest_6 ?_
      refine lv_topi (fun v_11 ev_11 => ?_)
      refine lv_if_ne (pc := 7) (tgt := 17) E.1 E.2.1 dX12_lowest_7 (by decide) (fun c_12 => ?_) (fun c_12 => ?_)
      · skip
        have hc_12 := neE (a := v_11.toInt) (b := 0) rfl (by decide +kernel) c_12
        refine lv_iload_n (pc := 17) E.1 E.2.1 dX12_lowest_17 rfl (lv_at hl9 0 rfl) ?_
        exact em_i (w1 := (fun (u : Unit) => (MW cI cJ M mr mi mf mg))) E hr hlk () hw8 ⟨hi_6_0, hi_6_1, (show LOW z_set.toInt.toNat (x_6 : Int32).toInt.toNat from (LOW_of hi_6_2 ev_10 ev_11 (by omega) (by omega) (by omega)))⟩ (Nat.le_of_ble_eq_true rfl) (Nat.le_of_ble_eq_true rfl) dX12_lowest_18
      · skip
        have hc_12 := eqE (a := v_11.toInt) (b := 0) rfl (by decide +kernel) c_12
        have hz9 := low_end hi_6_2 ev_10 ev_11 (by omega) (by omega) (by omega)
        refine lv_iload_n (pc := 10) E.1 E.2.1 dX12_lowest_10 rfl (lv_at hl9 0 rfl) ?_
        refine lv_iconst (pc := 11) (v := 1) E.1 E.2.1 dX12_lowest_11 (by decide +kernel) ?_
        refine lv_iadd (pc := 12) E.1 E.2.1 dX12_lowest_12 ?_
        refine lv_topi (fun v_13 ev_13 => ?_)
        have hv_13 : v_13.toInt = x_6.toInt + 1 := by rw [ev_13]; exact addE rfl (by decide +kernel) (by omega)
        refine lv_istore_n (pc := 13) (lv' := [(2, .int v_13), (0, .ref M), (1, .int z_set)]) E.1 E.2.1 dX12_lowest_13 rfl hl9 (by decide) rfl (fun ls hl14 => ?_)
        refine lv_goto (pc := 14) (tgt := 2) E.1 E.2.1 dX12_lowest_14 (by decide) ?_
        exact ih_7 v_13 _ _ _ ⟨(by show 0 ≤ v_13.toInt; omega), (by show v_13.toInt ≤ 9; omega), (low_step hi_6_2 ev_10 ev_11 (by omega) (by omega) (by omega) (by omega))⟩ (by omega) hw8 (lv_sub hl14 [0, 1, 2] rfl)
  exact loop_5 (Int.toNat (9 - 0) + 1) 0 _ _ _ ⟨(by show 0 ≤ (0 : Int32).toInt; have k_0 : (0 : Int32).toInt = 0 := (by decide +kernel); omega), (by show (0 : Int32).toInt ≤ 9; have k_0 : (0 : Int32).toInt = 0 := (by decide +kernel); omega), (fun j hj => absurd hj (by have k9 : (0 : Int32).toInt = 0 := (by decide +kernel); omega))⟩ (by have k_0 : (0 : Int32).toInt = 0 := (by decide +kernel); omega) hw1 (lv_sub hl4 [0, 1, 2] rfl)
set_option maxHeartbeats 4000000 in
set_option maxRecDepth 100000 in
theorem s_pairsByB (l : Launch) (D : va_G) (cI cJ : ClassId) (sz M : Nat) (mr : Nat → Nat) (mi : Nat → Int32) (mf : Nat → Nat → Int32) (mg : Nat → Nat → Int64) (z_set : Int32) (z_h : Int32) (z_o : Int32) (h0 : 1 ≤ z_set.toInt ∧ z_set.toInt ≤ 1023) (h1 : 0 ≤ z_h.toInt ∧ z_h.toInt ≤ 9) (h2 : 0 ≤ z_o.toInt ∧ z_o.toInt ≤ 9) (x_tb : TBZ (FR (mi 6).toInt (mf 11)) (mf 61) (z_set.toInt)) (x_hb : z_set.toInt.toNat.testBit z_h.toInt.toNat = true) : Met l yX12_pairsBy (Cond.code yX12_pairsBy cX12_pairsBy 4 (some .int) :: GW) ({ frames := 1, cells := 0, slots := 0, locals := 40 } : Room) (va_Pc [.ref M, .int z_set, .int z_h, .int z_o] (PW D cI cJ sz (MW cI cJ M mr mi mf mg) xT)) (va_Qi (fun (r : Int32) (u : Unit) => (1 ≤ r.toInt) ∧ (r.toInt ≤ 1024) ∧ ((MXI (FR (mi 6).toInt (mf 11)) (clr (clr z_set.toInt.toNat z_h.toInt.toNat) z_o.toInt.toNat) ((r : Int32).toInt - 1) ∧ 1 ≤ (r : Int32).toInt ∧ (r : Int32).toInt ≤ 1024))) (fun u => QW D cI cJ (va_A (MW cI cJ M mr mi mf mg) sz) ((fun (u : Unit) => (MW cI cJ M mr mi mf mg)) u)) (va_A (MW cI cJ M mr mi mf mg) sz)) 0 0 (va_A (MW cI cJ M mr mi mf mg) sz) := by
  refine mk_met (y := yX12_pairsBy) (bytes := cX12_pairsBy) (maxL := 4) (avs := [.ref M, .int z_set, .int z_h, .int z_o]) (WS := (MW cI cJ M mr mi mf mg)) (Qf := fun A => va_Qi (fun (r : Int32) (u : Unit) => (1 ≤ r.toInt) ∧ (r.toInt ≤ 1024) ∧ ((MXI (FR (mi 6).toInt (mf 11)) (clr (clr z_set.toInt.toNat z_h.toInt.toNat) z_o.toInt.toNat) ((r : Int32).toInt - 1) ∧ 1 ≤ (r : Int32).toInt ∧ (r : Int32).toInt ≤ 1024))) (fun u => QW D cI cJ A ((fun (u : Unit) => (MW cI cJ M mr mi mf mg)) u)) A) (by decide) (Nat.le_of_ble_eq_true rfl) ?_
  intro p e s m below meth c A ls E hr hlk hnm hX hw1 hl2
  have hl3 : lv_has ls 4 [(0, .ref M), (1, .int z_set), (2, .int z_h), (3, .int z_o)] := hl2
  refine lv_iconst (pc := 0) (v := 1) E.1 E.2.1 dX12_pairsBy_0 (by decide +kernel) ?_
  refine lv_aload_n (pc := 1) E.1 E.2.1 dX12_pairsBy_1 rfl (lv_at hl3 0 rfl) ?_
  refine x_get (pc := 2) (T := TX12) (N := 70) (ci := 12) (v := .ref (mr 61)) E hw1 inX12 0 61 q_1460 rfl rfl (by decide) rfl rfl dX12_pairsBy_2 ?_
  refine lv_iload_n (pc := 5) E.1 E.2.1 dX12_pairsBy_5 rfl (lv_at hl3 1 rfl) ?_
  refine lv_iconst (pc := 6) (v := 1) E.1 E.2.1 dX12_pairsBy_6 (by decide +kernel) ?_
  refine lv_iload_n (pc := 7) E.1 E.2.1 dX12_pairsBy_7 rfl (lv_at hl3 2 rfl) ?_
  refine lv_ishl (pc := 8) E.1 E.2.1 dX12_pairsBy_8 ?_
  refine lv_topi (fun v_4 ev_4 => ?_)
  have hb1v_4 : 1 ≤ v_4.toInt ∧ v_4.toInt ≤ 512 := by rw [ev_4]; exact shl9 (by omega)
  refine lv_iconst (pc := 9) (v := (-1)) E.1 E.2.1 dX12_pairsBy_9 (by decide +kernel) ?_
  refine lv_ixor (pc := 10) E.1 E.2.1 dX12_pairsBy_10 ?_
  refine lv_topi (fun v_5 ev_5 => ?_)
  refine lv_iand (pc := 11) E.1 E.2.1 dX12_pairsBy_11 ?_
  refine lv_topi (fun v_6 ev_6 => ?_)
  have hb1v_6 : 0 ≤ v_6.toInt ∧ v_6.toInt ≤ z_set.toInt := by rw [ev_6]; exact and10 (by omega)
  refine lv_iconst (pc := 12) (v := 1) E.1 E.2.1 dX12_pairsBy_12 (by decide +kernel) ?_
  refine lv_iload_n (pc := 13) E.1 E.2.1 dX12_pairsBy_13 rfl (lv_at hl3 3 rfl) ?_
  refine lv_ishl (pc := 14) E.1 E.2.1 dX12_pairsBy_14 ?_
  refine lv_topi (fun v_7 ev_7 => ?_)
  have hb1v_7 : 1 ≤ v_7.toInt ∧ v_7.toInt ≤ 512 := by rw [ev_7]; exact shl9 (by omega)
  refine lv_iconst (pc := 15) (v := (-1)) E.1 E.2.1 dX12_pairsBy_15 (by decide +kernel) ?_
  refine lv_ixor (pc := 16) E.1 E.2.1 dX12_pairsBy_16 ?_
  refine lv_topi (fun v_8 ev_8 => ?_)
  refine lv_iand (pc := 17) E.1 E.2.1 dX12_pairsBy_17 ?_
  refine lv_topi (fun v_9 ev_9 => ?_)
  have hb1v_9 : 0 ≤ v_9.toInt ∧ v_9.toInt ≤ v_6.toInt := by rw [ev_9]; exact and10 (by omega)
  refine x_iald (pc := 18) (f := (mf 61)) E hw1 33 rfl (inbE (a := v_9.toInt) (n := 1024) rfl (by omega)) dX12_pairsBy_18 ?_
  refine lv_topi (fun v_10 ev_10 => ?_)
  have hq_11 := pb_c x_tb ev_4 ev_5 ev_6 ev_7 ev_8 ev_9 ev_10 ⟨by omega, by omega⟩ ⟨by omega, by omega⟩ ⟨by omega, by omega⟩ x_hb
  have hq_11b := hq_11.2
  refine lv_iadd (pc := 19) E.1 E.2.1 dX12_pairsBy_19 ?_
  refine lv_topi (fun v_12 ev_12 => ?_)
  have hv_12 : v_12.toInt = 1 + v_10.toInt := by rw [ev_12]; exact addE (by decide +kernel) rfl (by omega)
  exact em_i (w1 := (fun (u : Unit) => (MW cI cJ M mr mi mf mg))) E hr hlk () hw1 ⟨(by show 1 ≤ v_12.toInt; omega), (by show v_12.toInt ≤ 1024; omega), (show (MXI (FR (mi 6).toInt (mf 11)) (clr (clr z_set.toInt.toNat z_h.toInt.toNat) z_o.toInt.toNat) ((v_12 : Int32).toInt - 1) ∧ 1 ≤ (v_12 : Int32).toInt ∧ (v_12 : Int32).toInt ≤ 1024) from (pb_r hq_11 (by omega)))⟩ (Nat.le_of_ble_eq_true rfl) (Nat.le_of_ble_eq_true rfl) dX12_pairsBy_20
set_option maxHeartbeats 4000000 in
set_option maxRecDepth 100000 in
theorem s_findsPairsB (l : Launch) (D : va_G) (cI cJ : ClassId) (sz M : Nat) (mr : Nat → Nat) (mi : Nat → Int32) (mf : Nat → Nat → Int32) (mg : Nat → Nat → Int64)  (h0 : 0 ≤ (mi 6).toInt ∧ (mi 6).toInt ≤ 10) (x_wf : WFF (mi 6).toInt (mf 11)) : Met l yX12_findsPairs (Cond.code yX12_findsPairs cX12_findsPairs 5 none :: GW) ({ frames := 2, cells := 0, slots := 0, locals := 63 } : Room) (va_Pc [.ref M] (PW D cI cJ sz (MW cI cJ M mr mi mf mg) xT)) (va_Qv (fun (u : (Nat → Int32)) => (TBZ (FR (mi 6).toInt (mf 11)) u ((2 ^ (mi 6).toInt.toNat : Nat) : Int))) (fun u => QW D cI cJ (va_A (MW cI cJ M mr mi mf mg) sz) ((fun (u : (Nat → Int32)) => (MW cI cJ M mr mi (va_up mf 61 u) mg)) u)) (va_A (MW cI cJ M mr mi mf mg) sz)) 0 0 (va_A (MW cI cJ M mr mi mf mg) sz) := by
  refine mk_met (y := yX12_findsPairs) (bytes := cX12_findsPairs) (maxL := 5) (avs := [.ref M]) (WS := (MW cI cJ M mr mi mf mg)) (Qf := fun A => va_Qv (fun (u : (Nat → Int32)) => (TBZ (FR (mi 6).toInt (mf 11)) u ((2 ^ (mi 6).toInt.toNat : Nat) : Int))) (fun u => QW D cI cJ A ((fun (u : (Nat → Int32)) => (MW cI cJ M mr mi (va_up mf 61 u) mg)) u)) A) (by decide) (Nat.le_of_ble_eq_true rfl) ?_
  intro p e s m below meth c A ls E hr hlk hnm hX hw1 hl2
  have hl3 : lv_has ls 5 [(0, .ref M)] := hl2
  refine lv_aload_n (pc := 0) E.1 E.2.1 dX12_findsPairs_0 rfl (lv_at hl3 0 rfl) ?_
  refine x_get (pc := 1) (T := TX12) (N := 70) (ci := 12) (v := .ref (mr 61)) E hw1 inX12 0 61 q_1460 rfl rfl (by decide) rfl rfl dX12_findsPairs_1 ?_
  refine lv_iconst (pc := 4) (v := 0) E.1 E.2.1 dX12_findsPairs_4 (by decide +kernel) ?_
  refine lv_iconst (pc := 5) (v := 0) E.1 E.2.1 dX12_findsPairs_5 (by decide +kernel) ?_
  refine x_iastG (pc := 6) (f := (mf 61)) (wf := fun g => (MW cI cJ M mr mi (va_up mf 61 g) mg)) E hw1 33 rfl (inbE (a := 0) (n := 1024) (by decide +kernel) (by omega)) (fun _ => rfl) dX12_findsPairs_6 (fun g_4 H locs eg_4 hw5 => ?_)
  refine lv_iconst (pc := 7) (v := 1) E.1 E.2.1 dX12_findsPairs_7 (by decide +kernel) ?_
  refine lv_istore_n (pc := 8) (lv' := [(1, .int 1), (0, .ref M)]) E.1 E.2.1 dX12_findsPairs_8 rfl hl3 (by decide) rfl (fun ls hl6 => ?_)
  have loop_7 : ∀ (k : Nat) (x_8 : Int32) (g_9 : Nat → Int32) (H : Heap) (locs : List Loc) (ls : Array Slot), (1 ≤ x_8.toInt) ∧ (x_8.toInt ≤ 1024) ∧ (TBZ (FR (mi 6).toInt (mf 11)) g_9 x_8.toInt) → 1024 - x_8.toInt < (k : Int) → WD D A s.heap (MW cI cJ M mr mi (va_up mf 61 g_9) mg) H locs → lv_has ls 5 [(1, .int x_8), (0, .ref M)] → W p l e ({ frames := 2, cells := 0, slots := 0, locals := 63 } : Room) s m ([.ref M] : List Value).toArray below meth c H locs 0 0 (MQ below (va_Qv (fun (u : (Nat → Int32)) => (TBZ (FR (mi 6).toInt (mf 11)) u ((2 ^ (mi 6).toInt.toNat : Nat) : Int))) (fun u => QW D cI cJ A ((fun (u : (Nat → Int32)) => (MW cI cJ M mr mi (va_up mf 61 u) mg)) u)) A) ([.ref M] : List Value).toArray s 0 0 A) (F0 m 9 ls []) := by
    intro k
    induction k with
    | zero =>
      intro x_8 g_9 _ _ _ hinv hm
      obtain ⟨hi_9_0, hi_9_1, hi_9_2⟩ := hinv
      exact absurd hm (by omega)
    | succ k ih_10 =>
      intro x_8 g_9 H locs ls hinv hm hw11 hl12
      obtain ⟨hi_9_0, hi_9_1, hi_9_2⟩ := hinv
      refine lv_iload_n (pc := 9) E.1 E.2.1 dX12_findsPairs_9 rfl (lv_at hl12 0 rfl) ?_
      refine lv_iconst (pc := 10) (v := 1) E.1 E.2.1 dX12_findsPairs_10 (by decide +kernel) ?_
      refine lv_aload_n (pc := 11) E.1 E.2.1 dX12_findsPairs_11 rfl (lv_at hl12 1 rfl) ?_
      refine x_get (pc := 12) (T := TX12) (N := 70) (ci := 12) (v := .int (mi 6)) E hw11 inX12 0 6 q_1405 rfl rfl (by decide) rfl rfl dX12_findsPairs_12 ?_
      refine lv_ishl (pc := 15) E.1 E.2.1 dX12_findsPairs_15 ?_
      refine lv_topi (fun v_13 ev_13 => ?_)
      have hb1v_13 : 1 ≤ v_13.toInt ∧ v_13.toInt ≤ 1024 := by rw [ev_13]; exact shl10 (by omega)
      refine lv_icmp_ge (pc := 16) (tgt := 108) E.1 E.2.1 dX12_findsPairs_16 (by decide) (fun c_14 => ?_) (fun c_14 => ?_)
      · skip
        have hc_14 := leE (a := v_13.toInt) (b := x_8.toInt) rfl rfl c_14
        exact em_v (w1 := (fun (u : (Nat → Int32)) => (MW cI cJ M mr mi (va_up mf 61 u) mg))) E hr hlk g_9 hw11 (show TBZ (FR (mi 6).toInt (mf 11)) g_9 ((2 ^ (mi 6).toInt.toNat : Nat) : Int) from (p2_e hi_9_2 ev_13 rfl ⟨by omega, by omega⟩ (by omega))) (Nat.le_of_ble_eq_true rfl) (Nat.le_of_ble_eq_true rfl) dX12_findsPairs_108
      · skip
        have hc_14 := nleE (a := v_13.toInt) (b := x_8.toInt) rfl rfl c_14
        refine lv_aload_n (pc := 19) E.1 E.2.1 dX12_findsPairs_19 rfl (lv_at hl12 1 rfl) ?_
        refine lv_iload_n (pc := 20) E.1 E.2.1 dX12_findsPairs_20 rfl (lv_at hl12 0 rfl) ?_
        refine cm_i (pc := 21) hw11 (rn_M (As := [.int x_8]) (rest := []) E hw11 (s_lowestB l D cI cJ _ M mr mi (va_up mf 61 g_9) mg x_8 (by show 1 ≤ x_8.toInt ∧ x_8.toInt ≤ 1023; omega)) (gdV q_2030 q_2032 q_132 q_162 q_2033) hdV_X12_lowest ⟨rfl, rfl⟩ ⟨(Nat.le_of_ble_eq_true rfl), (Nat.le_of_ble_eq_true rfl)⟩ ⟨(Nat.le_of_ble_eq_true rfl), (Nat.le_of_ble_eq_true rfl)⟩ 12 rfl rfl rfl rfl hl12.1 rfl (Nat.le_of_ble_eq_true rfl) dX12_findsPairs_21) (fun r_16 u_15 H1 locs hp hw17 => ?_)
        generalize H1 = H at hw17 ⊢
        have hw18 : WD D A s.heap (MW cI cJ M mr mi (va_up mf 61 g_9) mg) H locs := hw17
        obtain ⟨hp_19, hp_20, hp_21⟩ := hp
        have hp_19 : 0 ≤ r_16.toInt := hp_19
        have hp_20 : r_16.toInt ≤ 9 := hp_20
        have hp_21 : LOW x_8.toInt.toNat (r_16 : Int32).toInt.toNat := hp_21
        have hq_22 := fq_h hp_21 ev_13 (n := (mi 6).toInt) rfl (by omega) ⟨by omega, by omega⟩ (by omega)
        refine lv_istore_n (pc := 24) (lv' := [(2, .int r_16), (1, .int x_8), (0, .ref M)]) E.1 E.2.1 dX12_findsPairs_24 rfl hl12 (by decide) rfl (fun ls hl23 => ?_)
        refine lv_aload_n (pc := 25) E.1 E.2.1 dX12_findsPairs_25 rfl (lv_at hl23 2 rfl) ?_
        refine x_get (pc := 26) (T := TX12) (N := 70) (ci := 12) (v := .ref (mr 61)) E hw18 inX12 0 61 q_1460 rfl rfl (by decide) rfl rfl dX12_findsPairs_26 ?_
        refine lv_iload_n (pc := 29) E.1 E.2.1 dX12_findsPairs_29 rfl (lv_at hl23 1 rfl) ?_
        refine lv_iload_n (pc := 30) E.1 E.2.1 dX12_findsPairs_30 rfl (lv_at hl23 1 rfl) ?_
        refine lv_iconst (pc := 31) (v := 1) E.1 E.2.1 dX12_findsPairs_31 (by decide +kernel) ?_
        refine lv_isub (pc := 32) E.1 E.2.1 dX12_findsPairs_32 ?_
        refine lv_topi (fun v_24 ev_24 => ?_)
        have hv_24 : v_24.toInt = x_8.toInt - 1 := by rw [ev_24]; exact subE rfl (by decide +kernel) (by omega)
        refine lv_iand (pc := 33) E.1 E.2.1 dX12_findsPairs_33 ?_
        refine lv_topi (fun v_25 ev_25 => ?_)
        have hb1v_25 : 0 ≤ v_25.toInt ∧ v_25.toInt ≤ x_8.toInt := by rw [ev_25]; exact and10 (by omega)
        have hb2v_25 : 0 ≤ v_25.toInt ∧ v_25.toInt ≤ v_24.toInt := by rw [ev_25]; exact and10r (by omega)
        refine x_iald (pc := 34) (f := g_9) E hw18 33 rfl (inbE (a := v_25.toInt) (n := 1024) rfl (by omega)) dX12_findsPairs_34 ?_
        refine lv_topi (fun v_26 ev_26 => ?_)
        refine lv_istore_n (pc := 35) (lv' := [(3, .int v_26), (2, .int r_16), (1, .int x_8), (0, .ref M)]) E.1 E.2.1 dX12_findsPairs_35 rfl hl23 (by decide) rfl (fun ls hl27 => ?_)
        refine lv_iload_n (pc := 36) E.1 E.2.1 dX12_findsPairs_36 rfl (lv_at hl27 1 rfl) ?_
        refine lv_iconst (pc := 37) (v := 1) E.1 E.2.1 dX12_findsPairs_37 (by decide +kernel) ?_
        refine lv_iadd (pc := 38) E.1 E.2.1 dX12_findsPairs_38 ?_
        refine lv_topi (fun v_28 ev_28 => ?_)
        have hv_28 : v_28.toInt = r_16.toInt + 1 := by rw [ev_28]; exact addE rfl (by decide +kernel) (by omega)
        refine lv_istore (pc := 39) (lv' := [(4, .int v_28), (3, .int v_26), (2, .int r_16), (1, .int x_8), (0, .ref M)]) E.1 E.2.1 dX12_findsPairs_39 hl27 (by decide) rfl (fun ls hl29 => ?_)
        have loop_30 : ∀ (k : Nat) (x_31 : Int32) (x_32 : Int32) (H : Heap) (locs : List Loc) (ls : Array Slot), (0 ≤ x_31.toInt) ∧ (x_31.toInt ≤ 10) ∧ (r_16.toInt + 1 ≤ x_31.toInt) ∧ (ML (FR (mi 6).toInt (mf 11)) x_8.toInt.toNat r_16.toInt.toNat x_31.toInt x_32.toInt) → 10 - x_31.toInt < (k : Int) → WD D A s.heap (MW cI cJ M mr mi (va_up mf 61 g_9) mg) H locs → lv_has ls 5 [(4, .int x_31), (3, .int x_32), (2, .int r_16), (1, .int x_8), (0, .ref M)] → W p l e ({ frames := 2, cells := 0, slots := 0, locals := 63 } : Room) s m ([.ref M] : List Value).toArray below meth c H locs 0 0 (MQ below (va_Qv (fun (u : (Nat → Int32)) => (TBZ (FR (mi 6).toInt (mf 11)) u ((2 ^ (mi 6).toInt.toNat : Nat) : Int))) (fun u => QW D cI cJ A ((fun (u : (Nat → Int32)) => (MW cI cJ M mr mi (va_up mf 61 u) mg)) u)) A) ([.ref M] : List Value).toArray s 0 0 A) (F0 m 41 ls []) := by
          intro k
          induction k with
          | zero =>
            intro x_31 x_32 _ _ _ hinv hm
            obtain ⟨hi_32_0, hi_32_1, hi_32_2, hi_32_3⟩ := hinv
            exact absurd hm (by omega)
          | succ k ih_33 =>
            intro x_31 x_32 H locs ls hinv hm hw34 hl35
            obtain ⟨hi_32_0, hi_32_1, hi_32_2, hi_32_3⟩ := hinv
            refine lv_iload (pc := 41) E.1 E.2.1 dX12_findsPairs_41 (lv_at hl35 0 rfl) ?_
            refine lv_aload_n (pc := 43) E.1 E.2.1 dX12_findsPairs_43 rfl (lv_at hl35 4 rfl) ?_
            refine x_get (pc := 44) (T := TX12) (N := 70) (ci := 12) (v := .int (mi 6)) E hw34 inX12 0 6 q_1405 rfl rfl (by decide) rfl rfl dX12_findsPairs_44 ?_
            refine lv_icmp_ge (pc := 47) (tgt := 95) E.1 E.2.1 dX12_findsPairs_47 (by decide) (fun c_36 => ?_) (fun c_36 => ?_)
            · skip
              have hc_36 := leE (a := (mi 6).toInt) (b := x_31.toInt) rfl rfl c_36
              refine lv_aload_n (pc := 95) E.1 E.2.1 dX12_findsPairs_95 rfl (lv_at hl35 4 rfl) ?_
              refine x_get (pc := 96) (T := TX12) (N := 70) (ci := 12) (v := .ref (mr 61)) E hw34 inX12 0 61 q_1460 rfl rfl (by decide) rfl rfl dX12_findsPairs_96 ?_
              refine lv_iload_n (pc := 99) E.1 E.2.1 dX12_findsPairs_99 rfl (lv_at hl35 3 rfl) ?_
              refine lv_iload_n (pc := 100) E.1 E.2.1 dX12_findsPairs_100 rfl (lv_at hl35 1 rfl) ?_
              refine x_iastG (pc := 101) (f := g_9) (wf := fun g => (MW cI cJ M mr mi (va_up mf 61 g) mg)) E hw34 33 rfl (inbE (a := x_8.toInt) (n := 1024) rfl (by omega)) (fun _ => rfl) dX12_findsPairs_101 (fun g_37 H locs eg_37 hw38 => ?_)
              obtain ⟨v_39, ev_39⟩ : ∃ z : Int32, x_8 + Int32.ofInt (1) = z := ⟨_, rfl⟩
              have hv_39 : v_39.toInt = x_8.toInt + (1) := by rw [← ev_39]; exact incE rfl (by decide) (by omega)
              refine lv_iinc (pc := 102) (v := v_39) (lv' := [(1, .int v_39), (4, .int x_31), (3, .int x_32), (2, .int r_16), (0, .ref M)]) E.1 E.2.1 dX12_findsPairs_102 hl35 (k := 3) rfl ev_39 (by decide) rfl (fun ls hl40 => ?_)
              refine lv_goto (pc := 105) (tgt := 9) E.1 E.2.1 dX12_findsPairs_105 (by decide) ?_
              exact ih_10 v_39 g_37 _ _ _ ⟨(by show 1 ≤ v_39.toInt; omega), (by show v_39.toInt ≤ 1024; omega), (TBZ_st hi_9_2 eg_37 (by omega) (fq_e x_wf hi_32_3 ⟨by omega, by omega⟩ (by omega) ev_13 rfl ⟨by omega, by omega⟩) (by omega))⟩ (by omega) hw38 (lv_sub hl40 [0, 4] rfl)
            · skip
              have hc_36 := nleE (a := (mi 6).toInt) (b := x_31.toInt) rfl rfl c_36
              refine lv_iload_n (pc := 50) E.1 E.2.1 dX12_findsPairs_50 rfl (lv_at hl35 3 rfl) ?_
              refine lv_iload (pc := 51) E.1 E.2.1 dX12_findsPairs_51 (lv_at hl35 0 rfl) ?_
              refine lv_ishr (pc := 53) E.1 E.2.1 dX12_findsPairs_53 ?_
              refine lv_topi (fun v_41 ev_41 => ?_)
              refine lv_iconst (pc := 54) (v := 1) E.1 E.2.1 dX12_findsPairs_54 (by decide +kernel) ?_
              refine lv_iand (pc := 55) E.1 E.2.1 dX12_findsPairs_55 ?_
              refine lv_topi (fun v_42 ev_42 => ?_)
              refine lv_iconst (pc := 56) (v := 1) E.1 E.2.1 dX12_findsPairs_56 (by decide +kernel) ?_
              refine lv_icmp_ne (pc := 57) (tgt := 89) E.1 E.2.1 dX12_findsPairs_57 (by decide) (fun c_43 => ?_) (fun c_43 => ?_)
              · skip
                have hc_43 := neE (a := v_42.toInt) (b := 1) rfl (by decide +kernel) c_43
                obtain ⟨v_44, ev_44⟩ : ∃ z : Int32, x_31 + Int32.ofInt (1) = z := ⟨_, rfl⟩
                have hv_44 : v_44.toInt = x_31.toInt + (1) := by rw [← ev_44]; exact incE rfl (by decide) (by omega)
                refine lv_iinc (pc := 89) (v := v_44) (lv' := [(4, .int v_44), (3, .int x_32), (2, .int r_16), (1, .int x_8), (0, .ref M)]) E.1 E.2.1 dX12_findsPairs_89 hl35 (k := 0) rfl ev_44 (by decide) rfl (fun ls hl45 => ?_)
                refine lv_goto (pc := 92) (tgt := 41) E.1 E.2.1 dX12_findsPairs_92 (by decide) ?_
                exact ih_33 v_44 x_32 _ _ _ ⟨(by show 0 ≤ v_44.toInt; omega), (by show v_44.toInt ≤ 10; omega), (by show r_16.toInt + 1 ≤ v_44.toInt; omega), (fq_n1 hi_32_3 ev_41 ev_42 ⟨by omega, by omega⟩ ⟨by omega, by omega⟩ (by omega) (by omega))⟩ (by omega) hw34 (lv_sub hl45 [0, 1, 2, 3, 4] rfl)
              · skip
                have hc_43 := eqE (a := v_42.toInt) (b := 1) rfl (by decide +kernel) c_43
                refine lv_aload_n (pc := 60) E.1 E.2.1 dX12_findsPairs_60 rfl (lv_at hl35 4 rfl) ?_
                refine x_get (pc := 61) (T := TX12) (N := 70) (ci := 12) (v := .ref (mr 11)) E hw34 inX12 0 11 q_1410 rfl rfl (by decide) rfl rfl dX12_findsPairs_61 ?_
                refine lv_iload_n (pc := 64) E.1 E.2.1 dX12_findsPairs_64 rfl (lv_at hl35 2 rfl) ?_
                refine x_iald (pc := 65) (f := (mf 11)) E hw34 8 rfl (inbE (a := r_16.toInt) (n := 10) rfl (by omega)) dX12_findsPairs_65 ?_
                refine lv_topi (fun v_46 ev_46 => ?_)
                refine lv_iload (pc := 66) E.1 E.2.1 dX12_findsPairs_66 (lv_at hl35 0 rfl) ?_
                refine lv_ishr (pc := 68) E.1 E.2.1 dX12_findsPairs_68 ?_
                refine lv_topi (fun v_47 ev_47 => ?_)
                refine lv_iconst (pc := 69) (v := 1) E.1 E.2.1 dX12_findsPairs_69 (by decide +kernel) ?_
                refine lv_iand (pc := 70) E.1 E.2.1 dX12_findsPairs_70 ?_
                refine lv_topi (fun v_48 ev_48 => ?_)
                refine lv_iconst (pc := 71) (v := 1) E.1 E.2.1 dX12_findsPairs_71 (by decide +kernel) ?_
                have hq_49 := fq_f x_wf ev_46 ev_47 ev_48 ⟨by omega, by omega⟩ (by omega) ⟨by omega, by omega⟩
                refine lv_icmp_ne (pc := 72) (tgt := 89) E.1 E.2.1 dX12_findsPairs_72 (by decide) (fun c_50 => ?_) (fun c_50 => ?_)
                · skip
                  have hc_50 := neE (a := v_48.toInt) (b := 1) rfl (by decide +kernel) c_50
                  obtain ⟨v_51, ev_51⟩ : ∃ z : Int32, x_31 + Int32.ofInt (1) = z := ⟨_, rfl⟩
                  have hv_51 : v_51.toInt = x_31.toInt + (1) := by rw [← ev_51]; exact incE rfl (by decide) (by omega)
                  refine lv_iinc (pc := 89) (v := v_51) (lv' := [(4, .int v_51), (3, .int x_32), (2, .int r_16), (1, .int x_8), (0, .ref M)]) E.1 E.2.1 dX12_findsPairs_89 hl35 (k := 0) rfl ev_51 (by decide) rfl (fun ls hl52 => ?_)
                  refine lv_goto (pc := 92) (tgt := 41) E.1 E.2.1 dX12_findsPairs_92 (by decide) ?_
                  exact ih_33 v_51 x_32 _ _ _ ⟨(by show 0 ≤ v_51.toInt; omega), (by show v_51.toInt ≤ 10; omega), (by show r_16.toInt + 1 ≤ v_51.toInt; omega), (fq_n2 hi_32_3 hq_49 (by omega) (by omega) (by omega))⟩ (by omega) hw34 (lv_sub hl52 [0, 1, 2, 3, 4] rfl)
                · skip
                  have hc_50 := eqE (a := v_48.toInt) (b := 1) rfl (by decide +kernel) c_50
                  refine lv_aload_n (pc := 75) E.1 E.2.1 dX12_findsPairs_75 rfl (lv_at hl35 4 rfl) ?_
                  refine lv_iload_n (pc := 76) E.1 E.2.1 dX12_findsPairs_76 rfl (lv_at hl35 1 rfl) ?_
                  refine lv_aload_n (pc := 77) E.1 E.2.1 dX12_findsPairs_77 rfl (lv_at hl35 4 rfl) ?_
                  refine lv_iload_n (pc := 78) E.1 E.2.1 dX12_findsPairs_78 rfl (lv_at hl35 3 rfl) ?_
                  refine lv_iload_n (pc := 79) E.1 E.2.1 dX12_findsPairs_79 rfl (lv_at hl35 2 rfl) ?_
                  refine lv_iload (pc := 80) E.1 E.2.1 dX12_findsPairs_80 (lv_at hl35 0 rfl) ?_
                  refine cm_i (pc := 82) hw34 (rn_M (As := [.int x_8, .int r_16, .int x_31]) (rest := [.int x_32, .ref M]) E hw34 (s_pairsByB l D cI cJ _ M mr mi (va_up mf 61 g_9) mg x_8 r_16 x_31 (by show 1 ≤ x_8.toInt ∧ x_8.toInt ≤ 1023; omega) ⟨hp_19, hp_20⟩ (by show 0 ≤ x_31.toInt ∧ x_31.toInt ≤ 9; omega) (show TBZ (FR (mi 6).toInt (mf 11)) g_9 (x_8.toInt) from hi_9_2) (show x_8.toInt.toNat.testBit r_16.toInt.toNat = true from hp_21.1)) (gdV q_2034 q_2036 q_133 q_162 q_2037) hdV_X12_pairsBy ⟨rfl, rfl⟩ ⟨(Nat.le_of_ble_eq_true rfl), (Nat.le_of_ble_eq_true rfl)⟩ ⟨(Nat.le_of_ble_eq_true rfl), (Nat.le_of_ble_eq_true rfl)⟩ 12 rfl rfl rfl rfl hl35.1 rfl (Nat.le_of_ble_eq_true rfl) dX12_findsPairs_82) (fun r_54 u_53 H1 locs hp hw55 => ?_)
                  generalize H1 = H at hw55 ⊢
                  have hw56 : WD D A s.heap (MW cI cJ M mr mi (va_up mf 61 g_9) mg) H locs := hw55
                  obtain ⟨hp_57, hp_58, hp_59⟩ := hp
                  have hp_57 : 1 ≤ r_54.toInt := hp_57
                  have hp_58 : r_54.toInt ≤ 1024 := hp_58
                  have hp_59 : (MXI (FR (mi 6).toInt (mf 11)) (clr (clr x_8.toInt.toNat r_16.toInt.toNat) x_31.toInt.toNat) ((r_54 : Int32).toInt - 1) ∧ 1 ≤ (r_54 : Int32).toInt ∧ (r_54 : Int32).toInt ≤ 1024) := hp_59
                  refine cm_i (pc := 85) hw56 (rn_M (As := [.int x_32, .int r_54]) (rest := []) E hw56 (s_greaterB l D cI cJ _ M mr mi (va_up mf 61 g_9) mg x_32 r_54) (gdV q_2038 q_2040 q_134 q_162 q_2041) hdV_X12_greater ⟨rfl, rfl⟩ ⟨(Nat.le_of_ble_eq_true rfl), (Nat.le_of_ble_eq_true rfl)⟩ ⟨(Nat.le_of_ble_eq_true rfl), (Nat.le_of_ble_eq_true rfl)⟩ 12 rfl rfl rfl rfl hl35.1 rfl (Nat.le_of_ble_eq_true rfl) dX12_findsPairs_85) (fun r_61 u_60 H1 locs hp hw62 => ?_)
                  generalize H1 = H at hw62 ⊢
                  have hw63 : WD D A s.heap (MW cI cJ M mr mi (va_up mf 61 g_9) mg) H locs := hw62
                  have hp_64 := hp
                  rcases hp_64 with ⟨ha_65, ha_66⟩ | ⟨ha_67, ha_68⟩
                  · skip
                    have ha_65 : r_61.toInt = x_32.toInt := ha_65
                    have ha_66 : r_54.toInt ≤ x_32.toInt := ha_66
                    refine lv_istore_n (pc := 88) (lv' := [(3, .int r_61), (4, .int x_31), (2, .int r_16), (1, .int x_8), (0, .ref M)]) E.1 E.2.1 dX12_findsPairs_88 rfl hl35 (by decide) rfl (fun ls hl69 => ?_)
                    obtain ⟨v_70, ev_70⟩ : ∃ z : Int32, x_31 + Int32.ofInt (1) = z := ⟨_, rfl⟩
                    have hv_70 : v_70.toInt = x_31.toInt + (1) := by rw [← ev_70]; exact incE rfl (by decide) (by omega)
                    refine lv_iinc (pc := 89) (v := v_70) (lv' := [(4, .int v_70), (3, .int r_61), (2, .int r_16), (1, .int x_8), (0, .ref M)]) E.1 E.2.1 dX12_findsPairs_89 hl69 (k := 1) rfl ev_70 (by decide) rfl (fun ls hl71 => ?_)
                    refine lv_goto (pc := 92) (tgt := 41) E.1 E.2.1 dX12_findsPairs_92 (by decide) ?_
                    exact ih_33 v_70 r_61 _ _ _ ⟨(by show 0 ≤ v_70.toInt; omega), (by show v_70.toInt ≤ 10; omega), (by show r_16.toInt + 1 ≤ v_70.toInt; omega), (fq_y hi_32_3 hp_21 ev_41 ev_42 ⟨by omega, by omega⟩ ⟨by omega, by omega⟩ (by omega) (by omega) (by omega) hq_49 (by omega) hp_59.1 (by omega) (by omega))⟩ (by omega) hw63 (lv_sub hl71 [0, 1, 2, 3, 4] rfl)
                  · skip
                    have ha_67 : r_61.toInt = r_54.toInt := ha_67
                    have ha_68 : x_32.toInt ≤ r_54.toInt := ha_68
                    refine lv_istore_n (pc := 88) (lv' := [(3, .int r_61), (4, .int x_31), (2, .int r_16), (1, .int x_8), (0, .ref M)]) E.1 E.2.1 dX12_findsPairs_88 rfl hl35 (by decide) rfl (fun ls hl72 => ?_)
                    obtain ⟨v_73, ev_73⟩ : ∃ z : Int32, x_31 + Int32.ofInt (1) = z := ⟨_, rfl⟩
                    have hv_73 : v_73.toInt = x_31.toInt + (1) := by rw [← ev_73]; exact incE rfl (by decide) (by omega)
                    refine lv_iinc (pc := 89) (v := v_73) (lv' := [(4, .int v_73), (3, .int r_61), (2, .int r_16), (1, .int x_8), (0, .ref M)]) E.1 E.2.1 dX12_findsPairs_89 hl72 (k := 1) rfl ev_73 (by decide) rfl (fun ls hl74 => ?_)
                    refine lv_goto (pc := 92) (tgt := 41) E.1 E.2.1 dX12_findsPairs_92 (by decide) ?_
                    exact ih_33 v_73 r_61 _ _ _ ⟨(by show 0 ≤ v_73.toInt; omega), (by show v_73.toInt ≤ 10; omega), (by show r_16.toInt + 1 ≤ v_73.toInt; omega), (fq_y hi_32_3 hp_21 ev_41 ev_42 ⟨by omega, by omega⟩ ⟨by omega, by omega⟩ (by omega) (by omega) (by omega) hq_49 (by omega) hp_59.1 (by omega) (by omega))⟩ (by omega) hw63 (lv_sub hl74 [0, 1, 2, 3, 4] rfl)
        exact loop_30 (Int.toNat (10 - v_28.toInt) + 1) v_28 v_26 _ _ _ ⟨(by show 0 ≤ v_28.toInt; omega), (by show v_28.toInt ≤ 10; omega), (by show r_16.toInt + 1 ≤ v_28.toInt; omega), (fq_i hi_9_2 (by omega) ev_25 ev_26 hp_21 ⟨by omega, by omega⟩ ⟨by omega, by omega⟩ (by omega))⟩ (by omega) hw18 (lv_sub hl29 [0, 1, 2, 3, 4] rfl)
  exact loop_7 (Int.toNat (1024 - 1) + 1) 1 g_4 _ _ _ ⟨(by show 1 ≤ (1 : Int32).toInt; have k_0 : (1 : Int32).toInt = 1 := (by decide +kernel); omega), (by show (1 : Int32).toInt ≤ 1024; have k_0 : (1 : Int32).toInt = 1 := (by decide +kernel); omega), (TBZ_0 eg_4 (by decide +kernel) (by decide +kernel) (by decide +kernel))⟩ (by have k_0 : (1 : Int32).toInt = 1 := (by decide +kernel); omega) hw5 (lv_sub hl6 [0, 1] rfl)
set_option maxHeartbeats 4000000 in
set_option maxRecDepth 100000 in
theorem s_mateOfB (l : Launch) (D : va_G) (cI cJ : ClassId) (sz M : Nat) (mr : Nat → Nat) (mi : Nat → Int32) (mf : Nat → Nat → Int32) (mg : Nat → Nat → Int64) (z_set : Int32) (h0 : 0 ≤ (mi 6).toInt ∧ (mi 6).toInt ≤ 10) (h1 : 1 ≤ z_set.toInt ∧ z_set.toInt ≤ 1023) (x_wf : WFF (mi 6).toInt (mf 11)) (x_tb : TBZ (FR (mi 6).toInt (mf 11)) (mf 61) (((2 ^ (mi 6).toInt.toNat : Nat) : Int))) (x_ls : z_set.toInt.toNat < 2 ^ (mi 6).toInt.toNat) : Met l yX12_mateOf (Cond.code yX12_mateOf cX12_mateOf 4 (some .int) :: GW) ({ frames := 2, cells := 0, slots := 0, locals := 63 } : Room) (va_Pc [.ref M, .int z_set] (PW D cI cJ sz (MW cI cJ M mr mi mf mg) xT)) (va_Qi (fun (r : Int32) (u : Unit) => ((-1) ≤ r.toInt) ∧ (r.toInt ≤ 9) ∧ ((∀ hh : Nat, LOW z_set.toInt.toNat hh → (r : Int32).toInt = fpN (FR (mi 6).toInt (mf 11)) z_set.toInt.toNat hh (mi 6).toInt.toNat))) (fun u => QW D cI cJ (va_A (MW cI cJ M mr mi mf mg) sz) ((fun (u : Unit) => (MW cI cJ M mr mi mf mg)) u)) (va_A (MW cI cJ M mr mi mf mg) sz)) 0 0 (va_A (MW cI cJ M mr mi mf mg) sz) := by
  refine mk_met (y := yX12_mateOf) (bytes := cX12_mateOf) (maxL := 4) (avs := [.ref M, .int z_set]) (WS := (MW cI cJ M mr mi mf mg)) (Qf := fun A => va_Qi (fun (r : Int32) (u : Unit) => ((-1) ≤ r.toInt) ∧ (r.toInt ≤ 9) ∧ ((∀ hh : Nat, LOW z_set.toInt.toNat hh → (r : Int32).toInt = fpN (FR (mi 6).toInt (mf 11)) z_set.toInt.toNat hh (mi 6).toInt.toNat))) (fun u => QW D cI cJ A ((fun (u : Unit) => (MW cI cJ M mr mi mf mg)) u)) A) (by decide) (Nat.le_of_ble_eq_true rfl) ?_
  intro p e s m below meth c A ls E hr hlk hnm hX hw1 hl2
  have hl3 : lv_has ls 4 [(0, .ref M), (1, .int z_set)] := hl2
  refine lv_aload_n (pc := 0) E.1 E.2.1 dX12_mateOf_0 rfl (lv_at hl3 0 rfl) ?_
  refine lv_iload_n (pc := 1) E.1 E.2.1 dX12_mateOf_1 rfl (lv_at hl3 1 rfl) ?_
  refine cm_i (pc := 2) hw1 (rn_M (As := [.int z_set]) (rest := []) E hw1 (s_lowestB l D cI cJ _ M mr mi mf mg z_set h1) (gdV q_2030 q_2032 q_132 q_162 q_2033) hdV_X12_lowest ⟨rfl, rfl⟩ ⟨(Nat.le_of_ble_eq_true rfl), (Nat.le_of_ble_eq_true rfl)⟩ ⟨(Nat.le_of_ble_eq_true rfl), (Nat.le_of_ble_eq_true rfl)⟩ 12 rfl rfl rfl rfl hl3.1 rfl (Nat.le_of_ble_eq_true rfl) dX12_mateOf_2) (fun r_5 u_4 H1 locs hp hw6 => ?_)
  generalize H1 = H at hw6 ⊢
  have hw7 : WD D A s.heap (MW cI cJ M mr mi mf mg) H locs := hw6
  obtain ⟨hp_8, hp_9, hp_10⟩ := hp
  have hp_8 : 0 ≤ r_5.toInt := hp_8
  have hp_9 : r_5.toInt ≤ 9 := hp_9
  have hp_10 : LOW z_set.toInt.toNat (r_5 : Int32).toInt.toNat := hp_10
  have hq_11 := mt_h hp_10 x_ls (by omega)
  refine lv_istore_n (pc := 5) (lv' := [(2, .int r_5), (0, .ref M), (1, .int z_set)]) E.1 E.2.1 dX12_mateOf_5 rfl hl3 (by decide) rfl (fun ls hl12 => ?_)
  refine lv_iload_n (pc := 6) E.1 E.2.1 dX12_mateOf_6 rfl (lv_at hl12 0 rfl) ?_
  refine lv_iconst (pc := 7) (v := 1) E.1 E.2.1 dX12_mateOf_7 (by decide +kernel) ?_
  refine lv_iadd (pc := 8) E.1 E.2.1 dX12_mateOf_8 ?_
  refine lv_topi (fun v_13 ev_13 => ?_)
  have hv_13 : v_13.toInt = r_5.toInt + 1 := by rw [ev_13]; exact addE rfl (by decide +kernel) (by omega)
  refine lv_istore_n (pc := 9) (lv' := [(3, .int v_13), (2, .int r_5), (0, .ref M), (1, .int z_set)]) E.1 E.2.1 dX12_mateOf_9 rfl hl12 (by decide) rfl (fun ls hl14 => ?_)
  have loop_15 : ∀ (k : Nat) (x_16 : Int32) (H : Heap) (locs : List Loc) (ls : Array Slot), (0 ≤ x_16.toInt) ∧ (x_16.toInt ≤ 10) ∧ (r_5.toInt + 1 ≤ x_16.toInt) ∧ (∀ j : Nat, (j : Int) < x_16.toInt → ¬ fpc (FR (mi 6).toInt (mf 11)) z_set.toInt.toNat r_5.toInt.toNat j) → 10 - x_16.toInt < (k : Int) → WD D A s.heap (MW cI cJ M mr mi mf mg) H locs → lv_has ls 4 [(3, .int x_16), (2, .int r_5), (0, .ref M), (1, .int z_set)] → W p l e ({ frames := 2, cells := 0, slots := 0, locals := 63 } : Room) s m ([.ref M, .int z_set] : List Value).toArray below meth c H locs 0 0 (MQ below (va_Qi (fun (r : Int32) (u : Unit) => ((-1) ≤ r.toInt) ∧ (r.toInt ≤ 9) ∧ ((∀ hh : Nat, LOW z_set.toInt.toNat hh → (r : Int32).toInt = fpN (FR (mi 6).toInt (mf 11)) z_set.toInt.toNat hh (mi 6).toInt.toNat))) (fun u => QW D cI cJ A ((fun (u : Unit) => (MW cI cJ M mr mi mf mg)) u)) A) ([.ref M, .int z_set] : List Value).toArray s 0 0 A) (F0 m 10 ls []) := by
    intro k
    induction k with
    | zero =>
      intro x_16 _ _ _ hinv hm
      obtain ⟨hi_16_0, hi_16_1, hi_16_2, hi_16_3⟩ := hinv
      exact absurd hm (by omega)
    | succ k ih_17 =>
      intro x_16 H locs ls hinv hm hw18 hl19
      obtain ⟨hi_16_0, hi_16_1, hi_16_2, hi_16_3⟩ := hinv
      refine lv_iload_n (pc := 10) E.1 E.2.1 dX12_mateOf_10 rfl (lv_at hl19 0 rfl) ?_
      refine lv_aload_n (pc := 11) E.1 E.2.1 dX12_mateOf_11 rfl (lv_at hl19 2 rfl) ?_
      refine x_get (pc := 12) (T := TX12) (N := 70) (ci := 12) (v := .int (mi 6)) E hw18 inX12 0 6 q_1405 rfl rfl (by decide) rfl rfl dX12_mateOf_12 ?_
      refine lv_icmp_ge (pc := 15) (tgt := 65) E.1 E.2.1 dX12_mateOf_15 (by decide) (fun c_20 => ?_) (fun c_20 => ?_)
      · skip
        have hc_20 := leE (a := (mi 6).toInt) (b := x_16.toInt) rfl rfl c_20
        refine lv_iconst (pc := 65) (v := (-1)) E.1 E.2.1 dX12_mateOf_65 (by decide +kernel) ?_
        exact em_i (w1 := (fun (u : Unit) => (MW cI cJ M mr mi mf mg))) E hr hlk () hw18 ⟨(by show (-1) ≤ ((-1) : Int32).toInt; have k_0 : ((-1) : Int32).toInt = -1 := (by decide +kernel); omega), (by show ((-1) : Int32).toInt ≤ 9; have k_0 : ((-1) : Int32).toInt = -1 := (by decide +kernel); omega), (show (∀ hh : Nat, LOW z_set.toInt.toNat hh → ((-1) : Int32).toInt = fpN (FR (mi 6).toInt (mf 11)) z_set.toInt.toNat hh (mi 6).toInt.toNat) from (fun hh lh => by rw [LOW_u lh hp_10]; exact fp_z hi_16_3 (by omega) (by decide +kernel)))⟩ (Nat.le_of_ble_eq_true rfl) (Nat.le_of_ble_eq_true rfl) dX12_mateOf_66
      · skip
        have hc_20 := nleE (a := (mi 6).toInt) (b := x_16.toInt) rfl rfl c_20
        refine lv_iload_n (pc := 18) E.1 E.2.1 dX12_mateOf_18 rfl (lv_at hl19 3 rfl) ?_
        refine lv_iload_n (pc := 19) E.1 E.2.1 dX12_mateOf_19 rfl (lv_at hl19 0 rfl) ?_
        refine lv_ishr (pc := 20) E.1 E.2.1 dX12_mateOf_20 ?_
        refine lv_topi (fun v_21 ev_21 => ?_)
        refine lv_iconst (pc := 21) (v := 1) E.1 E.2.1 dX12_mateOf_21 (by decide +kernel) ?_
        refine lv_iand (pc := 22) E.1 E.2.1 dX12_mateOf_22 ?_
        refine lv_topi (fun v_22 ev_22 => ?_)
        refine lv_iconst (pc := 23) (v := 1) E.1 E.2.1 dX12_mateOf_23 (by decide +kernel) ?_
        refine lv_icmp_ne (pc := 24) (tgt := 59) E.1 E.2.1 dX12_mateOf_24 (by decide) (fun c_23 => ?_) (fun c_23 => ?_)
        · skip
          have hc_23 := neE (a := v_22.toInt) (b := 1) rfl (by decide +kernel) c_23
          obtain ⟨v_24, ev_24⟩ : ∃ z : Int32, x_16 + Int32.ofInt (1) = z := ⟨_, rfl⟩
          have hv_24 : v_24.toInt = x_16.toInt + (1) := by rw [← ev_24]; exact incE rfl (by decide) (by omega)
          refine lv_iinc (pc := 59) (v := v_24) (lv' := [(3, .int v_24), (2, .int r_5), (0, .ref M), (1, .int z_set)]) E.1 E.2.1 dX12_mateOf_59 hl19 (k := 0) rfl ev_24 (by decide) rfl (fun ls hl25 => ?_)
          refine lv_goto (pc := 62) (tgt := 10) E.1 E.2.1 dX12_mateOf_62 (by decide) ?_
          exact ih_17 v_24 _ _ _ ⟨(by show 0 ≤ v_24.toInt; omega), (by show v_24.toInt ≤ 10; omega), (by show r_5.toInt + 1 ≤ v_24.toInt; omega), (fp_s hi_16_3 (by omega) (by omega) (mt_n1 ev_21 ev_22 ⟨by omega, by omega⟩ ⟨by omega, by omega⟩ (by omega)))⟩ (by omega) hw18 (lv_sub hl25 [0, 1, 2, 3] rfl)
        · skip
          have hc_23 := eqE (a := v_22.toInt) (b := 1) rfl (by decide +kernel) c_23
          refine lv_aload_n (pc := 27) E.1 E.2.1 dX12_mateOf_27 rfl (lv_at hl19 2 rfl) ?_
          refine x_get (pc := 28) (T := TX12) (N := 70) (ci := 12) (v := .ref (mr 11)) E hw18 inX12 0 11 q_1410 rfl rfl (by decide) rfl rfl dX12_mateOf_28 ?_
          refine lv_iload_n (pc := 31) E.1 E.2.1 dX12_mateOf_31 rfl (lv_at hl19 1 rfl) ?_
          refine x_iald (pc := 32) (f := (mf 11)) E hw18 8 rfl (inbE (a := r_5.toInt) (n := 10) rfl (by omega)) dX12_mateOf_32 ?_
          refine lv_topi (fun v_26 ev_26 => ?_)
          refine lv_iload_n (pc := 33) E.1 E.2.1 dX12_mateOf_33 rfl (lv_at hl19 0 rfl) ?_
          refine lv_ishr (pc := 34) E.1 E.2.1 dX12_mateOf_34 ?_
          refine lv_topi (fun v_27 ev_27 => ?_)
          refine lv_iconst (pc := 35) (v := 1) E.1 E.2.1 dX12_mateOf_35 (by decide +kernel) ?_
          refine lv_iand (pc := 36) E.1 E.2.1 dX12_mateOf_36 ?_
          refine lv_topi (fun v_28 ev_28 => ?_)
          have hq_29 := fq_f x_wf ev_26 ev_27 ev_28 ⟨by omega, by omega⟩ (by omega) ⟨by omega, by omega⟩
          refine lv_iconst (pc := 37) (v := 1) E.1 E.2.1 dX12_mateOf_37 (by decide +kernel) ?_
          refine lv_icmp_ne (pc := 38) (tgt := 59) E.1 E.2.1 dX12_mateOf_38 (by decide) (fun c_30 => ?_) (fun c_30 => ?_)
          · skip
            have hc_30 := neE (a := v_28.toInt) (b := 1) rfl (by decide +kernel) c_30
            obtain ⟨v_31, ev_31⟩ : ∃ z : Int32, x_16 + Int32.ofInt (1) = z := ⟨_, rfl⟩
            have hv_31 : v_31.toInt = x_16.toInt + (1) := by rw [← ev_31]; exact incE rfl (by decide) (by omega)
            refine lv_iinc (pc := 59) (v := v_31) (lv' := [(3, .int v_31), (2, .int r_5), (0, .ref M), (1, .int z_set)]) E.1 E.2.1 dX12_mateOf_59 hl19 (k := 0) rfl ev_31 (by decide) rfl (fun ls hl32 => ?_)
            refine lv_goto (pc := 62) (tgt := 10) E.1 E.2.1 dX12_mateOf_62 (by decide) ?_
            exact ih_17 v_31 _ _ _ ⟨(by show 0 ≤ v_31.toInt; omega), (by show v_31.toInt ≤ 10; omega), (by show r_5.toInt + 1 ≤ v_31.toInt; omega), (fp_s hi_16_3 (by omega) (by omega) (mt_n2 hq_29 (by omega)))⟩ (by omega) hw18 (lv_sub hl32 [0, 1, 2, 3] rfl)
          · skip
            have hc_30 := eqE (a := v_28.toInt) (b := 1) rfl (by decide +kernel) c_30
            refine lv_aload_n (pc := 41) E.1 E.2.1 dX12_mateOf_41 rfl (lv_at hl19 2 rfl) ?_
            refine lv_iload_n (pc := 42) E.1 E.2.1 dX12_mateOf_42 rfl (lv_at hl19 3 rfl) ?_
            refine lv_iload_n (pc := 43) E.1 E.2.1 dX12_mateOf_43 rfl (lv_at hl19 1 rfl) ?_
            refine lv_iload_n (pc := 44) E.1 E.2.1 dX12_mateOf_44 rfl (lv_at hl19 0 rfl) ?_
            refine cm_i (pc := 45) hw18 (rn_M (As := [.int z_set, .int r_5, .int x_16]) (rest := []) E hw18 (s_pairsByB l D cI cJ _ M mr mi mf mg z_set r_5 x_16 h1 ⟨hp_8, hp_9⟩ (by show 0 ≤ x_16.toInt ∧ x_16.toInt ≤ 9; omega) (show TBZ (FR (mi 6).toInt (mf 11)) (mf 61) (z_set.toInt) from (TBZ_le x_tb (by omega))) (show z_set.toInt.toNat.testBit r_5.toInt.toNat = true from hp_10.1)) (gdV q_2034 q_2036 q_133 q_162 q_2037) hdV_X12_pairsBy ⟨rfl, rfl⟩ ⟨(Nat.le_of_ble_eq_true rfl), (Nat.le_of_ble_eq_true rfl)⟩ ⟨(Nat.le_of_ble_eq_true rfl), (Nat.le_of_ble_eq_true rfl)⟩ 12 rfl rfl rfl rfl hl19.1 rfl (Nat.le_of_ble_eq_true rfl) dX12_mateOf_45) (fun r_34 u_33 H1 locs hp hw35 => ?_)
            generalize H1 = H at hw35 ⊢
            have hw36 : WD D A s.heap (MW cI cJ M mr mi mf mg) H locs := hw35
            obtain ⟨hp_37, hp_38, hp_39⟩ := hp
            have hp_37 : 1 ≤ r_34.toInt := hp_37
            have hp_38 : r_34.toInt ≤ 1024 := hp_38
            have hp_39 : (MXI (FR (mi 6).toInt (mf 11)) (clr (clr z_set.toInt.toNat r_5.toInt.toNat) x_16.toInt.toNat) ((r_34 : Int32).toInt - 1) ∧ 1 ≤ (r_34 : Int32).toInt ∧ (r_34 : Int32).toInt ≤ 1024) := hp_39
            refine lv_aload_n (pc := 48) E.1 E.2.1 dX12_mateOf_48 rfl (lv_at hl19 2 rfl) ?_
            refine x_get (pc := 49) (T := TX12) (N := 70) (ci := 12) (v := .ref (mr 61)) E hw36 inX12 0 61 q_1460 rfl rfl (by decide) rfl rfl dX12_mateOf_49 ?_
            refine lv_iload_n (pc := 52) E.1 E.2.1 dX12_mateOf_52 rfl (lv_at hl19 3 rfl) ?_
            refine x_iald (pc := 53) (f := (mf 61)) E hw36 33 rfl (inbE (a := z_set.toInt) (n := 1024) rfl (by omega)) dX12_mateOf_53 ?_
            refine lv_topi (fun v_40 ev_40 => ?_)
            have hq_41 := mt_m x_tb ev_40 (by omega) x_ls
            refine lv_icmp_ne (pc := 54) (tgt := 59) E.1 E.2.1 dX12_mateOf_54 (by decide) (fun c_42 => ?_) (fun c_42 => ?_)
            · skip
              have hc_42 := neE (a := r_34.toInt) (b := v_40.toInt) rfl rfl c_42
              obtain ⟨v_43, ev_43⟩ : ∃ z : Int32, x_16 + Int32.ofInt (1) = z := ⟨_, rfl⟩
              have hv_43 : v_43.toInt = x_16.toInt + (1) := by rw [← ev_43]; exact incE rfl (by decide) (by omega)
              refine lv_iinc (pc := 59) (v := v_43) (lv' := [(3, .int v_43), (2, .int r_5), (0, .ref M), (1, .int z_set)]) E.1 E.2.1 dX12_mateOf_59 hl19 (k := 0) rfl ev_43 (by decide) rfl (fun ls hl44 => ?_)
              refine lv_goto (pc := 62) (tgt := 10) E.1 E.2.1 dX12_mateOf_62 (by decide) ?_
              exact ih_17 v_43 _ _ _ ⟨(by show 0 ≤ v_43.toInt; omega), (by show v_43.toInt ≤ 10; omega), (by show r_5.toInt + 1 ≤ v_43.toInt; omega), (fp_s hi_16_3 (by omega) (by omega) (mt_n3 hp_39.1 hq_41 (by omega)))⟩ (by omega) hw36 (lv_sub hl44 [0, 1, 2, 3] rfl)
            · skip
              have hc_42 := eqE (a := r_34.toInt) (b := v_40.toInt) rfl rfl c_42
              refine lv_iload_n (pc := 57) E.1 E.2.1 dX12_mateOf_57 rfl (lv_at hl19 0 rfl) ?_
              exact em_i (w1 := (fun (u : Unit) => (MW cI cJ M mr mi mf mg))) E hr hlk () hw36 ⟨(by show (-1) ≤ x_16.toInt; omega), (by show x_16.toInt ≤ 9; omega), (show (∀ hh : Nat, LOW z_set.toInt.toNat hh → (x_16 : Int32).toInt = fpN (FR (mi 6).toInt (mf 11)) z_set.toInt.toNat hh (mi 6).toInt.toNat) from (fun hh lh => by rw [LOW_u lh hp_10]; exact mt_r hi_16_3 ev_21 ev_22 ⟨by omega, by omega⟩ (by omega) (by omega) (by omega) hq_29 (by omega) hp_39.1 hq_41 (by omega) (by omega) (by omega)))⟩ (Nat.le_of_ble_eq_true rfl) (Nat.le_of_ble_eq_true rfl) dX12_mateOf_58
  exact loop_15 (Int.toNat (10 - v_13.toInt) + 1) v_13 _ _ _ ⟨(by show 0 ≤ v_13.toInt; omega), (by show v_13.toInt ≤ 10; omega), (by show r_5.toInt + 1 ≤ v_13.toInt; omega), (mt_i (by omega) (by omega))⟩ (by omega) hw7 (lv_sub hl14 [0, 1, 2, 3] rfl)
set_option maxHeartbeats 4000000 in
set_option maxRecDepth 100000 in
theorem s_roomOfB (l : Launch) (D : va_G) (cI cJ : ClassId) (sz M : Nat) (mr : Nat → Nat) (mi : Nat → Int32) (mf : Nat → Nat → Int32) (mg : Nat → Nat → Int64) (z_house : Int32) (h0 : 0 ≤ (mi 6).toInt ∧ (mi 6).toInt ≤ 10) (h1 : 0 ≤ z_house.toInt) (h2 : z_house.toInt + 1 ≤ (mi 6).toInt) (x_wf : WFF (mi 6).toInt (mf 11)) (x_tb : TBZ (FR (mi 6).toInt (mf 11)) (mf 61) (((2 ^ (mi 6).toInt.toNat : Nat) : Int))) : Met l yX12_roomOf (Cond.code yX12_roomOf cX12_roomOf 5 (some .int) :: GW) ({ frames := 3, cells := 0, slots := 0, locals := 86 } : Room) (va_Pc [.ref M, .int z_house] (PW D cI cJ sz (MW cI cJ M mr mi mf mg) xT)) (va_Qi (fun (r : Int32) (u : Unit) => ((r : Int32).toInt = prr (FR (mi 6).toInt (mf 11)) (mi 6).toInt.toNat z_house.toInt.toNat (mi 6).toInt.toNat (2 ^ (mi 6).toInt.toNat - 1))) (fun u => QW D cI cJ (va_A (MW cI cJ M mr mi mf mg) sz) ((fun (u : Unit) => (MW cI cJ M mr mi mf mg)) u)) (va_A (MW cI cJ M mr mi mf mg) sz)) 0 0 (va_A (MW cI cJ M mr mi mf mg) sz) := by
  refine mk_met (y := yX12_roomOf) (bytes := cX12_roomOf) (maxL := 5) (avs := [.ref M, .int z_house]) (WS := (MW cI cJ M mr mi mf mg)) (Qf := fun A => va_Qi (fun (r : Int32) (u : Unit) => ((r : Int32).toInt = prr (FR (mi 6).toInt (mf 11)) (mi 6).toInt.toNat z_house.toInt.toNat (mi 6).toInt.toNat (2 ^ (mi 6).toInt.toNat - 1))) (fun u => QW D cI cJ A ((fun (u : Unit) => (MW cI cJ M mr mi mf mg)) u)) A) (by decide) (Nat.le_of_ble_eq_true rfl) ?_
  intro p e s m below meth c A ls E hr hlk hnm hX hw1 hl2
  have hl3 : lv_has ls 5 [(0, .ref M), (1, .int z_house)] := hl2
  refine lv_iconst (pc := 0) (v := 1) E.1 E.2.1 dX12_roomOf_0 (by decide +kernel) ?_
  refine lv_aload_n (pc := 1) E.1 E.2.1 dX12_roomOf_1 rfl (lv_at hl3 0 rfl) ?_
  refine x_get (pc := 2) (T := TX12) (N := 70) (ci := 12) (v := .int (mi 6)) E hw1 inX12 0 6 q_1405 rfl rfl (by decide) rfl rfl dX12_roomOf_2 ?_
  refine lv_ishl (pc := 5) E.1 E.2.1 dX12_roomOf_5 ?_
  refine lv_topi (fun v_4 ev_4 => ?_)
  have hb1v_4 : 1 ≤ v_4.toInt ∧ v_4.toInt ≤ 1024 := by rw [ev_4]; exact shl10 (by omega)
  refine lv_iconst (pc := 6) (v := 1) E.1 E.2.1 dX12_roomOf_6 (by decide +kernel) ?_
  refine lv_isub (pc := 7) E.1 E.2.1 dX12_roomOf_7 ?_
  refine lv_topi (fun v_5 ev_5 => ?_)
  have hv_5 : v_5.toInt = v_4.toInt - 1 := by rw [ev_5]; exact subE rfl (by decide +kernel) (by omega)
  refine lv_istore_n (pc := 8) (lv' := [(2, .int v_5), (0, .ref M), (1, .int z_house)]) E.1 E.2.1 dX12_roomOf_8 rfl hl3 (by decide) rfl (fun ls hl6 => ?_)
  have loop_7 : ∀ (k : Nat) (x_8 : Int32) (H : Heap) (locs : List Loc) (ls : Array Slot), (0 ≤ x_8.toInt) ∧ (x_8.toInt ≤ 1023) ∧ (RO (FR (mi 6).toInt (mf 11)) (mi 6).toInt.toNat z_house.toInt.toNat x_8.toInt.toNat) → x_8.toInt < (k : Int) → WD D A s.heap (MW cI cJ M mr mi mf mg) H locs → lv_has ls 5 [(2, .int x_8), (0, .ref M), (1, .int z_house)] → W p l e ({ frames := 3, cells := 0, slots := 0, locals := 86 } : Room) s m ([.ref M, .int z_house] : List Value).toArray below meth c H locs 0 0 (MQ below (va_Qi (fun (r : Int32) (u : Unit) => ((r : Int32).toInt = prr (FR (mi 6).toInt (mf 11)) (mi 6).toInt.toNat z_house.toInt.toNat (mi 6).toInt.toNat (2 ^ (mi 6).toInt.toNat - 1))) (fun u => QW D cI cJ A ((fun (u : Unit) => (MW cI cJ M mr mi mf mg)) u)) A) ([.ref M, .int z_house] : List Value).toArray s 0 0 A) (F0 m 9 ls []) := by
    intro k
    induction k with
    | zero =>
      intro x_8 _ _ _ hinv hm
      obtain ⟨hi_8_0, hi_8_1, hi_8_2⟩ := hinv
      exact absurd hm (by omega)
    | succ k ih_9 =>
      intro x_8 H locs ls hinv hm hw10 hl11
      obtain ⟨hi_8_0, hi_8_1, hi_8_2⟩ := hinv
      refine lv_iload_n (pc := 9) E.1 E.2.1 dX12_roomOf_9 rfl (lv_at hl11 0 rfl) ?_
      refine lv_if_eq (pc := 10) (tgt := 66) E.1 E.2.1 dX12_roomOf_10 (by decide) (fun c_12 => ?_) (fun c_12 => ?_)
      · skip
        have hc_12 := eqE (a := x_8.toInt) (b := 0) rfl (by decide +kernel) c_12
        refine lv_iconst (pc := 66) (v := (-1)) E.1 E.2.1 dX12_roomOf_66 (by decide +kernel) ?_
        exact em_i (w1 := (fun (u : Unit) => (MW cI cJ M mr mi mf mg))) E hr hlk () hw10 (show ((-1) : Int32).toInt = prr (FR (mi 6).toInt (mf 11)) (mi 6).toInt.toNat z_house.toInt.toNat (mi 6).toInt.toNat (2 ^ (mi 6).toInt.toNat - 1) from (ri_z hi_8_2 (by omega) (by decide +kernel))) (Nat.le_of_ble_eq_true rfl) (Nat.le_of_ble_eq_true rfl) dX12_roomOf_67
      · skip
        have hc_12 := neE (a := x_8.toInt) (b := 0) rfl (by decide +kernel) c_12
        refine lv_aload_n (pc := 13) E.1 E.2.1 dX12_roomOf_13 rfl (lv_at hl11 1 rfl) ?_
        refine lv_iload_n (pc := 14) E.1 E.2.1 dX12_roomOf_14 rfl (lv_at hl11 0 rfl) ?_
        refine cm_i (pc := 15) hw10 (rn_M (As := [.int x_8]) (rest := []) E hw10 (s_lowestB l D cI cJ _ M mr mi mf mg x_8 (by show 1 ≤ x_8.toInt ∧ x_8.toInt ≤ 1023; omega)) (gdV q_2030 q_2032 q_132 q_162 q_2033) hdV_X12_lowest ⟨rfl, rfl⟩ ⟨(Nat.le_of_ble_eq_true rfl), (Nat.le_of_ble_eq_true rfl)⟩ ⟨(Nat.le_of_ble_eq_true rfl), (Nat.le_of_ble_eq_true rfl)⟩ 12 rfl rfl rfl rfl hl11.1 rfl (Nat.le_of_ble_eq_true rfl) dX12_roomOf_15) (fun r_14 u_13 H1 locs hp hw15 => ?_)
        generalize H1 = H at hw15 ⊢
        have hw16 : WD D A s.heap (MW cI cJ M mr mi mf mg) H locs := hw15
        obtain ⟨hp_17, hp_18, hp_19⟩ := hp
        have hp_17 : 0 ≤ r_14.toInt := hp_17
        have hp_18 : r_14.toInt ≤ 9 := hp_18
        have hp_19 : LOW x_8.toInt.toNat (r_14 : Int32).toInt.toNat := hp_19
        refine lv_istore_n (pc := 18) (lv' := [(3, .int r_14), (2, .int x_8), (0, .ref M), (1, .int z_house)]) E.1 E.2.1 dX12_roomOf_18 rfl hl11 (by decide) rfl (fun ls hl20 => ?_)
        refine lv_aload_n (pc := 19) E.1 E.2.1 dX12_roomOf_19 rfl (lv_at hl20 2 rfl) ?_
        refine lv_iload_n (pc := 20) E.1 E.2.1 dX12_roomOf_20 rfl (lv_at hl20 1 rfl) ?_
        refine cm_i (pc := 21) hw16 (rn_M (As := [.int x_8]) (rest := []) E hw16 (s_mateOfB l D cI cJ _ M mr mi mf mg x_8 h0 (by show 1 ≤ x_8.toInt ∧ x_8.toInt ≤ 1023; omega) (show WFF (mi 6).toInt (mf 11) from x_wf) (show TBZ (FR (mi 6).toInt (mf 11)) (mf 61) (((2 ^ (mi 6).toInt.toNat : Nat) : Int)) from x_tb) (show x_8.toInt.toNat < 2 ^ (mi 6).toInt.toNat from (RO_lt hi_8_2))) (gdV q_2046 q_2048 q_136 q_162 q_2049) hdV_X12_mateOf ⟨rfl, rfl⟩ ⟨(Nat.le_of_ble_eq_true rfl), (Nat.le_of_ble_eq_true rfl)⟩ ⟨(Nat.le_of_ble_eq_true rfl), (Nat.le_of_ble_eq_true rfl)⟩ 12 rfl rfl rfl rfl hl20.1 rfl (Nat.le_of_ble_eq_true rfl) dX12_roomOf_21) (fun r_22 u_21 H1 locs hp hw23 => ?_)
        generalize H1 = H at hw23 ⊢
        have hw24 : WD D A s.heap (MW cI cJ M mr mi mf mg) H locs := hw23
        obtain ⟨hp_25, hp_26, hp_27⟩ := hp
        have hp_25 : (-1) ≤ r_22.toInt := hp_25
        have hp_26 : r_22.toInt ≤ 9 := hp_26
        have hp_27 : (∀ hh : Nat, LOW x_8.toInt.toNat hh → (r_22 : Int32).toInt = fpN (FR (mi 6).toInt (mf 11)) x_8.toInt.toNat hh (mi 6).toInt.toNat) := hp_27
        refine lv_istore (pc := 24) (lv' := [(4, .int r_22), (3, .int r_14), (2, .int x_8), (0, .ref M), (1, .int z_house)]) E.1 E.2.1 dX12_roomOf_24 hl20 (by decide) rfl (fun ls hl28 => ?_)
        have hq_29 := hp_27 _ hp_19
        refine lv_iload_n (pc := 26) E.1 E.2.1 dX12_roomOf_26 rfl (lv_at hl28 1 rfl) ?_
        refine lv_iload_n (pc := 27) E.1 E.2.1 dX12_roomOf_27 rfl (lv_at hl28 4 rfl) ?_
        refine lv_icmp_ne (pc := 28) (tgt := 34) E.1 E.2.1 dX12_roomOf_28 (by decide) (fun c_30 => ?_) (fun c_30 => ?_)
        · skip
          have hc_30 := neE (a := r_14.toInt) (b := z_house.toInt) rfl rfl c_30
          refine lv_iload (pc := 34) E.1 E.2.1 dX12_roomOf_34 (lv_at hl28 0 rfl) ?_
          refine lv_iload_n (pc := 36) E.1 E.2.1 dX12_roomOf_36 rfl (lv_at hl28 4 rfl) ?_
          refine lv_icmp_ne (pc := 37) (tgt := 42) E.1 E.2.1 dX12_roomOf_37 (by decide) (fun c_31 => ?_) (fun c_31 => ?_)
          · skip
            have hc_31 := neE (a := r_22.toInt) (b := z_house.toInt) rfl rfl c_31
            refine lv_iload_n (pc := 42) E.1 E.2.1 dX12_roomOf_42 rfl (lv_at hl28 2 rfl) ?_
            refine lv_iload_n (pc := 43) E.1 E.2.1 dX12_roomOf_43 rfl (lv_at hl28 2 rfl) ?_
            refine lv_iconst (pc := 44) (v := 1) E.1 E.2.1 dX12_roomOf_44 (by decide +kernel) ?_
            refine lv_isub (pc := 45) E.1 E.2.1 dX12_roomOf_45 ?_
            refine lv_topi (fun v_32 ev_32 => ?_)
            have hv_32 : v_32.toInt = x_8.toInt - 1 := by rw [ev_32]; exact subE rfl (by decide +kernel) (by omega)
            refine lv_iand (pc := 46) E.1 E.2.1 dX12_roomOf_46 ?_
            refine lv_topi (fun v_33 ev_33 => ?_)
            have hb1v_33 : 0 ≤ v_33.toInt ∧ v_33.toInt ≤ x_8.toInt := by rw [ev_33]; exact and10 (by omega)
            have hb2v_33 : 0 ≤ v_33.toInt ∧ v_33.toInt ≤ v_32.toInt := by rw [ev_33]; exact and10r (by omega)
            refine lv_istore_n (pc := 47) (lv' := [(2, .int v_33), (4, .int r_22), (3, .int r_14), (0, .ref M), (1, .int z_house)]) E.1 E.2.1 dX12_roomOf_47 rfl hl28 (by decide) rfl (fun ls hl34 => ?_)
            refine lv_iload (pc := 48) E.1 E.2.1 dX12_roomOf_48 (lv_at hl34 1 rfl) ?_
            refine lv_iconst (pc := 50) (v := (-1)) E.1 E.2.1 dX12_roomOf_50 (by decide +kernel) ?_
            refine lv_icmp_eq (pc := 51) (tgt := 63) E.1 E.2.1 dX12_roomOf_51 (by decide) (fun c_35 => ?_) (fun c_35 => ?_)
            · skip
              have hc_35 := eqE (a := r_22.toInt) (b := (-1)) rfl (by decide +kernel) c_35
              refine lv_goto (pc := 63) (tgt := 9) E.1 E.2.1 dX12_roomOf_63 (by decide) ?_
              exact ih_9 v_33 _ _ _ ⟨(by show 0 ≤ v_33.toInt; omega), (by show v_33.toInt ≤ 1023; omega), (ri_one hi_8_2 hp_19 hq_29 (by omega) (by omega) (by omega) ⟨by omega, by omega⟩ ⟨by omega, by omega⟩ (by omega) ev_33 (by omega))⟩ (by omega) hw24 (lv_sub hl34 [0, 3, 4] rfl)
            · skip
              have hc_35 := neE (a := r_22.toInt) (b := (-1)) rfl (by decide +kernel) c_35
              refine lv_iload_n (pc := 54) E.1 E.2.1 dX12_roomOf_54 rfl (lv_at hl34 0 rfl) ?_
              refine lv_iconst (pc := 55) (v := 1) E.1 E.2.1 dX12_roomOf_55 (by decide +kernel) ?_
              refine lv_iload (pc := 56) E.1 E.2.1 dX12_roomOf_56 (lv_at hl34 1 rfl) ?_
              refine lv_ishl (pc := 58) E.1 E.2.1 dX12_roomOf_58 ?_
              refine lv_topi (fun v_36 ev_36 => ?_)
              have hb1v_36 : 1 ≤ v_36.toInt ∧ v_36.toInt ≤ 512 := by rw [ev_36]; exact shl9 (by omega)
              refine lv_iconst (pc := 59) (v := (-1)) E.1 E.2.1 dX12_roomOf_59 (by decide +kernel) ?_
              refine lv_ixor (pc := 60) E.1 E.2.1 dX12_roomOf_60 ?_
              refine lv_topi (fun v_37 ev_37 => ?_)
              refine lv_iand (pc := 61) E.1 E.2.1 dX12_roomOf_61 ?_
              refine lv_topi (fun v_38 ev_38 => ?_)
              have hb1v_38 : 0 ≤ v_38.toInt ∧ v_38.toInt ≤ v_33.toInt := by rw [ev_38]; exact and10 (by omega)
              refine lv_istore_n (pc := 62) (lv' := [(2, .int v_38), (4, .int r_22), (3, .int r_14), (0, .ref M), (1, .int z_house)]) E.1 E.2.1 dX12_roomOf_62 rfl hl34 (by decide) rfl (fun ls hl39 => ?_)
              refine lv_goto (pc := 63) (tgt := 9) E.1 E.2.1 dX12_roomOf_63 (by decide) ?_
              exact ih_9 v_38 _ _ _ ⟨(by show 0 ≤ v_38.toInt; omega), (by show v_38.toInt ≤ 1023; omega), (ri_two hi_8_2 hp_19 hq_29 (by omega) (by omega) (by omega) ⟨by omega, by omega⟩ ⟨by omega, by omega⟩ (by omega) ev_33 ev_36 ev_37 ev_38 ⟨by omega, by omega⟩)⟩ (by omega) hw24 (lv_sub hl39 [0, 3, 4] rfl)
          · skip
            have hc_31 := eqE (a := r_22.toInt) (b := z_house.toInt) rfl rfl c_31
            refine lv_iload_n (pc := 40) E.1 E.2.1 dX12_roomOf_40 rfl (lv_at hl28 1 rfl) ?_
            exact em_i (w1 := (fun (u : Unit) => (MW cI cJ M mr mi mf mg))) E hr hlk () hw24 (show (r_14 : Int32).toInt = prr (FR (mi 6).toInt (mf 11)) (mi 6).toInt.toNat z_house.toInt.toNat (mi 6).toInt.toNat (2 ^ (mi 6).toInt.toNat - 1) from (ri_ot hi_8_2 hp_19 hq_29 (by omega) (by omega) (by omega) (by omega))) (Nat.le_of_ble_eq_true rfl) (Nat.le_of_ble_eq_true rfl) dX12_roomOf_41
        · skip
          have hc_30 := eqE (a := r_14.toInt) (b := z_house.toInt) rfl rfl c_30
          refine lv_iload (pc := 31) E.1 E.2.1 dX12_roomOf_31 (lv_at hl28 0 rfl) ?_
          exact em_i (w1 := (fun (u : Unit) => (MW cI cJ M mr mi mf mg))) E hr hlk () hw24 (show (r_22 : Int32).toInt = prr (FR (mi 6).toInt (mf 11)) (mi 6).toInt.toNat z_house.toInt.toNat (mi 6).toInt.toNat (2 ^ (mi 6).toInt.toNat - 1) from (ri_me hi_8_2 hp_19 hq_29 (by omega))) (Nat.le_of_ble_eq_true rfl) (Nat.le_of_ble_eq_true rfl) dX12_roomOf_33
  exact loop_7 (Int.toNat (v_5.toInt) + 1) v_5 _ _ _ ⟨(by show 0 ≤ v_5.toInt; omega), (by show v_5.toInt ≤ 1023; omega), (ri_i ev_4 (by omega) rfl ⟨by omega, by omega⟩)⟩ (by omega) hw1 (lv_sub hl6 [0, 1, 2] rfl)
set_option maxHeartbeats 4000000 in
set_option maxRecDepth 100000 in
theorem s_roomsB (l : Launch) (D : va_G) (cI cJ : ClassId) (sz M : Nat) (mr : Nat → Nat) (mi : Nat → Int32) (mf : Nat → Nat → Int32) (mg : Nat → Nat → Int64) (z_what : Int32) (h0 : 0 ≤ (mi 6).toInt ∧ (mi 6).toInt ≤ 10) (x_wf : WFF (mi 6).toInt (mf 11)) : Met l yX12_rooms (Cond.code yX12_rooms cX12_rooms 2 (some .int) :: GW) ({ frames := 4, cells := 0, slots := 0, locals := 110 } : Room) (va_Pc [.ref M, .int z_what] (PW D cI cJ sz (MW cI cJ M mr mi mf mg) xT)) (va_Qi (fun (r : Int32) (u : Int32 × (Nat → Int32)) => ((r : Int32).toInt = RMA (mf 11) (mi 6).toInt z_what.toInt)) (fun u => QW D cI cJ (va_A (MW cI cJ M mr mi mf mg) sz) ((fun (u : Int32 × (Nat → Int32)) => (MW cI cJ M mr (upd mi 0 u.1) (va_up mf 61 u.2) mg)) u)) (va_A (MW cI cJ M mr mi mf mg) sz)) 0 0 (va_A (MW cI cJ M mr mi mf mg) sz) := by
  refine mk_met (y := yX12_rooms) (bytes := cX12_rooms) (maxL := 2) (avs := [.ref M, .int z_what]) (WS := (MW cI cJ M mr mi mf mg)) (Qf := fun A => va_Qi (fun (r : Int32) (u : Int32 × (Nat → Int32)) => ((r : Int32).toInt = RMA (mf 11) (mi 6).toInt z_what.toInt)) (fun u => QW D cI cJ A ((fun (u : Int32 × (Nat → Int32)) => (MW cI cJ M mr (upd mi 0 u.1) (va_up mf 61 u.2) mg)) u)) A) (by decide) (Nat.le_of_ble_eq_true rfl) ?_
  intro p e s m below meth c A ls E hr hlk hnm hX hw1 hl2
  have hl3 : lv_has ls 2 [(0, .ref M), (1, .int z_what)] := hl2
  refine lv_aload_n (pc := 0) E.1 E.2.1 dX12_rooms_0 rfl (lv_at hl3 0 rfl) ?_
  refine lv_iconst (pc := 1) (v := 0) E.1 E.2.1 dX12_rooms_1 (by decide +kernel) ?_
  refine x_put (pc := 2) (T := TX12) (N := 70) (ci := 12) (ws' := (MW cI cJ M mr (upd mi 0 0) mf mg)) E hw1 inX12 tyX12_ok nmX12 0 0 q_1399 rfl rfl (by decide) rfl rfl rfl rfl (Nat.le_of_ble_eq_true rfl) rfl dX12_rooms_2 (fun H locs hw4 => ?_)
  refine lv_iload_n (pc := 5) E.1 E.2.1 dX12_rooms_5 rfl (lv_at hl3 1 rfl) ?_
  refine lv_if_eq (pc := 6) (tgt := 28) E.1 E.2.1 dX12_rooms_6 (by decide) (fun c_5 => ?_) (fun c_5 => ?_)
  · skip
    have hc_5 := eqE (a := z_what.toInt) (b := 0) rfl (by decide +kernel) c_5
    refine lv_aload_n (pc := 28) E.1 E.2.1 dX12_rooms_28 rfl (lv_at hl3 0 rfl) ?_
    refine cm_v (pc := 29) hw4 (rn_M (As := []) (rest := []) E hw4 (s_findsPairsB l D cI cJ _ M mr (upd mi 0 0) mf mg h0 (show WFF (mi 6).toInt (mf 11) from x_wf)) (gdV q_2026 q_2028 q_131 q_162 q_2029) hdV_X12_findsPairs ⟨rfl, rfl⟩ ⟨(Nat.le_of_ble_eq_true rfl), (Nat.le_of_ble_eq_true rfl)⟩ ⟨(Nat.le_of_ble_eq_true rfl), (Nat.le_of_ble_eq_true rfl)⟩ 12 rfl rfl rfl rfl hl3.1 rfl (Nat.le_of_ble_eq_true rfl) dX12_rooms_29) (fun u_6 H1 locs hp hw8 => ?_)
    obtain ⟨gpairsOf_9, rfl⟩ : ∃ z, z = u_6 := ⟨_, rfl⟩
    generalize H1 = H at hw8 ⊢
    have hw10 : WD D A s.heap (MW cI cJ M mr (upd mi 0 0) (va_up mf 61 gpairsOf_9) mg) H locs := hw8
    have hp_11 := hp
    have hp_11 : TBZ (FR (mi 6).toInt (mf 11)) gpairsOf_9 ((2 ^ (mi 6).toInt.toNat : Nat) : Int) := hp_11
    refine lv_iload_n (pc := 32) E.1 E.2.1 dX12_rooms_32 rfl (lv_at hl3 1 rfl) ?_
    refine lv_if_ne (pc := 33) (tgt := 52) E.1 E.2.1 dX12_rooms_33 (by decide) (fun c_12 => absurd (meqE (a := z_what.toInt) (b := 0) rfl (by decide +kernel) (by omega)) c_12) (fun _ => ?_)
    refine lv_aload_n (pc := 36) E.1 E.2.1 dX12_rooms_36 rfl (lv_at hl3 0 rfl) ?_
    refine x_get (pc := 37) (T := TX12) (N := 70) (ci := 12) (v := .ref (mr 61)) E hw10 inX12 0 61 q_1460 rfl rfl (by decide) rfl rfl dX12_rooms_37 ?_
    refine lv_iconst (pc := 40) (v := 1) E.1 E.2.1 dX12_rooms_40 (by decide +kernel) ?_
    refine lv_aload_n (pc := 41) E.1 E.2.1 dX12_rooms_41 rfl (lv_at hl3 0 rfl) ?_
    refine x_get (pc := 42) (T := TX12) (N := 70) (ci := 12) (v := .int (mi 6)) E hw10 inX12 0 6 q_1405 rfl rfl (by decide) rfl rfl dX12_rooms_42 ?_
    refine lv_ishl (pc := 45) E.1 E.2.1 dX12_rooms_45 ?_
    refine lv_topi (fun v_13 ev_13 => ?_)
    have hb1v_13 : 1 ≤ v_13.toInt ∧ v_13.toInt ≤ 1024 := by rw [ev_13]; exact shl10 (by omega)
    refine lv_iconst (pc := 46) (v := 1) E.1 E.2.1 dX12_rooms_46 (by decide +kernel) ?_
    refine lv_isub (pc := 47) E.1 E.2.1 dX12_rooms_47 ?_
    refine lv_topi (fun v_14 ev_14 => ?_)
    have hv_14 : v_14.toInt = v_13.toInt - 1 := by rw [ev_14]; exact subE rfl (by decide +kernel) (by omega)
    refine x_iald (pc := 48) (f := gpairsOf_9) E hw10 33 rfl (inbE (a := v_14.toInt) (n := 1024) rfl (by omega)) dX12_rooms_48 ?_
    refine lv_topi (fun v_15 ev_15 => ?_)
    refine lv_goto (pc := 49) (tgt := 60) E.1 E.2.1 dX12_rooms_49 (by decide) ?_
    exact em_i (w1 := (fun (u : Int32 × (Nat → Int32)) => (MW cI cJ M mr (upd mi 0 u.1) (va_up mf 61 u.2) mg))) E hr hlk (0, gpairsOf_9) hw10 (show (v_15 : Int32).toInt = RMA (mf 11) (mi 6).toInt z_what.toInt from (RM_al hp_11 ev_13 rfl ⟨by omega, by omega⟩ (by omega) ev_15 (by omega))) (Nat.le_of_ble_eq_true rfl) (Nat.le_of_ble_eq_true rfl) dX12_rooms_60
  · skip
    have hc_5 := neE (a := z_what.toInt) (b := 0) rfl (by decide +kernel) c_5
    refine lv_aload_n (pc := 9) E.1 E.2.1 dX12_rooms_9 rfl (lv_at hl3 0 rfl) ?_
    refine lv_iload_n (pc := 10) E.1 E.2.1 dX12_rooms_10 rfl (lv_at hl3 1 rfl) ?_
    refine lv_bipush (pc := 11) (v := 10) E.1 E.2.1 dX12_rooms_11 (by decide +kernel) ?_
    refine lv_bipush (pc := 13) (v := 9) E.1 E.2.1 dX12_rooms_13 (by decide +kernel) ?_
    refine lv_aload_n (pc := 15) E.1 E.2.1 dX12_rooms_15 rfl (lv_at hl3 0 rfl) ?_
    refine x_get (pc := 16) (T := TX12) (N := 70) (ci := 12) (v := .int (mi 6)) E hw4 inX12 0 6 q_1405 rfl rfl (by decide) rfl rfl dX12_rooms_16 ?_
    refine lv_iadd (pc := 19) E.1 E.2.1 dX12_rooms_19 ?_
    refine lv_topi (fun v_16 ev_16 => ?_)
    have hv_16 : v_16.toInt = 9 + (mi 6).toInt := by rw [ev_16]; exact addE (by decide +kernel) rfl (by omega)
    refine cm_i (pc := 20) hw4 (rn_M (As := [.int z_what, .int 10, .int v_16]) (rest := []) E hw4 (s_isIn l D cI cJ _ M mr (upd mi 0 0) mf mg z_what 10 v_16) (gdV q_1622 q_1624 q_46 q_162 q_1625) hdV_X12_isIn ⟨rfl, rfl⟩ ⟨(Nat.le_of_ble_eq_true rfl), (Nat.le_of_ble_eq_true rfl)⟩ ⟨(Nat.le_of_ble_eq_true rfl), (Nat.le_of_ble_eq_true rfl)⟩ 12 rfl rfl rfl rfl hl3.1 rfl (Nat.le_of_ble_eq_true rfl) dX12_rooms_20) (fun r_18 u_17 H1 locs hp hw19 => ?_)
    generalize H1 = H at hw19 ⊢
    have hw20 : WD D A s.heap (MW cI cJ M mr (upd mi 0 0) mf mg) H locs := hw19
    have hp_21 := hp
    rcases hp_21 with ⟨rfl, ha_22⟩ | ⟨rfl, ha_23⟩ | ⟨rfl, ha_24, ha_25⟩
    · skip
      have ha_22 : z_what.toInt < (10 : Int32).toInt := ha_22
      rw [show (10 : Int32).toInt = 10 from by decide +kernel] at ha_22
      refine lv_if_ne (pc := 23) (tgt := 28) E.1 E.2.1 dX12_rooms_23 (by decide) (fun c_26 => absurd (meqE (a := 0) (b := 0) (by decide +kernel) (by decide +kernel) (by omega)) c_26) (fun _ => ?_)
      refine lv_iconst (pc := 26) (v := (-1)) E.1 E.2.1 dX12_rooms_26 (by decide +kernel) ?_
      exact em_i (w1 := (fun (u : Int32 × (Nat → Int32)) => (MW cI cJ M mr (upd mi 0 u.1) (va_up mf 61 u.2) mg))) E hr hlk (0, (mf 61)) hw20 (show ((-1) : Int32).toInt = RMA (mf 11) (mi 6).toInt z_what.toInt from (RM_no (by omega) (by omega) (by decide +kernel))) (Nat.le_of_ble_eq_true rfl) (Nat.le_of_ble_eq_true rfl) dX12_rooms_27
    · skip
      have ha_23 : v_16.toInt < z_what.toInt := ha_23
      refine lv_if_ne (pc := 23) (tgt := 28) E.1 E.2.1 dX12_rooms_23 (by decide) (fun c_27 => absurd (meqE (a := 0) (b := 0) (by decide +kernel) (by decide +kernel) (by omega)) c_27) (fun _ => ?_)
      refine lv_iconst (pc := 26) (v := (-1)) E.1 E.2.1 dX12_rooms_26 (by decide +kernel) ?_
      exact em_i (w1 := (fun (u : Int32 × (Nat → Int32)) => (MW cI cJ M mr (upd mi 0 u.1) (va_up mf 61 u.2) mg))) E hr hlk (0, (mf 61)) hw20 (show ((-1) : Int32).toInt = RMA (mf 11) (mi 6).toInt z_what.toInt from (RM_no (by omega) (by omega) (by decide +kernel))) (Nat.le_of_ble_eq_true rfl) (Nat.le_of_ble_eq_true rfl) dX12_rooms_27
    · skip
      have ha_24 : (10 : Int32).toInt ≤ z_what.toInt := ha_24
      rw [show (10 : Int32).toInt = 10 from by decide +kernel] at ha_24
      have ha_25 : z_what.toInt ≤ v_16.toInt := ha_25
      refine lv_if_ne (pc := 23) (tgt := 28) E.1 E.2.1 dX12_rooms_23 (by decide) (fun _ => ?_) (fun c_28 => absurd c_28 (mneE (a := 1) (b := 0) (by decide +kernel) (by decide +kernel) (by omega)))
      refine lv_aload_n (pc := 28) E.1 E.2.1 dX12_rooms_28 rfl (lv_at hl3 0 rfl) ?_
      refine cm_v (pc := 29) hw20 (rn_M (As := []) (rest := []) E hw20 (s_findsPairsB l D cI cJ _ M mr (upd mi 0 0) mf mg h0 (show WFF (mi 6).toInt (mf 11) from x_wf)) (gdV q_2026 q_2028 q_131 q_162 q_2029) hdV_X12_findsPairs ⟨rfl, rfl⟩ ⟨(Nat.le_of_ble_eq_true rfl), (Nat.le_of_ble_eq_true rfl)⟩ ⟨(Nat.le_of_ble_eq_true rfl), (Nat.le_of_ble_eq_true rfl)⟩ 12 rfl rfl rfl rfl hl3.1 rfl (Nat.le_of_ble_eq_true rfl) dX12_rooms_29) (fun u_29 H1 locs hp hw31 => ?_)
      obtain ⟨gpairsOf_32, rfl⟩ : ∃ z, z = u_29 := ⟨_, rfl⟩
      generalize H1 = H at hw31 ⊢
      have hw33 : WD D A s.heap (MW cI cJ M mr (upd mi 0 0) (va_up mf 61 gpairsOf_32) mg) H locs := hw31
      have hp_34 := hp
      have hp_34 : TBZ (FR (mi 6).toInt (mf 11)) gpairsOf_32 ((2 ^ (mi 6).toInt.toNat : Nat) : Int) := hp_34
      refine lv_iload_n (pc := 32) E.1 E.2.1 dX12_rooms_32 rfl (lv_at hl3 1 rfl) ?_
      refine lv_if_ne (pc := 33) (tgt := 52) E.1 E.2.1 dX12_rooms_33 (by decide) (fun _ => ?_) (fun c_35 => absurd c_35 (mneE (a := z_what.toInt) (b := 0) rfl (by decide +kernel) (by omega)))
      refine lv_aload_n (pc := 52) E.1 E.2.1 dX12_rooms_52 rfl (lv_at hl3 0 rfl) ?_
      refine lv_iload_n (pc := 53) E.1 E.2.1 dX12_rooms_53 rfl (lv_at hl3 1 rfl) ?_
      refine lv_bipush (pc := 54) (v := 10) E.1 E.2.1 dX12_rooms_54 (by decide +kernel) ?_
      refine lv_isub (pc := 56) E.1 E.2.1 dX12_rooms_56 ?_
      refine lv_topi (fun v_36 ev_36 => ?_)
      have hv_36 : v_36.toInt = z_what.toInt - 10 := by rw [ev_36]; exact subE rfl (by decide +kernel) (by omega)
      refine cm_i (pc := 57) hw33 (rn_M (As := [.int v_36]) (rest := []) E hw33 (s_roomOfB l D cI cJ _ M mr (upd mi 0 0) (va_up mf 61 gpairsOf_32) mg v_36 h0 (by show 0 ≤ v_36.toInt; omega) (by show v_36.toInt + 1 ≤ (mi 6).toInt; omega) (show WFF (mi 6).toInt (mf 11) from x_wf) (show TBZ (FR (mi 6).toInt (mf 11)) gpairsOf_32 (((2 ^ (mi 6).toInt.toNat : Nat) : Int)) from hp_34)) (gdV q_2042 q_2044 q_135 q_162 q_2045) hdV_X12_roomOf ⟨rfl, rfl⟩ ⟨(Nat.le_of_ble_eq_true rfl), (Nat.le_of_ble_eq_true rfl)⟩ ⟨(Nat.le_of_ble_eq_true rfl), (Nat.le_of_ble_eq_true rfl)⟩ 12 rfl rfl rfl rfl hl3.1 rfl (Nat.le_of_ble_eq_true rfl) dX12_rooms_57) (fun r_38 u_37 H1 locs hp hw39 => ?_)
      generalize H1 = H at hw39 ⊢
      have hw40 : WD D A s.heap (MW cI cJ M mr (upd mi 0 0) (va_up mf 61 gpairsOf_32) mg) H locs := hw39
      have hp_41 := hp
      have hp_41 : (r_38 : Int32).toInt = prr (FR (mi 6).toInt (mf 11)) (mi 6).toInt.toNat v_36.toInt.toNat (mi 6).toInt.toNat (2 ^ (mi 6).toInt.toNat - 1) := hp_41
      exact em_i (w1 := (fun (u : Int32 × (Nat → Int32)) => (MW cI cJ M mr (upd mi 0 u.1) (va_up mf 61 u.2) mg))) E hr hlk (0, gpairsOf_32) hw40 (show (r_38 : Int32).toInt = RMA (mf 11) (mi 6).toInt z_what.toInt from (RM_ro hp_41 (by omega) ⟨by omega, by omega⟩)) (Nat.le_of_ble_eq_true rfl) (Nat.le_of_ble_eq_true rfl) dX12_rooms_60
