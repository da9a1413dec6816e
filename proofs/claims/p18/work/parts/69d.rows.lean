set_option maxHeartbeats 4000000 in
set_option maxRecDepth 100000 in
theorem t_pairUp1K (l : Launch) (D : va_G) (cI cJ : ClassId) (sz : Nat) (mr : Nat → Nat) (mi : Nat → Int32) (mf : Nat → Nat → Int32) (mg : Nat → Nat → Int64)  (h0 : 0 ≤ (mi 6).toInt ∧ (mi 6).toInt ≤ 10) (x_wf : WFF (mi 6).toInt (mf 5)) : Met l yX1_pairUp (Cond.code yX1_pairUp cX1_pairUp 4 (some .int) :: GW) ({ frames := 4, cells := 0, slots := 0, locals := 108 } : Room) (va_Pc [.ref (mr 0)] (PW D cI cJ sz (WZ_Houses1 cI cJ mr mi mf mg) xT)) (va_Qi (fun (r : Int32) (u : (Nat → Int32) × (Nat → Int32)) => (((r : Int32).toInt = mvl (FR (mi 6).toInt (mf 5)) (2 ^ (mi 6).toInt.toNat - 1) ∧ ∀ x : Nat, (x : Int) < (mi 6).toInt → (u.2 x).toInt = prr (FR (mi 6).toInt (mf 5)) (mi 6).toInt.toNat x (mi 6).toInt.toNat (2 ^ (mi 6).toInt.toNat - 1)))) (fun u => QW D cI cJ (va_A (WZ_Houses1 cI cJ mr mi mf mg) sz) ((fun (u : (Nat → Int32) × (Nat → Int32)) => (WZ_Houses1 cI cJ mr mi (va_up (va_up mf 9 u.1) 8 u.2) mg)) u)) (va_A (WZ_Houses1 cI cJ mr mi mf mg) sz)) 0 0 (va_A (WZ_Houses1 cI cJ mr mi mf mg) sz) := by
  refine mk_met (y := yX1_pairUp) (bytes := cX1_pairUp) (maxL := 4) (avs := [.ref (mr 0)]) (WS := (WZ_Houses1 cI cJ mr mi mf mg)) (Qf := fun A => va_Qi (fun (r : Int32) (u : (Nat → Int32) × (Nat → Int32)) => (((r : Int32).toInt = mvl (FR (mi 6).toInt (mf 5)) (2 ^ (mi 6).toInt.toNat - 1) ∧ ∀ x : Nat, (x : Int) < (mi 6).toInt → (u.2 x).toInt = prr (FR (mi 6).toInt (mf 5)) (mi 6).toInt.toNat x (mi 6).toInt.toNat (2 ^ (mi 6).toInt.toNat - 1)))) (fun u => QW D cI cJ A ((fun (u : (Nat → Int32) × (Nat → Int32)) => (WZ_Houses1 cI cJ mr mi (va_up (va_up mf 9 u.1) 8 u.2) mg)) u)) A) (by decide) (Nat.le_of_ble_eq_true rfl) ?_
  intro p e s m below meth c A ls E hr hlk hnm hX hw1 hl2
  have hl3 : lv_has ls 4 [(0, .ref (mr 0))] := hl2
  refine lv_aload_n (pc := 0) E.1 E.2.1 dX1_pairUp_0 rfl (lv_at hl3 0 rfl) ?_
  refine ck_v (pc := 1) (ws' := (fun (u : (Nat → Int32)) => (WZ_Houses1 cI cJ mr mi (va_up mf 9 u) mg))) [true, true, true, true, true, true, true, true, true] hw1 rfl (fun hC_ => (rn_V (As := []) (rest := []) E hw1 (t_countPairs1K l D cI cJ _ mr mi mf mg h0 (show WFF (mi 6).toInt (mf 5) from x_wf)) (gdV q_1268 q_1270 q_40 q_154 q_1271) hdV_X1_countPairs ⟨rfl, rfl⟩ ⟨(Nat.le_of_ble_eq_true rfl), (Nat.le_of_ble_eq_true rfl)⟩ ⟨(Nat.le_of_ble_eq_true rfl), (Nat.le_of_ble_eq_true rfl)⟩ xT_b xT_at 0 1 rfl rfl rfl _ hC_ (nd_T _ 0) rfl hl3.1 rfl (Nat.le_of_ble_eq_true rfl) dX1_pairUp_1)) rfl (fun _ => rfl) (fun _ => rfl) (fun u_4 H1 locs hp hw6 => ?_)
  obtain ⟨gpairs_7, rfl⟩ : ∃ z, z = u_4 := ⟨_, rfl⟩
  generalize H1 = H at hw6 ⊢
  have hw8 : WD D A s.heap (WZ_Houses1 cI cJ mr mi (va_up mf 9 gpairs_7) mg) H locs := hw6
  have hp_9 := hp
  have hp_9 : TBL (FR (mi 6).toInt (mf 5)) gpairs_7 ((2 ^ (mi 6).toInt.toNat : Nat) : Int) := hp_9
  refine lv_aload_n (pc := 4) E.1 E.2.1 dX1_pairUp_4 rfl (lv_at hl3 0 rfl) ?_
  refine ck_i (pc := 5) (ws' := (fun (u : Unit) => (WZ_Houses1 cI cJ mr mi (va_up mf 9 gpairs_7) mg))) [true, true, true, true, true, true, true, true, true] hw8 rfl (fun hC_ => (rn_V (As := []) (rest := []) E hw8 (t_all1K l D cI cJ _ mr mi (va_up mf 9 gpairs_7) mg h0) (gdV q_1280 q_1281 q_1282 q_154 q_1283) hdV_X1_all ⟨rfl, rfl⟩ ⟨(Nat.le_of_ble_eq_true rfl), (Nat.le_of_ble_eq_true rfl)⟩ ⟨(Nat.le_of_ble_eq_true rfl), (Nat.le_of_ble_eq_true rfl)⟩ xT_b xT_at 0 1 rfl rfl rfl _ hC_ (nd_T _ 0) rfl hl3.1 rfl (Nat.le_of_ble_eq_true rfl) dX1_pairUp_5)) rfl (fun _ => rfl) (fun _ => rfl) (fun r_11 u_10 H1 locs hp hw12 => ?_)
  generalize H1 = H at hw12 ⊢
  have hw13 : WD D A s.heap (WZ_Houses1 cI cJ mr mi (va_up mf 9 gpairs_7) mg) H locs := hw12
  obtain ⟨hp_14, hp_15, hp_16⟩ := hp
  have hp_14 : 0 ≤ r_11.toInt := hp_14
  have hp_15 : r_11.toInt ≤ 1023 := hp_15
  have hp_16 : (r_11 : Int32).toInt = ((2 ^ (mi 6).toInt.toNat - 1 : Nat) : Int) := hp_16
  refine lv_istore_n (pc := 8) (lv' := [(1, .int r_11), (0, .ref (mr 0))]) E.1 E.2.1 dX1_pairUp_8 rfl hl3 (by decide) rfl (fun ls hl17 => ?_)
  refine lv_iconst (pc := 9) (v := 0) E.1 E.2.1 dX1_pairUp_9 (by decide +kernel) ?_
  refine lv_istore_n (pc := 10) (lv' := [(2, .int 0), (1, .int r_11), (0, .ref (mr 0))]) E.1 E.2.1 dX1_pairUp_10 rfl hl17 (by decide) rfl (fun ls hl18 => ?_)
  have loop_19 : ∀ (k : Nat) (x_20 : Int32) (x_21 : Int32) (g_22 : Nat → Int32) (H : Heap) (locs : List Loc) (ls : Array Slot), (0 ≤ x_20.toInt) ∧ (x_20.toInt ≤ (mi 6).toInt) ∧ (0 ≤ x_21.toInt) ∧ (x_21.toInt ≤ 1023) ∧ (PU (FR (mi 6).toInt (mf 5)) (mi 6).toInt x_20.toInt x_21.toInt g_22) → (mi 6).toInt - x_20.toInt < (k : Int) → WD D A s.heap (WZ_Houses1 cI cJ mr mi (va_up (va_up mf 8 g_22) 9 gpairs_7) mg) H locs → lv_has ls 4 [(2, .int x_20), (1, .int x_21), (0, .ref (mr 0))] → W p l e ({ frames := 4, cells := 0, slots := 0, locals := 108 } : Room) s m ([.ref (mr 0)] : List Value).toArray below meth c H locs 0 0 (MQ below (va_Qi (fun (r : Int32) (u : (Nat → Int32) × (Nat → Int32)) => (((r : Int32).toInt = mvl (FR (mi 6).toInt (mf 5)) (2 ^ (mi 6).toInt.toNat - 1) ∧ ∀ x : Nat, (x : Int) < (mi 6).toInt → (u.2 x).toInt = prr (FR (mi 6).toInt (mf 5)) (mi 6).toInt.toNat x (mi 6).toInt.toNat (2 ^ (mi 6).toInt.toNat - 1)))) (fun u => QW D cI cJ A ((fun (u : (Nat → Int32) × (Nat → Int32)) => (WZ_Houses1 cI cJ mr mi (va_up (va_up mf 9 u.1) 8 u.2) mg)) u)) A) ([.ref (mr 0)] : List Value).toArray s 0 0 A) (F0 m 11 ls []) := by
    intro k
    induction k with
    | zero =>
      intro x_20 x_21 g_22 _ _ _ hinv hm
      obtain ⟨hi_22_0, hi_22_1, hi_22_2, hi_22_3, hi_22_4⟩ := hinv
      exact absurd hm (by omega)
    | succ k ih_23 =>
      intro x_20 x_21 g_22 H locs ls hinv hm hw24 hl25
      obtain ⟨hi_22_0, hi_22_1, hi_22_2, hi_22_3, hi_22_4⟩ := hinv
      refine lv_iload_n (pc := 11) E.1 E.2.1 dX1_pairUp_11 rfl (lv_at hl25 0 rfl) ?_
      refine lv_aload_n (pc := 12) E.1 E.2.1 dX1_pairUp_12 rfl (lv_at hl25 2 rfl) ?_
      refine x_get (pc := 13) (T := TX1) (N := 9) (ci := 1) (v := .int (mi 6)) E hw24 inX1 0 5 q_281 rfl rfl (by decide) rfl rfl dX1_pairUp_13 ?_
      refine lv_icmp_ge (pc := 16) (tgt := 76) E.1 E.2.1 dX1_pairUp_16 (by decide) (fun c_26 => ?_) (fun c_26 => ?_)
      · skip
        have hc_26 := leE (a := (mi 6).toInt) (b := x_20.toInt) rfl rfl c_26
        refine lv_aload_n (pc := 76) E.1 E.2.1 dX1_pairUp_76 rfl (lv_at hl25 2 rfl) ?_
        refine lv_aload_n (pc := 77) E.1 E.2.1 dX1_pairUp_77 rfl (lv_at hl25 2 rfl) ?_
        refine ck_i (pc := 78) (ws' := (fun (u : Unit) => (WZ_Houses1 cI cJ mr mi (va_up (va_up mf 8 g_22) 9 gpairs_7) mg))) [true, true, true, true, true, true, true, true, true] hw24 rfl (fun hC_ => (rn_V (As := []) (rest := [.ref (mr 0)]) E hw24 (t_all1K l D cI cJ _ mr mi (va_up (va_up mf 8 g_22) 9 gpairs_7) mg h0) (gdV q_1280 q_1281 q_1282 q_154 q_1283) hdV_X1_all ⟨rfl, rfl⟩ ⟨(Nat.le_of_ble_eq_true rfl), (Nat.le_of_ble_eq_true rfl)⟩ ⟨(Nat.le_of_ble_eq_true rfl), (Nat.le_of_ble_eq_true rfl)⟩ xT_b xT_at 0 1 rfl rfl rfl _ hC_ (nd_T _ 0) rfl hl25.1 rfl (Nat.le_of_ble_eq_true rfl) dX1_pairUp_78)) rfl (fun _ => rfl) (fun _ => rfl) (fun r_28 u_27 H1 locs hp hw29 => ?_)
        generalize H1 = H at hw29 ⊢
        have hw30 : WD D A s.heap (WZ_Houses1 cI cJ mr mi (va_up (va_up mf 8 g_22) 9 gpairs_7) mg) H locs := hw29
        obtain ⟨hp_31, hp_32, hp_33⟩ := hp
        have hp_31 : 0 ≤ r_28.toInt := hp_31
        have hp_32 : r_28.toInt ≤ 1023 := hp_32
        have hp_33 : (r_28 : Int32).toInt = ((2 ^ (mi 6).toInt.toNat - 1 : Nat) : Int) := hp_33
        refine ck_i (pc := 81) (ws' := (fun (u : Unit) => (WZ_Houses1 cI cJ mr mi (va_up (va_up mf 8 g_22) 9 gpairs_7) mg))) [true, true, true, true, true, true, true, true, true] hw30 rfl (fun hC_ => (rn_V (As := [.int r_28]) (rest := []) E hw30 (t_pairsInK l D cI cJ _ mr mi (va_up (va_up mf 8 g_22) 9 gpairs_7) mg r_28) (gdV q_1276 q_1278 q_42 q_154 q_1279) hdV_X1_pairsIn ⟨rfl, rfl⟩ ⟨(Nat.le_of_ble_eq_true rfl), (Nat.le_of_ble_eq_true rfl)⟩ ⟨(Nat.le_of_ble_eq_true rfl), (Nat.le_of_ble_eq_true rfl)⟩ xT_b xT_at 0 1 rfl rfl rfl _ hC_ (nd_T _ 0) rfl hl25.1 rfl (Nat.le_of_ble_eq_true rfl) dX1_pairUp_81)) rfl (fun _ => rfl) (fun _ => rfl) (fun r_35 u_34 H1 locs hp hw36 => ?_)
        generalize H1 = H at hw36 ⊢
        have hw37 : WD D A s.heap (WZ_Houses1 cI cJ mr mi (va_up (va_up mf 8 g_22) 9 gpairs_7) mg) H locs := hw36
        have hp_38 := hp
        have hp_38 : (r_35 : Int32).toInt = PINf gpairs_7 r_28.toInt := hp_38
        exact em_i (w1 := (fun (u : (Nat → Int32) × (Nat → Int32)) => (WZ_Houses1 cI cJ mr mi (va_up (va_up mf 9 u.1) 8 u.2) mg))) E hr hlk (gpairs_7, g_22) hw37 (show ((r_35 : Int32).toInt = mvl (FR (mi 6).toInt (mf 5)) (2 ^ (mi 6).toInt.toNat - 1) ∧ ∀ x : Nat, (x : Int) < (mi 6).toInt → (g_22 x).toInt = prr (FR (mi 6).toInt (mf 5)) (mi 6).toInt.toNat x (mi 6).toInt.toNat (2 ^ (mi 6).toInt.toNat - 1)) from ⟨pu_all hp_9 hp_33 hp_38 ⟨by omega, by omega⟩, PU_e hi_22_4 (by omega)⟩) (Nat.le_of_ble_eq_true rfl) (Nat.le_of_ble_eq_true rfl) dX1_pairUp_84
      · skip
        have hc_26 := nleE (a := (mi 6).toInt) (b := x_20.toInt) rfl rfl c_26
        refine lv_iload_n (pc := 19) E.1 E.2.1 dX1_pairUp_19 rfl (lv_at hl25 1 rfl) ?_
        refine lv_iload_n (pc := 20) E.1 E.2.1 dX1_pairUp_20 rfl (lv_at hl25 0 rfl) ?_
        refine lv_ishr (pc := 21) E.1 E.2.1 dX1_pairUp_21 ?_
        refine lv_topi (fun v_39 ev_39 => ?_)
        refine lv_iconst (pc := 22) (v := 1) E.1 E.2.1 dX1_pairUp_22 (by decide +kernel) ?_
        refine lv_iand (pc := 23) E.1 E.2.1 dX1_pairUp_23 ?_
        refine lv_topi (fun v_40 ev_40 => ?_)
        refine lv_iconst (pc := 24) (v := 1) E.1 E.2.1 dX1_pairUp_24 (by decide +kernel) ?_
        have hq_41 := sb_bit ev_39 ev_40 ⟨by omega, by omega⟩ ⟨by omega, by omega⟩
        refine lv_icmp_ne (pc := 25) (tgt := 70) E.1 E.2.1 dX1_pairUp_25 (by decide) (fun c_42 => ?_) (fun c_42 => ?_)
        · skip
          have hc_42 := neE (a := v_40.toInt) (b := 1) rfl (by decide +kernel) c_42
          obtain ⟨v_43, ev_43⟩ : ∃ z : Int32, x_20 + Int32.ofInt (1) = z := ⟨_, rfl⟩
          have hv_43 : v_43.toInt = x_20.toInt + (1) := by rw [← ev_43]; exact incE rfl (by decide) (by omega)
          refine lv_iinc (pc := 70) (v := v_43) (lv' := [(2, .int v_43), (1, .int x_21), (0, .ref (mr 0))]) E.1 E.2.1 dX1_pairUp_70 hl25 (k := 0) rfl ev_43 (by decide) rfl (fun ls hl44 => ?_)
          refine lv_goto (pc := 73) (tgt := 11) E.1 E.2.1 dX1_pairUp_73 (by decide) ?_
          exact ih_23 v_43 x_21 g_22 _ _ _ ⟨(by show 0 ≤ v_43.toInt; omega), (by show v_43.toInt ≤ (mi 6).toInt; omega), hi_22_2, hi_22_3, (PU_no hi_22_4 (by rcases hq_41 with ⟨q, -⟩ | ⟨-, q⟩; omega; exact q) ⟨by omega, by omega⟩ (by omega))⟩ (by omega) hw24 (lv_sub hl44 [0, 1, 2] rfl)
        · skip
          have hc_42 := eqE (a := v_40.toInt) (b := 1) rfl (by decide +kernel) c_42
          refine lv_aload_n (pc := 28) E.1 E.2.1 dX1_pairUp_28 rfl (lv_at hl25 2 rfl) ?_
          refine lv_iload_n (pc := 29) E.1 E.2.1 dX1_pairUp_29 rfl (lv_at hl25 0 rfl) ?_
          refine lv_iload_n (pc := 30) E.1 E.2.1 dX1_pairUp_30 rfl (lv_at hl25 1 rfl) ?_
          refine ck_i (pc := 31) (ws' := (fun (u : Unit) => (WZ_Houses1 cI cJ mr mi (va_up (va_up mf 8 g_22) 9 gpairs_7) mg))) [true, true, true, true, true, true, true, true, true] hw24 rfl (fun hC_ => (rn_V (As := [.int x_20, .int x_21]) (rest := []) E hw24 (t_firstPartnerK l D cI cJ _ mr mi (va_up (va_up mf 8 g_22) 9 gpairs_7) mg x_20 x_21 h0 hi_22_0 (by show x_20.toInt + 1 ≤ (mi 6).toInt; omega) ⟨hi_22_2, hi_22_3⟩ (show WFF (mi 6).toInt (mf 5) from x_wf) (show TBL (FR (mi 6).toInt (mf 5)) gpairs_7 ((2 ^ (mi 6).toInt.toNat : Nat) : Int) from hp_9) (show LFT (mi 6).toInt x_20.toInt x_21.toInt.toNat from hi_22_4.2.1)) (gdV q_1284 q_1286 q_43 q_154 q_1287) hdV_X1_firstPartner ⟨rfl, rfl⟩ ⟨(Nat.le_of_ble_eq_true rfl), (Nat.le_of_ble_eq_true rfl)⟩ ⟨(Nat.le_of_ble_eq_true rfl), (Nat.le_of_ble_eq_true rfl)⟩ xT_b xT_at 0 1 rfl rfl rfl _ hC_ (nd_T _ 0) rfl hl25.1 rfl (Nat.le_of_ble_eq_true rfl) dX1_pairUp_31)) rfl (fun _ => rfl) (fun _ => rfl) (fun r_46 u_45 H1 locs hp hw47 => ?_)
          generalize H1 = H at hw47 ⊢
          have hw48 : WD D A s.heap (WZ_Houses1 cI cJ mr mi (va_up (va_up mf 8 g_22) 9 gpairs_7) mg) H locs := hw47
          obtain ⟨hp_49, hp_50, hp_51⟩ := hp
          have hp_49 : (-1) ≤ r_46.toInt := hp_49
          have hp_50 : r_46.toInt + 1 ≤ (mi 6).toInt := hp_50
          have hp_51 : (r_46 : Int32).toInt = fpN (FR (mi 6).toInt (mf 5)) x_21.toInt.toNat x_20.toInt.toNat (mi 6).toInt.toNat := hp_51
          refine lv_istore_n (pc := 34) (lv' := [(3, .int r_46), (2, .int x_20), (1, .int x_21), (0, .ref (mr 0))]) E.1 E.2.1 dX1_pairUp_34 rfl hl25 (by decide) rfl (fun ls hl52 => ?_)
          refine lv_aload_n (pc := 35) E.1 E.2.1 dX1_pairUp_35 rfl (lv_at hl52 3 rfl) ?_
          refine x_get (pc := 36) (T := TX1) (N := 9) (ci := 1) (v := .ref (mr 8)) E hw48 inX1 0 7 q_286 rfl rfl (by decide) rfl rfl dX1_pairUp_36 ?_
          refine lv_iload_n (pc := 39) E.1 E.2.1 dX1_pairUp_39 rfl (lv_at hl52 1 rfl) ?_
          refine lv_iload_n (pc := 40) E.1 E.2.1 dX1_pairUp_40 rfl (lv_at hl52 0 rfl) ?_
          refine x_iastG (pc := 41) (f := g_22) (wf := fun g => (WZ_Houses1 cI cJ mr mi (va_up (va_up mf 8 g) 9 gpairs_7) mg)) E hw48 7 rfl (inbE (a := x_20.toInt) rfl (by omega)) (fun _ => rfl) dX1_pairUp_41 (fun g_53 H locs eg_53 hw54 => ?_)
          refine lv_iload_n (pc := 42) E.1 E.2.1 dX1_pairUp_42 rfl (lv_at hl52 2 rfl) ?_
          refine lv_iconst (pc := 43) (v := 1) E.1 E.2.1 dX1_pairUp_43 (by decide +kernel) ?_
          refine lv_iload_n (pc := 44) E.1 E.2.1 dX1_pairUp_44 rfl (lv_at hl52 1 rfl) ?_
          refine lv_ishl (pc := 45) E.1 E.2.1 dX1_pairUp_45 ?_
          refine lv_topi (fun v_55 ev_55 => ?_)
          have hb1v_55 : 1 ≤ v_55.toInt ∧ v_55.toInt ≤ 512 := by rw [ev_55]; exact shl9 (by omega)
          refine lv_iconst (pc := 46) (v := (-1)) E.1 E.2.1 dX1_pairUp_46 (by decide +kernel) ?_
          refine lv_ixor (pc := 47) E.1 E.2.1 dX1_pairUp_47 ?_
          refine lv_topi (fun v_56 ev_56 => ?_)
          refine lv_iand (pc := 48) E.1 E.2.1 dX1_pairUp_48 ?_
          refine lv_topi (fun v_57 ev_57 => ?_)
          have hb1v_57 : 0 ≤ v_57.toInt ∧ v_57.toInt ≤ x_21.toInt := by rw [ev_57]; exact and10 (by omega)
          refine lv_istore_n (pc := 49) (lv' := [(1, .int v_57), (3, .int r_46), (2, .int x_20), (0, .ref (mr 0))]) E.1 E.2.1 dX1_pairUp_49 rfl hl52 (by decide) rfl (fun ls hl58 => ?_)
          refine lv_iload_n (pc := 50) E.1 E.2.1 dX1_pairUp_50 rfl (lv_at hl58 1 rfl) ?_
          refine lv_iconst (pc := 51) (v := (-1)) E.1 E.2.1 dX1_pairUp_51 (by decide +kernel) ?_
          refine lv_icmp_eq (pc := 52) (tgt := 70) E.1 E.2.1 dX1_pairUp_52 (by decide) (fun c_59 => ?_) (fun c_59 => ?_)
          · skip
            have hc_59 := eqE (a := r_46.toInt) (b := (-1)) rfl (by decide +kernel) c_59
            obtain ⟨v_60, ev_60⟩ : ∃ z : Int32, x_20 + Int32.ofInt (1) = z := ⟨_, rfl⟩
            have hv_60 : v_60.toInt = x_20.toInt + (1) := by rw [← ev_60]; exact incE rfl (by decide) (by omega)
            refine lv_iinc (pc := 70) (v := v_60) (lv' := [(2, .int v_60), (1, .int v_57), (3, .int r_46), (0, .ref (mr 0))]) E.1 E.2.1 dX1_pairUp_70 hl58 (k := 2) rfl ev_60 (by decide) rfl (fun ls hl61 => ?_)
            refine lv_goto (pc := 73) (tgt := 11) E.1 E.2.1 dX1_pairUp_73 (by decide) ?_
            exact ih_23 v_60 v_57 g_53 _ _ _ ⟨(by show 0 ≤ v_60.toInt; omega), (by show v_60.toInt ≤ (mi 6).toInt; omega), (by show 0 ≤ v_57.toInt; omega), (by show v_57.toInt ≤ 1023; omega), (PU_one hi_22_4 (by rcases hq_41 with ⟨-, q⟩ | ⟨q, -⟩; exact q; omega) ⟨by omega, by omega⟩ (by omega) hp_51 (by omega) eg_53 ev_55 ev_56 ev_57 (by omega))⟩ (by omega) hw54 (lv_sub hl61 [0, 1, 3] rfl)
          · skip
            have hc_59 := neE (a := r_46.toInt) (b := (-1)) rfl (by decide +kernel) c_59
            refine lv_aload_n (pc := 55) E.1 E.2.1 dX1_pairUp_55 rfl (lv_at hl58 3 rfl) ?_
            refine x_get (pc := 56) (T := TX1) (N := 9) (ci := 1) (v := .ref (mr 8)) E hw54 inX1 0 7 q_286 rfl rfl (by decide) rfl rfl dX1_pairUp_56 ?_
            refine lv_iload_n (pc := 59) E.1 E.2.1 dX1_pairUp_59 rfl (lv_at hl58 1 rfl) ?_
            refine lv_iload_n (pc := 60) E.1 E.2.1 dX1_pairUp_60 rfl (lv_at hl58 2 rfl) ?_
            refine x_iastG (pc := 61) (f := g_53) (wf := fun g => (WZ_Houses1 cI cJ mr mi (va_up (va_up mf 8 g) 9 gpairs_7) mg)) E hw54 7 rfl (inbE (a := r_46.toInt) rfl (by omega)) (fun _ => rfl) dX1_pairUp_61 (fun g_62 H locs eg_62 hw63 => ?_)
            refine lv_iload_n (pc := 62) E.1 E.2.1 dX1_pairUp_62 rfl (lv_at hl58 0 rfl) ?_
            refine lv_iconst (pc := 63) (v := 1) E.1 E.2.1 dX1_pairUp_63 (by decide +kernel) ?_
            refine lv_iload_n (pc := 64) E.1 E.2.1 dX1_pairUp_64 rfl (lv_at hl58 1 rfl) ?_
            refine lv_ishl (pc := 65) E.1 E.2.1 dX1_pairUp_65 ?_
            refine lv_topi (fun v_64 ev_64 => ?_)
            have hb1v_64 : 1 ≤ v_64.toInt ∧ v_64.toInt ≤ 512 := by rw [ev_64]; exact shl9 (by omega)
            refine lv_iconst (pc := 66) (v := (-1)) E.1 E.2.1 dX1_pairUp_66 (by decide +kernel) ?_
            refine lv_ixor (pc := 67) E.1 E.2.1 dX1_pairUp_67 ?_
            refine lv_topi (fun v_65 ev_65 => ?_)
            refine lv_iand (pc := 68) E.1 E.2.1 dX1_pairUp_68 ?_
            refine lv_topi (fun v_66 ev_66 => ?_)
            have hb1v_66 : 0 ≤ v_66.toInt ∧ v_66.toInt ≤ v_57.toInt := by rw [ev_66]; exact and10 (by omega)
            refine lv_istore_n (pc := 69) (lv' := [(1, .int v_66), (3, .int r_46), (2, .int x_20), (0, .ref (mr 0))]) E.1 E.2.1 dX1_pairUp_69 rfl hl58 (by decide) rfl (fun ls hl67 => ?_)
            obtain ⟨v_68, ev_68⟩ : ∃ z : Int32, x_20 + Int32.ofInt (1) = z := ⟨_, rfl⟩
            have hv_68 : v_68.toInt = x_20.toInt + (1) := by rw [← ev_68]; exact incE rfl (by decide) (by omega)
            refine lv_iinc (pc := 70) (v := v_68) (lv' := [(2, .int v_68), (1, .int v_66), (3, .int r_46), (0, .ref (mr 0))]) E.1 E.2.1 dX1_pairUp_70 hl67 (k := 2) rfl ev_68 (by decide) rfl (fun ls hl69 => ?_)
            refine lv_goto (pc := 73) (tgt := 11) E.1 E.2.1 dX1_pairUp_73 (by decide) ?_
            exact ih_23 v_68 v_66 g_62 _ _ _ ⟨(by show 0 ≤ v_68.toInt; omega), (by show v_68.toInt ≤ (mi 6).toInt; omega), (by show 0 ≤ v_66.toInt; omega), (by show v_66.toInt ≤ 1023; omega), (PU_two hi_22_4 (by rcases hq_41 with ⟨-, q⟩ | ⟨q, -⟩; exact q; omega) ⟨by omega, by omega⟩ (by omega) hp_51 ⟨by omega, by omega⟩ eg_53 eg_62 ev_55 ev_56 ev_57 ev_64 ev_65 ev_66 (by omega))⟩ (by omega) hw63 (lv_sub hl69 [0, 1, 3] rfl)
  exact loop_19 (Int.toNat ((mi 6).toInt - 0) + 1) 0 r_11 (mf 8) _ _ _ ⟨(by show 0 ≤ (0 : Int32).toInt; have k_0 : (0 : Int32).toInt = 0 := (by decide +kernel); omega), (by show (0 : Int32).toInt ≤ (mi 6).toInt; have k_0 : (0 : Int32).toInt = 0 := (by decide +kernel); omega), hp_14, hp_15, (PU_i hp_16 (by decide +kernel) ⟨by omega, by omega⟩)⟩ (by have k_0 : (0 : Int32).toInt = 0 := (by decide +kernel); omega) hw13 (lv_sub hl18 [0, 1, 2] rfl)
set_option maxHeartbeats 4000000 in
set_option maxRecDepth 100000 in
theorem t_forgetPlanN (l : Launch) (D : va_G) (cI cJ : ClassId) (sz : Nat) (mr : Nat → Nat) (mi : Nat → Int32) (mf : Nat → Nat → Int32) (mg : Nat → Nat → Int64)  (mv : Nat → Value)  : Met l yX11_forgetPlan (Cond.code yX11_forgetPlan cX11_forgetPlan 1 none :: GW) ({ frames := 1, cells := 0, slots := 0, locals := 40 } : Room) (va_Pc [.ref (mr 0)] (PW D cI cJ sz (WZ_LfN cI cJ mv mr mi mf mg) xT)) (va_Qv (fun (u : Unit) => True) (fun u => QW D cI cJ (va_A (WZ_LfN cI cJ mv mr mi mf mg) sz) ((fun (u : Unit) => (WZ_LfN cI cJ mv mr mi mf mg)) u)) (va_A (WZ_LfN cI cJ mv mr mi mf mg) sz)) 0 0 (va_A (WZ_LfN cI cJ mv mr mi mf mg) sz) := by
  refine mk_met (y := yX11_forgetPlan) (bytes := cX11_forgetPlan) (maxL := 1) (avs := [.ref (mr 0)]) (WS := (WZ_LfN cI cJ mv mr mi mf mg)) (Qf := fun A => va_Qv (fun (u : Unit) => True) (fun u => QW D cI cJ A ((fun (u : Unit) => (WZ_LfN cI cJ mv mr mi mf mg)) u)) A) (by decide) (Nat.le_of_ble_eq_true rfl) ?_
  intro p e s m below meth c A ls E hr hlk hnm hX hw1 hl2
  have hl3 : lv_has ls 1 [(0, .ref (mr 0))] := hl2
  refine lv_aload_n (pc := 0) E.1 E.2.1 dX11_forgetPlan_0 rfl (lv_at hl3 0 rfl) ?_
  refine x_get (pc := 1) (T := TX11) (N := 13) (ci := 11) (v := .null) E hw1 inX11 0 11 q_617 rfl rfl (by decide) rfl rfl dX11_forgetPlan_1 ?_
  refine lv_ifnullN (pc := 4) (tgt := 15) E.1 E.2.1 dX11_forgetPlan_4 (by decide) ?_
  exact em_v (w1 := (fun (u : Unit) => (WZ_LfN cI cJ mv mr mi mf mg))) E hr hlk () hw1 trivial (Nat.le_of_ble_eq_true rfl) (Nat.le_of_ble_eq_true rfl) dX11_forgetPlan_15
set_option maxHeartbeats 4000000 in
set_option maxRecDepth 100000 in
theorem t_forgetNightsN (l : Launch) (D : va_G) (cI cJ : ClassId) (sz : Nat) (mr : Nat → Nat) (mi : Nat → Int32) (mf : Nat → Nat → Int32) (mg : Nat → Nat → Int64)  (mv : Nat → Value)  : Met l yX11_forgetNights (Cond.code yX11_forgetNights cX11_forgetNights 1 none :: GW) ({ frames := 2, cells := 0, slots := 0, locals := 60 } : Room) (va_Pc [.ref (mr 0)] (PW D cI cJ sz (WZ_LfN cI cJ mv mr mi mf mg) xT)) (va_Qv (fun (u : Int32 × Int32) => (u.1.toInt = 0) ∧ (u.2.toInt = 0)) (fun u => QW D cI cJ (va_A (WZ_LfN cI cJ mv mr mi mf mg) sz) ((fun (u : Int32 × Int32) => (WZ_LfN cI cJ mv mr (upd (upd mi 1 u.1) 2 u.2) mf mg)) u)) (va_A (WZ_LfN cI cJ mv mr mi mf mg) sz)) 0 0 (va_A (WZ_LfN cI cJ mv mr mi mf mg) sz) := by
  refine mk_met (y := yX11_forgetNights) (bytes := cX11_forgetNights) (maxL := 1) (avs := [.ref (mr 0)]) (WS := (WZ_LfN cI cJ mv mr mi mf mg)) (Qf := fun A => va_Qv (fun (u : Int32 × Int32) => (u.1.toInt = 0) ∧ (u.2.toInt = 0)) (fun u => QW D cI cJ A ((fun (u : Int32 × Int32) => (WZ_LfN cI cJ mv mr (upd (upd mi 1 u.1) 2 u.2) mf mg)) u)) A) (by decide) (Nat.le_of_ble_eq_true rfl) ?_
  intro p e s m below meth c A ls E hr hlk hnm hX hw1 hl2
  have hl3 : lv_has ls 1 [(0, .ref (mr 0))] := hl2
  refine lv_aload_n (pc := 0) E.1 E.2.1 dX11_forgetNights_0 rfl (lv_at hl3 0 rfl) ?_
  refine lv_iconst (pc := 1) (v := 0) E.1 E.2.1 dX11_forgetNights_1 (by decide +kernel) ?_
  refine x_put (pc := 2) (T := TX11) (N := 13) (ci := 11) (ws' := (WZ_LfN cI cJ mv mr (upd mi 2 0) mf mg)) E hw1 inX11 tyX11_ok nmX11 0 10 q_616 rfl rfl (by decide) rfl rfl rfl rfl (Nat.le_of_ble_eq_true rfl) rfl dX11_forgetNights_2 (fun H locs hw4 => ?_)
  refine lv_aload_n (pc := 5) E.1 E.2.1 dX11_forgetNights_5 rfl (lv_at hl3 0 rfl) ?_
  refine lv_iconst (pc := 6) (v := 0) E.1 E.2.1 dX11_forgetNights_6 (by decide +kernel) ?_
  refine x_put (pc := 7) (T := TX11) (N := 13) (ci := 11) (ws' := (WZ_LfN cI cJ mv mr (upd (upd mi 1 0) 2 0) mf mg)) E hw4 inX11 tyX11_ok nmX11 0 9 q_615 rfl rfl (by decide) rfl rfl rfl rfl (Nat.le_of_ble_eq_true rfl) rfl dX11_forgetNights_7 (fun H locs hw5 => ?_)
  refine lv_aload_n (pc := 10) E.1 E.2.1 dX11_forgetNights_10 rfl (lv_at hl3 0 rfl) ?_
  refine ck_v (pc := 11) (ws' := (fun (u : Unit) => (WZ_LfN cI cJ mv mr (upd (upd mi 1 0) 2 0) mf mg))) [true] hw5 rfl (fun hC_ => (rn_V (As := []) (rest := []) E hw5 (t_forgetPlanN l D cI cJ _ mr (upd (upd mi 1 0) 2 0) mf mg (vl [mv 0, mv 1, mv 2, mv 3, mv 4, mv 5, mv 6, mv 7, mv 8, mv 9])) (gdV q_654 q_656 q_1 q_151 q_657) hdV_X11_forgetPlan ⟨rfl, rfl⟩ ⟨(Nat.le_of_ble_eq_true rfl), (Nat.le_of_ble_eq_true rfl)⟩ ⟨(Nat.le_of_ble_eq_true rfl), (Nat.le_of_ble_eq_true rfl)⟩ xT_b xT_at 0 11 rfl rfl rfl _ hC_ (nd_T _ 0) rfl hl3.1 rfl (Nat.le_of_ble_eq_true rfl) dX11_forgetNights_11)) rfl (fun _ => rfl) (fun _ => rfl) (fun u_6 H1 locs hp hw8 => ?_)
  generalize H1 = H at hw8 ⊢
  have hw9 : WD D A s.heap (WZ_LfN cI cJ mv mr (upd (upd mi 1 0) 2 0) mf mg) H locs := hw8
  exact em_v (w1 := (fun (u : Int32 × Int32) => (WZ_LfN cI cJ mv mr (upd (upd mi 1 u.1) 2 u.2) mf mg))) E hr hlk (0, 0) hw9 ⟨(by show (0 : Int32).toInt = 0; have k_0 : (0 : Int32).toInt = 0 := (by decide +kernel); have k_1 : (0 : Int32).toInt = 0 := (by decide +kernel); omega), (by show (0 : Int32).toInt = 0; have k_0 : (0 : Int32).toInt = 0 := (by decide +kernel); have k_1 : (0 : Int32).toInt = 0 := (by decide +kernel); omega)⟩ (Nat.le_of_ble_eq_true rfl) (Nat.le_of_ble_eq_true rfl) dX11_forgetNights_14
set_option maxHeartbeats 4000000 in
set_option maxRecDepth 100000 in
theorem t_stateN (l : Launch) (D : va_G) (cI cJ : ClassId) (sz : Nat) (mr : Nat → Nat) (mi : Nat → Int32) (mf : Nat → Nat → Int32) (mg : Nat → Nat → Int64) (z_v : Int32) (mv : Nat → Value) (h0 : 0 ≤ (mi 1).toInt ∧ (mi 1).toInt ≤ 5) (h1 : 0 ≤ (mi 2).toInt ∧ (mi 2).toInt ≤ 6) (h2 : 0 ≤ (mi 14).toInt ∧ (mi 14).toInt ≤ 200) : Met l yX11_state (Cond.code yX11_state cX11_state 3 (some .int) :: GW) ({ frames := 11, cells := 0, slots := 0, locals := 263 } : Room) (va_Pc [.ref (mr 0), .int z_v] (PW D cI cJ sz (WZ_LstateN cI cJ mv mr mi mf mg) xT)) (va_Qi (fun (r : Int32) (u : (Nat → Int32) × (Nat → Nat → Int32) × (Nat → Nat → Int64)) => (0 ≤ (u.1 1).toInt) ∧ ((u.1 1).toInt ≤ 5) ∧ (0 ≤ (u.1 2).toInt) ∧ ((u.1 2).toInt ≤ 6) ∧ (0 ≤ (u.1 14).toInt) ∧ ((u.1 14).toInt ≤ 200)) (fun u => QW D cI cJ (va_A (WZ_LstateN cI cJ mv mr mi mf mg) sz) ((fun (u : (Nat → Int32) × (Nat → Nat → Int32) × (Nat → Nat → Int64)) => (WZ_LstateN cI cJ mv mr u.1 u.2.1 u.2.2)) u)) (va_A (WZ_LstateN cI cJ mv mr mi mf mg) sz)) 0 0 (va_A (WZ_LstateN cI cJ mv mr mi mf mg) sz) := by
  refine mk_met (y := yX11_state) (bytes := cX11_state) (maxL := 3) (avs := [.ref (mr 0), .int z_v]) (WS := (WZ_LstateN cI cJ mv mr mi mf mg)) (Qf := fun A => va_Qi (fun (r : Int32) (u : (Nat → Int32) × (Nat → Nat → Int32) × (Nat → Nat → Int64)) => (0 ≤ (u.1 1).toInt) ∧ ((u.1 1).toInt ≤ 5) ∧ (0 ≤ (u.1 2).toInt) ∧ ((u.1 2).toInt ≤ 6) ∧ (0 ≤ (u.1 14).toInt) ∧ ((u.1 14).toInt ≤ 200)) (fun u => QW D cI cJ A ((fun (u : (Nat → Int32) × (Nat → Nat → Int32) × (Nat → Nat → Int64)) => (WZ_LstateN cI cJ mv mr u.1 u.2.1 u.2.2)) u)) A) (by decide) (Nat.le_of_ble_eq_true rfl) ?_
  intro p e s m below meth c A ls E hr hlk hnm hX hw1 hl2
  have hl3 : lv_has ls 3 [(0, .ref (mr 0)), (1, .int z_v)] := hl2
  refine lv_aload_n (pc := 0) E.1 E.2.1 dX11_state_0 rfl (lv_at hl3 0 rfl) ?_
  refine x_get (pc := 1) (T := TX11) (N := 13) (ci := 11) (v := .ref (mr 3)) E hw1 inX11 0 0 q_606 rfl rfl (by decide) rfl rfl dX11_state_1 ?_
  refine x_get (pc := 4) (T := TX10) (N := 17) (ci := 10) (v := .ref (mr 8)) E hw1 inX10 1 0 q_458 rfl rfl (by decide) rfl rfl dX11_state_4 ?_
  refine x_get (pc := 7) (T := TX4) (N := 12) (ci := 4) (v := .int (mi 13)) E hw1 inX4 2 9 q_226 rfl rfl (by decide) rfl rfl dX11_state_7 ?_
  refine lv_istore_n (pc := 10) (lv' := [(2, .int (mi 13)), (0, .ref (mr 0)), (1, .int z_v)]) E.1 E.2.1 dX11_state_10 rfl hl3 (by decide) rfl (fun ls hl4 => ?_)
  refine lv_aload_n (pc := 11) E.1 E.2.1 dX11_state_11 rfl (lv_at hl4 1 rfl) ?_
  refine x_get (pc := 12) (T := TX11) (N := 13) (ci := 11) (v := .ref (mr 3)) E hw1 inX11 0 0 q_606 rfl rfl (by decide) rfl rfl dX11_state_12 ?_
  refine x_get (pc := 15) (T := TX10) (N := 17) (ci := 10) (v := .ref (mr 8)) E hw1 inX10 1 0 q_458 rfl rfl (by decide) rfl rfl dX11_state_15 ?_
  refine lv_iload_n (pc := 18) E.1 E.2.1 dX11_state_18 rfl (lv_at hl4 2 rfl) ?_
  refine x_put (pc := 19) (T := TX4) (N := 12) (ci := 4) (ws' := (WZ_LstateN cI cJ mv mr (upd mi 13 z_v) mf mg)) E hw1 inX4 tyX4_ok nmX4 2 9 q_226 rfl rfl (by decide) rfl rfl rfl rfl (Nat.le_of_ble_eq_true rfl) rfl dX11_state_19 (fun H locs hw5 => ?_)
  refine lv_aload_n (pc := 22) E.1 E.2.1 dX11_state_22 rfl (lv_at hl4 1 rfl) ?_
  refine ck_v (pc := 23) (ws' := (fun (u : Int32 × Int32) => (WZ_LstateN cI cJ mv mr (upd (upd (upd mi 1 u.1) 2 u.2) 13 z_v) mf mg))) [true, false, false] hw5 rfl (fun hC_ => (rn_V (As := []) (rest := []) E hw5 (t_forgetNightsN l D cI cJ _ mr (upd mi 13 z_v) mf mg (vl [.ref (mr 3), mv 0, mv 1, mv 2, mv 3, mv 4, mv 5, mv 6, mv 7, mv 8])) (gdV q_650 q_652 q_0 q_151 q_653) hdV_X11_forgetNights ⟨rfl, rfl⟩ ⟨(Nat.le_of_ble_eq_true rfl), (Nat.le_of_ble_eq_true rfl)⟩ ⟨(Nat.le_of_ble_eq_true rfl), (Nat.le_of_ble_eq_true rfl)⟩ xT_b xT_at 0 11 rfl rfl rfl _ hC_ (nd_T _ 0) rfl hl4.1 rfl (Nat.le_of_ble_eq_true rfl) dX11_state_23)) rfl (fun _ => rfl) (fun _ => rfl) (fun u_6 H1 locs hp hw8 => ?_)
  obtain ⟨noldest_9, nundoable_10⟩ := u_6
  generalize H1 = H at hw8 ⊢
  have hw11 : WD D A s.heap (WZ_LstateN cI cJ mv mr (upd (upd (upd mi 1 noldest_9) 2 nundoable_10) 13 z_v) mf mg) H locs := hw8
  obtain ⟨hp_12, hp_13⟩ := hp
  have hp_12 : noldest_9.toInt = 0 := hp_12
  have hp_13 : nundoable_10.toInt = 0 := hp_13
  refine lv_iload_n (pc := 26) E.1 E.2.1 dX11_state_26 rfl (lv_at hl4 0 rfl) ?_
  exact em_i (w1 := (fun (u : (Nat → Int32) × (Nat → Nat → Int32) × (Nat → Nat → Int64)) => (WZ_LstateN cI cJ mv mr u.1 u.2.1 u.2.2))) E hr hlk ((upd (upd (upd mi 1 noldest_9) 2 nundoable_10) 13 z_v), mf, mg) hw11 ⟨(by show 0 ≤ noldest_9.toInt; omega), (by show noldest_9.toInt ≤ 5; omega), (by show 0 ≤ nundoable_10.toInt; omega), (by show nundoable_10.toInt ≤ 6; omega), h2.1, h2.2⟩ (Nat.le_of_ble_eq_true rfl) (Nat.le_of_ble_eq_true rfl) dX11_state_27
