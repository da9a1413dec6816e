set_option maxHeartbeats 4000000 in
set_option maxRecDepth 100000 in
theorem s_readStepsT (l : Launch) (D : va_G) (cI cJ : ClassId) (sz M : Nat) (mr : Nat → Nat) (mi : Nat → Int32) (mf : Nat → Nat → Int32) (mg : Nat → Nat → Int64)  (h0 : 0 ≤ (mi 23).toInt) (h1 : (mi 23).toInt ≤ (mi 22).toInt) (h2 : (mi 22).toInt ≤ (mi 21).toInt) (h3 : (mi 21).toInt ≤ 400) (h4 : 0 ≤ (mi 24).toInt) (h5 : (mi 24).toInt ≤ 4) (h6 : (mi 24).toInt ≤ 4 * (mi 22).toInt - 4 * (mi 23).toInt) (h7 : ((mf 26) 153).toInt = 32) (h8 : 0 ≤ (mi 6).toInt ∧ (mi 6).toInt ≤ 10) (h9 : (mi 35).toInt = 0) (a_tape : b255 (mf 20)) (lf_words : (∀ j : Nat, j < 154 → (mf 26) j = w0 j)) (lf_again : AGN ((mi 24).toInt) ((mi 25).toInt) ((mi 23).toInt) ((mi 22).toInt)) : Met l yX12_readSteps (Cond.code yX12_readSteps cX12_readSteps 2 (some .int) :: GW) ({ frames := 6, cells := 0, slots := 0, locals := 150 } : Room) (va_Pc [.ref M] (PW D cI cJ sz (MW cI cJ M mr mi mf mg) xT)) (va_Qi (fun (r : Int32) (u : Int32 × Int32 × Int32 × Int32 × Int32 × Int32 × (Nat → Int32) × (Nat → Int32) × Int32 × Int32) => (0 ≤ u.2.1.toInt) ∧ (u.2.1.toInt ≤ u.1.toInt) ∧ (u.1.toInt ≤ (mi 21).toInt) ∧ (0 ≤ u.2.2.1.toInt) ∧ (u.2.2.1.toInt ≤ 4) ∧ (u.2.2.1.toInt ≤ 4 * u.1.toInt - 4 * u.2.1.toInt) ∧ (AGN u.2.2.1.toInt u.2.2.2.1.toInt u.2.1.toInt u.1.toInt) ∧ (r = 0 → (∃ t : Nat, t = 0 ∧ RSP u.2.2.2.2.2.2.1 u.2.2.2.2.2.2.2.1 (mi 6).toInt ((u.2.2.2.2.2.2.2.2.1.toInt).toNat) t)) ∧ ((∀ p0 : Int, TKR (mf 20) (mi 21).toInt p0 (mi 23).toInt (mi 22).toInt (mi 24).toInt (mi 25).toInt → SR (mf 20) (mi 21).toInt ((rnG (endR (mf 20) (mi 21).toInt) (itR (mf 20) (mi 21).toInt ((mi 6).toInt - 1)) 401 (0, []) p0).bind (opnG (mf 20) (mi 21).toInt)) (stpL u.2.2.2.2.2.2.1 u.2.2.2.2.2.2.2.1 ((u.2.2.2.2.2.2.2.2.1.toInt).toNat)) (r : Int32).toInt u.2.2.2.2.1.toInt u.2.2.2.2.2.1.toInt u.2.1.toInt)) ∧ ((r = (-1)) ∨ (r = 0 ∧ 0 ≤ u.2.2.2.2.2.2.2.2.1.toInt ∧ u.2.2.2.2.2.2.2.2.1.toInt ≤ 140))) (fun u => QW D cI cJ (va_A (MW cI cJ M mr mi mf mg) sz) ((fun (u : Int32 × Int32 × Int32 × Int32 × Int32 × Int32 × (Nat → Int32) × (Nat → Int32) × Int32 × Int32) => (MW cI cJ M mr (upd (upd (upd (upd (upd (upd (upd (upd mi 22 u.1) 23 u.2.1) 24 u.2.2.1) 25 u.2.2.2.1) 38 u.2.2.2.2.1) 39 u.2.2.2.2.2.1) 48 u.2.2.2.2.2.2.2.2.1) 35 u.2.2.2.2.2.2.2.2.2) (va_up (va_up mf 46 u.2.2.2.2.2.2.1) 47 u.2.2.2.2.2.2.2.1) mg)) u)) (va_A (MW cI cJ M mr mi mf mg) sz)) 0 0 (va_A (MW cI cJ M mr mi mf mg) sz) := by
  refine mk_met (y := yX12_readSteps) (bytes := cX12_readSteps) (maxL := 2) (avs := [.ref M]) (WS := (MW cI cJ M mr mi mf mg)) (Qf := fun A => va_Qi (fun (r : Int32) (u : Int32 × Int32 × Int32 × Int32 × Int32 × Int32 × (Nat → Int32) × (Nat → Int32) × Int32 × Int32) => (0 ≤ u.2.1.toInt) ∧ (u.2.1.toInt ≤ u.1.toInt) ∧ (u.1.toInt ≤ (mi 21).toInt) ∧ (0 ≤ u.2.2.1.toInt) ∧ (u.2.2.1.toInt ≤ 4) ∧ (u.2.2.1.toInt ≤ 4 * u.1.toInt - 4 * u.2.1.toInt) ∧ (AGN u.2.2.1.toInt u.2.2.2.1.toInt u.2.1.toInt u.1.toInt) ∧ (r = 0 → (∃ t : Nat, t = 0 ∧ RSP u.2.2.2.2.2.2.1 u.2.2.2.2.2.2.2.1 (mi 6).toInt ((u.2.2.2.2.2.2.2.2.1.toInt).toNat) t)) ∧ ((∀ p0 : Int, TKR (mf 20) (mi 21).toInt p0 (mi 23).toInt (mi 22).toInt (mi 24).toInt (mi 25).toInt → SR (mf 20) (mi 21).toInt ((rnG (endR (mf 20) (mi 21).toInt) (itR (mf 20) (mi 21).toInt ((mi 6).toInt - 1)) 401 (0, []) p0).bind (opnG (mf 20) (mi 21).toInt)) (stpL u.2.2.2.2.2.2.1 u.2.2.2.2.2.2.2.1 ((u.2.2.2.2.2.2.2.2.1.toInt).toNat)) (r : Int32).toInt u.2.2.2.2.1.toInt u.2.2.2.2.2.1.toInt u.2.1.toInt)) ∧ ((r = (-1)) ∨ (r = 0 ∧ 0 ≤ u.2.2.2.2.2.2.2.2.1.toInt ∧ u.2.2.2.2.2.2.2.2.1.toInt ≤ 140))) (fun u => QW D cI cJ A ((fun (u : Int32 × Int32 × Int32 × Int32 × Int32 × Int32 × (Nat → Int32) × (Nat → Int32) × Int32 × Int32) => (MW cI cJ M mr (upd (upd (upd (upd (upd (upd (upd (upd mi 22 u.1) 23 u.2.1) 24 u.2.2.1) 25 u.2.2.2.1) 38 u.2.2.2.2.1) 39 u.2.2.2.2.2.1) 48 u.2.2.2.2.2.2.2.2.1) 35 u.2.2.2.2.2.2.2.2.2) (va_up (va_up mf 46 u.2.2.2.2.2.2.1) 47 u.2.2.2.2.2.2.2.1) mg)) u)) A) (by decide) (Nat.le_of_ble_eq_true rfl) ?_
  intro p e s m below meth c A ls E hr hlk hnm hX hw1 hl2
  have hl3 : lv_has ls 2 [(0, .ref M)] := hl2
  refine lv_aload_n (pc := 0) E.1 E.2.1 dX12_readSteps_0 rfl (lv_at hl3 0 rfl) ?_
  refine lv_iconst (pc := 1) (v := 0) E.1 E.2.1 dX12_readSteps_1 (by decide +kernel) ?_
  refine x_put (pc := 2) (T := TX12) (N := 70) (ci := 12) (ws' := (MW cI cJ M mr (upd mi 48 0) mf mg)) E hw1 inX12 tyX12_ok nmX12 0 48 q_1447 rfl rfl (by decide) rfl rfl rfl rfl (Nat.le_of_ble_eq_true rfl) rfl dX12_readSteps_2 (fun H locs hw4 => ?_)
  have loop_5 : ∀ (k : Nat) (x_6 : Int32) (x_7 : Int32) (x_8 : Int32) (x_9 : Int32) (x_10 : Int32) (x_11 : Int32) (x_12 : Int32) (x_13 : Int32) (g_14 : Nat → Int32) (g_15 : Nat → Int32) (H : Heap) (locs : List Loc) (ls : Array Slot), (0 ≤ x_7.toInt) ∧ (x_7.toInt ≤ x_6.toInt) ∧ (x_6.toInt ≤ (mi 21).toInt) ∧ (0 ≤ x_8.toInt) ∧ (x_8.toInt ≤ 4) ∧ (x_8.toInt ≤ 4 * x_6.toInt - 4 * x_7.toInt) ∧ (0 ≤ x_12.toInt) ∧ (3 * x_12.toInt + 2 * x_13.toInt ≤ x_7.toInt) ∧ (0 ≤ x_13.toInt) ∧ (x_13.toInt ≤ 4) ∧ (RSP g_14 g_15 (mi 6).toInt ((x_12.toInt).toNat) (x_13.toInt).toNat) ∧ (RRL (mf 20) (mi 21).toInt ((mi 6).toInt - 1) (mi 23).toInt (mi 22).toInt (mi 24).toInt (mi 25).toInt (stpL g_14 g_15 ((x_12.toInt).toNat)) ((x_13.toInt).toNat) x_7.toInt x_6.toInt x_8.toInt x_9.toInt) ∧ (AGN x_8.toInt x_9.toInt x_7.toInt x_6.toInt) → (mi 21).toInt - x_7.toInt < (k : Int) → WD D A s.heap (MW cI cJ M mr (upd (upd (upd (upd (upd (upd (upd (upd mi 22 x_6) 23 x_7) 24 x_8) 25 x_9) 35 x_13) 38 x_10) 39 x_11) 48 x_12) (va_up (va_up mf 46 g_14) 47 g_15) mg) H locs → lv_has ls 2 [(0, .ref M)] → W p l e ({ frames := 6, cells := 0, slots := 0, locals := 150 } : Room) s m ([.ref M] : List Value).toArray below meth c H locs 0 0 (MQ below (va_Qi (fun (r : Int32) (u : Int32 × Int32 × Int32 × Int32 × Int32 × Int32 × (Nat → Int32) × (Nat → Int32) × Int32 × Int32) => (0 ≤ u.2.1.toInt) ∧ (u.2.1.toInt ≤ u.1.toInt) ∧ (u.1.toInt ≤ (mi 21).toInt) ∧ (0 ≤ u.2.2.1.toInt) ∧ (u.2.2.1.toInt ≤ 4) ∧ (u.2.2.1.toInt ≤ 4 * u.1.toInt - 4 * u.2.1.toInt) ∧ (AGN u.2.2.1.toInt u.2.2.2.1.toInt u.2.1.toInt u.1.toInt) ∧ (r = 0 → (∃ t : Nat, t = 0 ∧ RSP u.2.2.2.2.2.2.1 u.2.2.2.2.2.2.2.1 (mi 6).toInt ((u.2.2.2.2.2.2.2.2.1.toInt).toNat) t)) ∧ ((∀ p0 : Int, TKR (mf 20) (mi 21).toInt p0 (mi 23).toInt (mi 22).toInt (mi 24).toInt (mi 25).toInt → SR (mf 20) (mi 21).toInt ((rnG (endR (mf 20) (mi 21).toInt) (itR (mf 20) (mi 21).toInt ((mi 6).toInt - 1)) 401 (0, []) p0).bind (opnG (mf 20) (mi 21).toInt)) (stpL u.2.2.2.2.2.2.1 u.2.2.2.2.2.2.2.1 ((u.2.2.2.2.2.2.2.2.1.toInt).toNat)) (r : Int32).toInt u.2.2.2.2.1.toInt u.2.2.2.2.2.1.toInt u.2.1.toInt)) ∧ ((r = (-1)) ∨ (r = 0 ∧ 0 ≤ u.2.2.2.2.2.2.2.2.1.toInt ∧ u.2.2.2.2.2.2.2.2.1.toInt ≤ 140))) (fun u => QW D cI cJ A ((fun (u : Int32 × Int32 × Int32 × Int32 × Int32 × Int32 × (Nat → Int32) × (Nat → Int32) × Int32 × Int32) => (MW cI cJ M mr (upd (upd (upd (upd (upd (upd (upd (upd mi 22 u.1) 23 u.2.1) 24 u.2.2.1) 25 u.2.2.2.1) 38 u.2.2.2.2.1) 39 u.2.2.2.2.2.1) 48 u.2.2.2.2.2.2.2.2.1) 35 u.2.2.2.2.2.2.2.2.2) (va_up (va_up mf 46 u.2.2.2.2.2.2.1) 47 u.2.2.2.2.2.2.2.1) mg)) u)) A) ([.ref M] : List Value).toArray s 0 0 A) (F0 m 5 ls []) := by
    intro k
    induction k with
    | zero =>
      intro x_6 x_7 x_8 x_9 x_10 x_11 x_12 x_13 g_14 g_15 _ _ _ hinv hm
      obtain ⟨hi_15_0, hi_15_1, hi_15_2, hi_15_3, hi_15_4, hi_15_5, hi_15_6, hi_15_7, hi_15_8, hi_15_9, hi_15_10, hi_15_11, hi_15_12⟩ := hinv
      exact absurd hm (by omega)
    | succ k ih_16 =>
      intro x_6 x_7 x_8 x_9 x_10 x_11 x_12 x_13 g_14 g_15 H locs ls hinv hm hw17 hl18
      obtain ⟨hi_15_0, hi_15_1, hi_15_2, hi_15_3, hi_15_4, hi_15_5, hi_15_6, hi_15_7, hi_15_8, hi_15_9, hi_15_10, hi_15_11, hi_15_12⟩ := hinv
      have join_19 : ∀ (H : Heap) (locs : List Loc) (ls : Array Slot), (RSD x_8.toInt x_9.toInt x_13.toInt) ∧ (AGN x_8.toInt x_9.toInt x_7.toInt x_6.toInt) → WD D A s.heap (MW cI cJ M mr (upd (upd (upd (upd (upd (upd (upd (upd mi 22 x_6) 23 x_7) 24 x_8) 25 x_9) 35 x_13) 38 x_10) 39 x_11) 48 x_12) (va_up (va_up mf 46 g_14) 47 g_15) mg) H locs → lv_has ls 2 [(0, .ref M)] → W p l e ({ frames := 6, cells := 0, slots := 0, locals := 150 } : Room) s m ([.ref M] : List Value).toArray below meth c H locs 0 0 (MQ below (va_Qi (fun (r : Int32) (u : Int32 × Int32 × Int32 × Int32 × Int32 × Int32 × (Nat → Int32) × (Nat → Int32) × Int32 × Int32) => (0 ≤ u.2.1.toInt) ∧ (u.2.1.toInt ≤ u.1.toInt) ∧ (u.1.toInt ≤ (mi 21).toInt) ∧ (0 ≤ u.2.2.1.toInt) ∧ (u.2.2.1.toInt ≤ 4) ∧ (u.2.2.1.toInt ≤ 4 * u.1.toInt - 4 * u.2.1.toInt) ∧ (AGN u.2.2.1.toInt u.2.2.2.1.toInt u.2.1.toInt u.1.toInt) ∧ (r = 0 → (∃ t : Nat, t = 0 ∧ RSP u.2.2.2.2.2.2.1 u.2.2.2.2.2.2.2.1 (mi 6).toInt ((u.2.2.2.2.2.2.2.2.1.toInt).toNat) t)) ∧ ((∀ p0 : Int, TKR (mf 20) (mi 21).toInt p0 (mi 23).toInt (mi 22).toInt (mi 24).toInt (mi 25).toInt → SR (mf 20) (mi 21).toInt ((rnG (endR (mf 20) (mi 21).toInt) (itR (mf 20) (mi 21).toInt ((mi 6).toInt - 1)) 401 (0, []) p0).bind (opnG (mf 20) (mi 21).toInt)) (stpL u.2.2.2.2.2.2.1 u.2.2.2.2.2.2.2.1 ((u.2.2.2.2.2.2.2.2.1.toInt).toNat)) (r : Int32).toInt u.2.2.2.2.1.toInt u.2.2.2.2.2.1.toInt u.2.1.toInt)) ∧ ((r = (-1)) ∨ (r = 0 ∧ 0 ≤ u.2.2.2.2.2.2.2.2.1.toInt ∧ u.2.2.2.2.2.2.2.2.1.toInt ≤ 140))) (fun u => QW D cI cJ A ((fun (u : Int32 × Int32 × Int32 × Int32 × Int32 × Int32 × (Nat → Int32) × (Nat → Int32) × Int32 × Int32) => (MW cI cJ M mr (upd (upd (upd (upd (upd (upd (upd (upd mi 22 u.1) 23 u.2.1) 24 u.2.2.1) 25 u.2.2.2.1) 38 u.2.2.2.2.1) 39 u.2.2.2.2.2.1) 48 u.2.2.2.2.2.2.2.2.1) 35 u.2.2.2.2.2.2.2.2.2) (va_up (va_up mf 46 u.2.2.2.2.2.2.1) 47 u.2.2.2.2.2.2.2.1) mg)) u)) A) ([.ref M] : List Value).toArray s 0 0 A) (F0 m 37 ls []) := by
        intro  H locs ls hinv hw20 hl21
        obtain ⟨hj_19_0, hj_19_1⟩ := hinv
        refine lv_aload_n (pc := 37) E.1 E.2.1 dX12_readSteps_37 rfl (lv_at hl21 0 rfl) ?_
        refine cm_i (pc := 38) hw20 (rn_M (As := []) (rest := []) E hw20 (s_isStepT l D cI cJ _ M mr (upd (upd (upd (upd (upd (upd (upd (upd mi 22 x_6) 23 x_7) 24 x_8) 25 x_9) 35 x_13) 38 x_10) 39 x_11) 48 x_12) (va_up (va_up mf 46 g_14) 47 g_15) mg ) (gdV q_1738 q_1740 q_70 q_162 q_1741) hdV_X12_isStep ⟨rfl, rfl⟩ ⟨(Nat.le_of_ble_eq_true rfl), (Nat.le_of_ble_eq_true rfl)⟩ ⟨(Nat.le_of_ble_eq_true rfl), (Nat.le_of_ble_eq_true rfl)⟩ 12 rfl rfl rfl rfl hl21.1 rfl (Nat.le_of_ble_eq_true rfl) dX12_readSteps_38) (fun r_23 u_22 H1 locs hp hw24 => ?_)
        generalize H1 = H at hw24 ⊢
        have hw25 : WD D A s.heap (MW cI cJ M mr (upd (upd (upd (upd (upd (upd (upd (upd mi 22 x_6) 23 x_7) 24 x_8) 25 x_9) 35 x_13) 38 x_10) 39 x_11) 48 x_12) (va_up (va_up mf 46 g_14) 47 g_15) mg) H locs := hw24
        have hp_26 := hp
        rcases hp_26 with ⟨rfl, ha_27, ha_28⟩ | ⟨rfl, ha_29, ha_30⟩ | ⟨rfl, ha_31⟩ | ⟨rfl, ha_32, ha_33⟩
        · skip
          have ha_27 : x_8.toInt = 2 := ha_27
          have ha_28 : x_9.toInt = 28 := ha_28
          refine lv_if_eq (pc := 41) (tgt := 51) E.1 E.2.1 dX12_readSteps_41 (by decide) (fun c_34 => absurd c_34 (mneE (a := 1) (b := 0) (by decide +kernel) (by decide +kernel) (by omega))) (fun _ => ?_)
          refine lv_aload_n (pc := 44) E.1 E.2.1 dX12_readSteps_44 rfl (lv_at hl21 0 rfl) ?_
          refine cm_i (pc := 45) hw25 (rn_M (As := []) (rest := []) E hw25 (s_readStepT l D cI cJ _ M mr (upd (upd (upd (upd (upd (upd (upd (upd mi 22 x_6) 23 x_7) 24 x_8) 25 x_9) 35 x_13) 38 x_10) 39 x_11) 48 x_12) (va_up (va_up mf 46 g_14) 47 g_15) mg hi_15_0 hi_15_1 hi_15_2 h3 hi_15_3 hi_15_4 hi_15_5 h7 h8 hi_15_6 (by show 3 * x_12.toInt ≤ x_7.toInt; omega) (by show x_8.toInt = 2; omega) (by show 28 ≤ x_9.toInt; omega) (by show x_9.toInt ≤ 29; omega) a_tape (show (∀ j : Nat, j < 154 → (mf 26) j = w0 j) from lf_words) (show AGN x_8.toInt x_9.toInt x_7.toInt x_6.toInt from hj_19_1)) (gdV q_1742 q_1744 q_71 q_162 q_1745) hdV_X12_readStep ⟨rfl, rfl⟩ ⟨(Nat.le_of_ble_eq_true rfl), (Nat.le_of_ble_eq_true rfl)⟩ ⟨(Nat.le_of_ble_eq_true rfl), (Nat.le_of_ble_eq_true rfl)⟩ 12 rfl rfl rfl rfl hl21.1 rfl (Nat.le_of_ble_eq_true rfl) dX12_readSteps_45) (fun r_36 u_35 H1 locs hp hw37 => ?_)
          obtain ⟨nspot_38, nfrom_39, ntoken_40, nvalue_41, nreadFault_42, nreadPlace_43, gstepOp_44, gstepHow_45, nsteps_46⟩ := u_35
          generalize H1 = H at hw37 ⊢
          have hw47 : WD D A s.heap (MW cI cJ M mr (upd (upd (upd (upd (upd (upd (upd (upd mi 22 nspot_38) 23 nfrom_39) 24 ntoken_40) 25 nvalue_41) 35 x_13) 38 nreadFault_42) 39 nreadPlace_43) 48 nsteps_46) (va_up (va_up mf 46 gstepOp_44) 47 gstepHow_45) mg) H locs := hw37
          obtain ⟨hp_48, hp_49, hp_50, hp_51, hp_52, hp_53, hp_54, hp_55, hp_56, hp_57⟩ := hp
          have hp_48 : 0 ≤ nfrom_39.toInt := hp_48
          have hp_49 : nfrom_39.toInt ≤ nspot_38.toInt := hp_49
          have hp_50 : nspot_38.toInt ≤ (mi 21).toInt := hp_50
          have hp_51 : 0 ≤ ntoken_40.toInt := hp_51
          have hp_52 : ntoken_40.toInt ≤ 4 := hp_52
          have hp_53 : ntoken_40.toInt ≤ 4 * nspot_38.toInt - 4 * nfrom_39.toInt := hp_53
          have hp_54 : AGN ntoken_40.toInt nvalue_41.toInt nfrom_39.toInt nspot_38.toInt := hp_54
          have hp_55 : r_36 = 0 → (∀ t : Nat, RSP g_14 g_15 (mi 6).toInt ((x_12.toInt).toNat) t → RSP gstepOp_44 gstepHow_45 (mi 6).toInt ((nsteps_46.toInt).toNat) t) := hp_55
          have hp_56 : (∀ p : Int, TKR (mf 20) (mi 21).toInt p x_7.toInt x_6.toInt x_8.toInt x_9.toInt → IR (mf 20) (mi 21).toInt (itR (mf 20) (mi 21).toInt ((mi 6).toInt - 1) ((x_13.toInt).toNat) p) (x_9.toInt - 28) (stpL g_14 g_15 ((x_12.toInt).toNat)) (stpL gstepOp_44 gstepHow_45 ((nsteps_46.toInt).toNat)) (r_36 : Int32).toInt nreadFault_42.toInt nreadPlace_43.toInt nfrom_39.toInt nspot_38.toInt ntoken_40.toInt nvalue_41.toInt) := hp_56
          rcases hp_57 with rfl | ⟨rfl, ha_58, ha_59⟩
          · skip
            refine lv_goto (pc := 48) (tgt := 71) E.1 E.2.1 dX12_readSteps_48 (by decide) ?_
            refine lv_istore_n (pc := 71) (lv' := [(1, .int (-1)), (0, .ref M)]) E.1 E.2.1 dX12_readSteps_71 rfl hl21 (by decide) rfl (fun ls hl60 => ?_)
            refine lv_iload_n (pc := 72) E.1 E.2.1 dX12_readSteps_72 rfl (lv_at hl60 0 rfl) ?_
            refine lv_iconst (pc := 73) (v := (-1)) E.1 E.2.1 dX12_readSteps_73 (by decide +kernel) ?_
            refine lv_icmp_ne (pc := 74) (tgt := 79) E.1 E.2.1 dX12_readSteps_74 (by decide) (fun c_61 => absurd (meqE (a := (-1)) (b := (-1)) (by decide +kernel) (by decide +kernel) (by omega)) c_61) (fun _ => ?_)
            refine lv_iconst (pc := 77) (v := (-1)) E.1 E.2.1 dX12_readSteps_77 (by decide +kernel) ?_
            exact em_i (w1 := (fun (u : Int32 × Int32 × Int32 × Int32 × Int32 × Int32 × (Nat → Int32) × (Nat → Int32) × Int32 × Int32) => (MW cI cJ M mr (upd (upd (upd (upd (upd (upd (upd (upd mi 22 u.1) 23 u.2.1) 24 u.2.2.1) 25 u.2.2.2.1) 38 u.2.2.2.2.1) 39 u.2.2.2.2.2.1) 48 u.2.2.2.2.2.2.2.2.1) 35 u.2.2.2.2.2.2.2.2.2) (va_up (va_up mf 46 u.2.2.2.2.2.2.1) 47 u.2.2.2.2.2.2.2.1) mg))) E hr hlk (nspot_38, nfrom_39, ntoken_40, nvalue_41, nreadFault_42, nreadPlace_43, gstepOp_44, gstepHow_45, nsteps_46, x_13) hw47 ⟨hp_48, hp_49, hp_50, hp_51, hp_52, hp_53, hp_54, (fun h => absurd h (by decide +kernel)), (show (∀ p0 : Int, TKR (mf 20) (mi 21).toInt p0 (mi 23).toInt (mi 22).toInt (mi 24).toInt (mi 25).toInt → SR (mf 20) (mi 21).toInt ((rnG (endR (mf 20) (mi 21).toInt) (itR (mf 20) (mi 21).toInt ((mi 6).toInt - 1)) 401 (0, []) p0).bind (opnG (mf 20) (mi 21).toInt)) (stpL gstepOp_44 gstepHow_45 ((nsteps_46.toInt).toNat)) ((-1) : Int32).toInt nreadFault_42.toInt nreadPlace_43.toInt nfrom_39.toInt) from (RRL_err hi_15_11 (by omega) (by omega) hp_56 (by decide +kernel) (by decide +kernel))), (Or.inl rfl)⟩ (Nat.le_of_ble_eq_true rfl) (Nat.le_of_ble_eq_true rfl) dX12_readSteps_78
          · skip
            have hp_55 := hp_55 rfl
            have ha_58 : x_7.toInt + 3 ≤ nfrom_39.toInt := ha_58
            have ha_59 : nsteps_46.toInt = x_12.toInt + 1 := ha_59
            refine lv_goto (pc := 48) (tgt := 71) E.1 E.2.1 dX12_readSteps_48 (by decide) ?_
            refine lv_istore_n (pc := 71) (lv' := [(1, .int 0), (0, .ref M)]) E.1 E.2.1 dX12_readSteps_71 rfl hl21 (by decide) rfl (fun ls hl62 => ?_)
            refine lv_iload_n (pc := 72) E.1 E.2.1 dX12_readSteps_72 rfl (lv_at hl62 0 rfl) ?_
            refine lv_iconst (pc := 73) (v := (-1)) E.1 E.2.1 dX12_readSteps_73 (by decide +kernel) ?_
            refine lv_icmp_ne (pc := 74) (tgt := 79) E.1 E.2.1 dX12_readSteps_74 (by decide) (fun _ => ?_) (fun c_63 => absurd c_63 (mneE (a := 0) (b := (-1)) (by decide +kernel) (by decide +kernel) (by omega)))
            refine lv_goto (pc := 79) (tgt := 5) E.1 E.2.1 dX12_readSteps_79 (by decide) ?_
            exact ih_16 nspot_38 nfrom_39 ntoken_40 nvalue_41 nreadFault_42 nreadPlace_43 nsteps_46 x_13 gstepOp_44 gstepHow_45 _ _ _ ⟨hp_48, hp_49, hp_50, hp_51, hp_52, hp_53, (by show 0 ≤ nsteps_46.toInt; omega), (by show 3 * nsteps_46.toInt + 2 * x_13.toInt ≤ nfrom_39.toInt; omega), hi_15_8, hi_15_9, (RSP_n (hp_55 _ hi_15_10) rfl rfl), (RRL_it hi_15_11 (by omega) (by omega) hp_56 (show (0 : Int32).toInt ≠ -1 from by decide +kernel) (by omega) (by omega)), (show AGN ntoken_40.toInt nvalue_41.toInt nfrom_39.toInt nspot_38.toInt from hp_54)⟩ (by omega) hw47 (lv_sub hl62 [1] rfl)
        · skip
          have ha_29 : x_8.toInt = 2 := ha_29
          have ha_30 : x_9.toInt = 29 := ha_30
          refine lv_if_eq (pc := 41) (tgt := 51) E.1 E.2.1 dX12_readSteps_41 (by decide) (fun c_64 => absurd c_64 (mneE (a := 1) (b := 0) (by decide +kernel) (by decide +kernel) (by omega))) (fun _ => ?_)
          refine lv_aload_n (pc := 44) E.1 E.2.1 dX12_readSteps_44 rfl (lv_at hl21 0 rfl) ?_
          refine cm_i (pc := 45) hw25 (rn_M (As := []) (rest := []) E hw25 (s_readStepT l D cI cJ _ M mr (upd (upd (upd (upd (upd (upd (upd (upd mi 22 x_6) 23 x_7) 24 x_8) 25 x_9) 35 x_13) 38 x_10) 39 x_11) 48 x_12) (va_up (va_up mf 46 g_14) 47 g_15) mg hi_15_0 hi_15_1 hi_15_2 h3 hi_15_3 hi_15_4 hi_15_5 h7 h8 hi_15_6 (by show 3 * x_12.toInt ≤ x_7.toInt; omega) (by show x_8.toInt = 2; omega) (by show 28 ≤ x_9.toInt; omega) (by show x_9.toInt ≤ 29; omega) a_tape (show (∀ j : Nat, j < 154 → (mf 26) j = w0 j) from lf_words) (show AGN x_8.toInt x_9.toInt x_7.toInt x_6.toInt from hj_19_1)) (gdV q_1742 q_1744 q_71 q_162 q_1745) hdV_X12_readStep ⟨rfl, rfl⟩ ⟨(Nat.le_of_ble_eq_true rfl), (Nat.le_of_ble_eq_true rfl)⟩ ⟨(Nat.le_of_ble_eq_true rfl), (Nat.le_of_ble_eq_true rfl)⟩ 12 rfl rfl rfl rfl hl21.1 rfl (Nat.le_of_ble_eq_true rfl) dX12_readSteps_45) (fun r_66 u_65 H1 locs hp hw67 => ?_)
          obtain ⟨nspot_68, nfrom_69, ntoken_70, nvalue_71, nreadFault_72, nreadPlace_73, gstepOp_74, gstepHow_75, nsteps_76⟩ := u_65
          generalize H1 = H at hw67 ⊢
          have hw77 : WD D A s.heap (MW cI cJ M mr (upd (upd (upd (upd (upd (upd (upd (upd mi 22 nspot_68) 23 nfrom_69) 24 ntoken_70) 25 nvalue_71) 35 x_13) 38 nreadFault_72) 39 nreadPlace_73) 48 nsteps_76) (va_up (va_up mf 46 gstepOp_74) 47 gstepHow_75) mg) H locs := hw67
          obtain ⟨hp_78, hp_79, hp_80, hp_81, hp_82, hp_83, hp_84, hp_85, hp_86, hp_87⟩ := hp
          have hp_78 : 0 ≤ nfrom_69.toInt := hp_78
          have hp_79 : nfrom_69.toInt ≤ nspot_68.toInt := hp_79
          have hp_80 : nspot_68.toInt ≤ (mi 21).toInt := hp_80
          have hp_81 : 0 ≤ ntoken_70.toInt := hp_81
          have hp_82 : ntoken_70.toInt ≤ 4 := hp_82
          have hp_83 : ntoken_70.toInt ≤ 4 * nspot_68.toInt - 4 * nfrom_69.toInt := hp_83
          have hp_84 : AGN ntoken_70.toInt nvalue_71.toInt nfrom_69.toInt nspot_68.toInt := hp_84
          have hp_85 : r_66 = 0 → (∀ t : Nat, RSP g_14 g_15 (mi 6).toInt ((x_12.toInt).toNat) t → RSP gstepOp_74 gstepHow_75 (mi 6).toInt ((nsteps_76.toInt).toNat) t) := hp_85
          have hp_86 : (∀ p : Int, TKR (mf 20) (mi 21).toInt p x_7.toInt x_6.toInt x_8.toInt x_9.toInt → IR (mf 20) (mi 21).toInt (itR (mf 20) (mi 21).toInt ((mi 6).toInt - 1) ((x_13.toInt).toNat) p) (x_9.toInt - 28) (stpL g_14 g_15 ((x_12.toInt).toNat)) (stpL gstepOp_74 gstepHow_75 ((nsteps_76.toInt).toNat)) (r_66 : Int32).toInt nreadFault_72.toInt nreadPlace_73.toInt nfrom_69.toInt nspot_68.toInt ntoken_70.toInt nvalue_71.toInt) := hp_86
          rcases hp_87 with rfl | ⟨rfl, ha_88, ha_89⟩
          · skip
            refine lv_goto (pc := 48) (tgt := 71) E.1 E.2.1 dX12_readSteps_48 (by decide) ?_
            refine lv_istore_n (pc := 71) (lv' := [(1, .int (-1)), (0, .ref M)]) E.1 E.2.1 dX12_readSteps_71 rfl hl21 (by decide) rfl (fun ls hl90 => ?_)
            refine lv_iload_n (pc := 72) E.1 E.2.1 dX12_readSteps_72 rfl (lv_at hl90 0 rfl) ?_
            refine lv_iconst (pc := 73) (v := (-1)) E.1 E.2.1 dX12_readSteps_73 (by decide +kernel) ?_
            refine lv_icmp_ne (pc := 74) (tgt := 79) E.1 E.2.1 dX12_readSteps_74 (by decide) (fun c_91 => absurd (meqE (a := (-1)) (b := (-1)) (by decide +kernel) (by decide +kernel) (by omega)) c_91) (fun _ => ?_)
            refine lv_iconst (pc := 77) (v := (-1)) E.1 E.2.1 dX12_readSteps_77 (by decide +kernel) ?_
            exact em_i (w1 := (fun (u : Int32 × Int32 × Int32 × Int32 × Int32 × Int32 × (Nat → Int32) × (Nat → Int32) × Int32 × Int32) => (MW cI cJ M mr (upd (upd (upd (upd (upd (upd (upd (upd mi 22 u.1) 23 u.2.1) 24 u.2.2.1) 25 u.2.2.2.1) 38 u.2.2.2.2.1) 39 u.2.2.2.2.2.1) 48 u.2.2.2.2.2.2.2.2.1) 35 u.2.2.2.2.2.2.2.2.2) (va_up (va_up mf 46 u.2.2.2.2.2.2.1) 47 u.2.2.2.2.2.2.2.1) mg))) E hr hlk (nspot_68, nfrom_69, ntoken_70, nvalue_71, nreadFault_72, nreadPlace_73, gstepOp_74, gstepHow_75, nsteps_76, x_13) hw77 ⟨hp_78, hp_79, hp_80, hp_81, hp_82, hp_83, hp_84, (fun h => absurd h (by decide +kernel)), (show (∀ p0 : Int, TKR (mf 20) (mi 21).toInt p0 (mi 23).toInt (mi 22).toInt (mi 24).toInt (mi 25).toInt → SR (mf 20) (mi 21).toInt ((rnG (endR (mf 20) (mi 21).toInt) (itR (mf 20) (mi 21).toInt ((mi 6).toInt - 1)) 401 (0, []) p0).bind (opnG (mf 20) (mi 21).toInt)) (stpL gstepOp_74 gstepHow_75 ((nsteps_76.toInt).toNat)) ((-1) : Int32).toInt nreadFault_72.toInt nreadPlace_73.toInt nfrom_69.toInt) from (RRL_err hi_15_11 (by omega) (by omega) hp_86 (by decide +kernel) (by decide +kernel))), (Or.inl rfl)⟩ (Nat.le_of_ble_eq_true rfl) (Nat.le_of_ble_eq_true rfl) dX12_readSteps_78
          · skip
            have hp_85 := hp_85 rfl
            have ha_88 : x_7.toInt + 3 ≤ nfrom_69.toInt := ha_88
            have ha_89 : nsteps_76.toInt = x_12.toInt + 1 := ha_89
            refine lv_goto (pc := 48) (tgt := 71) E.1 E.2.1 dX12_readSteps_48 (by decide) ?_
            refine lv_istore_n (pc := 71) (lv' := [(1, .int 0), (0, .ref M)]) E.1 E.2.1 dX12_readSteps_71 rfl hl21 (by decide) rfl (fun ls hl92 => ?_)
            refine lv_iload_n (pc := 72) E.1 E.2.1 dX12_readSteps_72 rfl (lv_at hl92 0 rfl) ?_
            refine lv_iconst (pc := 73) (v := (-1)) E.1 E.2.1 dX12_readSteps_73 (by decide +kernel) ?_
            refine lv_icmp_ne (pc := 74) (tgt := 79) E.1 E.2.1 dX12_readSteps_74 (by decide) (fun _ => ?_) (fun c_93 => absurd c_93 (mneE (a := 0) (b := (-1)) (by decide +kernel) (by decide +kernel) (by omega)))
            refine lv_goto (pc := 79) (tgt := 5) E.1 E.2.1 dX12_readSteps_79 (by decide) ?_
            exact ih_16 nspot_68 nfrom_69 ntoken_70 nvalue_71 nreadFault_72 nreadPlace_73 nsteps_76 x_13 gstepOp_74 gstepHow_75 _ _ _ ⟨hp_78, hp_79, hp_80, hp_81, hp_82, hp_83, (by show 0 ≤ nsteps_76.toInt; omega), (by show 3 * nsteps_76.toInt + 2 * x_13.toInt ≤ nfrom_69.toInt; omega), hi_15_8, hi_15_9, (RSP_n (hp_85 _ hi_15_10) rfl rfl), (RRL_it hi_15_11 (by omega) (by omega) hp_86 (show (0 : Int32).toInt ≠ -1 from by decide +kernel) (by omega) (by omega)), (show AGN ntoken_70.toInt nvalue_71.toInt nfrom_69.toInt nspot_68.toInt from hp_84)⟩ (by omega) hw77 (lv_sub hl92 [1] rfl)
        · skip
          have ha_31 : ¬ x_8.toInt = 2 := ha_31
          refine lv_if_eq (pc := 41) (tgt := 51) E.1 E.2.1 dX12_readSteps_41 (by decide) (fun _ => ?_) (fun c_94 => absurd (meqE (a := 0) (b := 0) (by decide +kernel) (by decide +kernel) (by omega)) c_94)
          refine lv_aload_n (pc := 51) E.1 E.2.1 dX12_readSteps_51 rfl (lv_at hl21 0 rfl) ?_
          refine lv_bipush (pc := 52) (v := 30) E.1 E.2.1 dX12_readSteps_52 (by decide +kernel) ?_
          refine cm_i (pc := 54) hw25 (rn_M (As := [.int 30]) (rest := []) E hw25 (s_isWordT l D cI cJ _ M mr (upd (upd (upd (upd (upd (upd (upd (upd mi 22 x_6) 23 x_7) 24 x_8) 25 x_9) 35 x_13) 38 x_10) 39 x_11) 48 x_12) (va_up (va_up mf 46 g_14) 47 g_15) mg 30) (gdV q_1694 q_1696 q_59 q_162 q_1697) hdV_X12_isWord ⟨rfl, rfl⟩ ⟨(Nat.le_of_ble_eq_true rfl), (Nat.le_of_ble_eq_true rfl)⟩ ⟨(Nat.le_of_ble_eq_true rfl), (Nat.le_of_ble_eq_true rfl)⟩ 12 rfl rfl rfl rfl hl21.1 rfl (Nat.le_of_ble_eq_true rfl) dX12_readSteps_54) (fun r_96 u_95 H1 locs hp hw97 => ?_)
          generalize H1 = H at hw97 ⊢
          have hw98 : WD D A s.heap (MW cI cJ M mr (upd (upd (upd (upd (upd (upd (upd (upd mi 22 x_6) 23 x_7) 24 x_8) 25 x_9) 35 x_13) 38 x_10) 39 x_11) 48 x_12) (va_up (va_up mf 46 g_14) 47 g_15) mg) H locs := hw97
          have hp_99 := hp
          rcases hp_99 with ⟨rfl, ha_100, ha_101⟩ | ⟨rfl, ha_102⟩ | ⟨rfl, ha_103⟩
          · skip
            have ha_100 : x_8.toInt = 2 := ha_100
            have ha_101 : x_9.toInt = (30 : Int32).toInt := ha_101
            rw [show (30 : Int32).toInt = 30 from by decide +kernel] at ha_101
            exfalso; omega
          · skip
            have ha_102 : ¬ x_8.toInt = 2 := ha_102
            refine lv_if_eq (pc := 57) (tgt := 67) E.1 E.2.1 dX12_readSteps_57 (by decide) (fun _ => ?_) (fun c_104 => absurd (meqE (a := 0) (b := 0) (by decide +kernel) (by decide +kernel) (by omega)) c_104)
            have hD : 1 ≤ x_13.toInt ∧ 1 ≤ x_8.toInt := by have q := hj_19_0; unfold RSD at q; omega
            have hD2 : x_8.toInt = 4 ∧ x_9.toInt = 41 := by have q := hj_19_0; unfold RSD at q; omega
            refine lv_aload_n (pc := 67) E.1 E.2.1 dX12_readSteps_67 rfl (lv_at hl21 0 rfl) ?_
            refine cm_i (pc := 68) hw98 (rn_M (As := []) (rest := []) E hw98 (s_readAgainEndT l D cI cJ _ M mr (upd (upd (upd (upd (upd (upd (upd (upd mi 22 x_6) 23 x_7) 24 x_8) 25 x_9) 35 x_13) 38 x_10) 39 x_11) 48 x_12) (va_up (va_up mf 46 g_14) 47 g_15) mg hi_15_0 hi_15_1 hi_15_2 h3 hi_15_3 hi_15_4 hi_15_5 h7 h8 hi_15_6 (by show 3 * x_12.toInt ≤ x_7.toInt; omega) (by show 1 ≤ x_8.toInt; omega) (by show 1 ≤ x_13.toInt ∧ x_13.toInt ≤ 4; omega) (by show x_8.toInt = 4; omega) (by show x_9.toInt = 41; omega) a_tape (show (∀ j : Nat, j < 154 → (mf 26) j = w0 j) from lf_words) (show AGN x_8.toInt x_9.toInt x_7.toInt x_6.toInt from hj_19_1)) (gdV q_1754 q_1756 q_74 q_162 q_1757) hdV_X12_readAgainEnd ⟨rfl, rfl⟩ ⟨(Nat.le_of_ble_eq_true rfl), (Nat.le_of_ble_eq_true rfl)⟩ ⟨(Nat.le_of_ble_eq_true rfl), (Nat.le_of_ble_eq_true rfl)⟩ 12 rfl rfl rfl rfl hl21.1 rfl (Nat.le_of_ble_eq_true rfl) dX12_readSteps_68) (fun r_106 u_105 H1 locs hp hw107 => ?_)
            obtain ⟨nspot_108, nfrom_109, ntoken_110, nvalue_111, nreadFault_112, nreadPlace_113, gstepOp_114, gstepHow_115, nsteps_116, nopen_117⟩ := u_105
            generalize H1 = H at hw107 ⊢
            have hw118 : WD D A s.heap (MW cI cJ M mr (upd (upd (upd (upd (upd (upd (upd (upd mi 22 nspot_108) 23 nfrom_109) 24 ntoken_110) 25 nvalue_111) 35 nopen_117) 38 nreadFault_112) 39 nreadPlace_113) 48 nsteps_116) (va_up (va_up mf 46 gstepOp_114) 47 gstepHow_115) mg) H locs := hw107
            obtain ⟨hp_119, hp_120, hp_121, hp_122, hp_123, hp_124, hp_125, hp_126, hp_127, hp_128⟩ := hp
            have hp_119 : 0 ≤ nfrom_109.toInt := hp_119
            have hp_120 : nfrom_109.toInt ≤ nspot_108.toInt := hp_120
            have hp_121 : nspot_108.toInt ≤ (mi 21).toInt := hp_121
            have hp_122 : 0 ≤ ntoken_110.toInt := hp_122
            have hp_123 : ntoken_110.toInt ≤ 4 := hp_123
            have hp_124 : ntoken_110.toInt ≤ 4 * nspot_108.toInt - 4 * nfrom_109.toInt := hp_124
            have hp_125 : AGN ntoken_110.toInt nvalue_111.toInt nfrom_109.toInt nspot_108.toInt := hp_125
            have hp_126 : r_106 = 0 → (∀ t : Nat, RSP g_14 g_15 (mi 6).toInt ((x_12.toInt).toNat) (t + 1) → RSP gstepOp_114 gstepHow_115 (mi 6).toInt ((nsteps_116.toInt).toNat) t) := hp_126
            have hp_127 : (∀ p : Int, TKR (mf 20) (mi 21).toInt p x_7.toInt x_6.toInt x_8.toInt x_9.toInt → IR (mf 20) (mi 21).toInt (itR (mf 20) (mi 21).toInt ((mi 6).toInt - 1) ((x_13.toInt).toNat) p) 3 (stpL g_14 g_15 ((x_12.toInt).toNat)) (stpL gstepOp_114 gstepHow_115 ((nsteps_116.toInt).toNat)) (r_106 : Int32).toInt nreadFault_112.toInt nreadPlace_113.toInt nfrom_109.toInt nspot_108.toInt ntoken_110.toInt nvalue_111.toInt) := hp_127
            rcases hp_128 with ⟨rfl, ha_129, ha_130, ha_131⟩
            · skip
              have hp_126 := hp_126 rfl
              have ha_129 : x_7.toInt + 1 ≤ nfrom_109.toInt := ha_129
              have ha_130 : nsteps_116.toInt = x_12.toInt + 1 := ha_130
              have ha_131 : nopen_117.toInt = x_13.toInt - 1 := ha_131
              refine lv_istore_n (pc := 71) (lv' := [(1, .int 0), (0, .ref M)]) E.1 E.2.1 dX12_readSteps_71 rfl hl21 (by decide) rfl (fun ls hl132 => ?_)
              refine lv_iload_n (pc := 72) E.1 E.2.1 dX12_readSteps_72 rfl (lv_at hl132 0 rfl) ?_
              refine lv_iconst (pc := 73) (v := (-1)) E.1 E.2.1 dX12_readSteps_73 (by decide +kernel) ?_
              refine lv_icmp_ne (pc := 74) (tgt := 79) E.1 E.2.1 dX12_readSteps_74 (by decide) (fun _ => ?_) (fun c_133 => absurd c_133 (mneE (a := 0) (b := (-1)) (by decide +kernel) (by decide +kernel) (by omega)))
              refine lv_goto (pc := 79) (tgt := 5) E.1 E.2.1 dX12_readSteps_79 (by decide) ?_
              exact ih_16 nspot_108 nfrom_109 ntoken_110 nvalue_111 nreadFault_112 nreadPlace_113 nsteps_116 nopen_117 gstepOp_114 gstepHow_115 _ _ _ ⟨hp_119, hp_120, hp_121, hp_122, hp_123, hp_124, (by show 0 ≤ nsteps_116.toInt; omega), (by show 3 * nsteps_116.toInt + 2 * nopen_117.toInt ≤ nfrom_109.toInt; omega), (by show 0 ≤ nopen_117.toInt; omega), (by show nopen_117.toInt ≤ 4; omega), (hp_126 _ (RSP_n hi_15_10 rfl (by omega))), (RRL_it hi_15_11 (by omega) (by omega) hp_127 (show (0 : Int32).toInt ≠ -1 from by decide +kernel) (by omega) (by omega)), (show AGN ntoken_110.toInt nvalue_111.toInt nfrom_109.toInt nspot_108.toInt from hp_125)⟩ (by omega) hw118 (lv_sub hl132 [1] rfl)
          · skip
            have ha_103 : ¬ x_9.toInt = (30 : Int32).toInt := ha_103
            rw [show (30 : Int32).toInt = 30 from by decide +kernel] at ha_103
            refine lv_if_eq (pc := 57) (tgt := 67) E.1 E.2.1 dX12_readSteps_57 (by decide) (fun _ => ?_) (fun c_134 => absurd (meqE (a := 0) (b := 0) (by decide +kernel) (by decide +kernel) (by omega)) c_134)
            have hD : 1 ≤ x_13.toInt ∧ 1 ≤ x_8.toInt := by have q := hj_19_0; unfold RSD at q; omega
            have hD2 : x_8.toInt = 4 ∧ x_9.toInt = 41 := by have q := hj_19_0; unfold RSD at q; omega
            refine lv_aload_n (pc := 67) E.1 E.2.1 dX12_readSteps_67 rfl (lv_at hl21 0 rfl) ?_
            refine cm_i (pc := 68) hw98 (rn_M (As := []) (rest := []) E hw98 (s_readAgainEndT l D cI cJ _ M mr (upd (upd (upd (upd (upd (upd (upd (upd mi 22 x_6) 23 x_7) 24 x_8) 25 x_9) 35 x_13) 38 x_10) 39 x_11) 48 x_12) (va_up (va_up mf 46 g_14) 47 g_15) mg hi_15_0 hi_15_1 hi_15_2 h3 hi_15_3 hi_15_4 hi_15_5 h7 h8 hi_15_6 (by show 3 * x_12.toInt ≤ x_7.toInt; omega) (by show 1 ≤ x_8.toInt; omega) (by show 1 ≤ x_13.toInt ∧ x_13.toInt ≤ 4; omega) (by show x_8.toInt = 4; omega) (by show x_9.toInt = 41; omega) a_tape (show (∀ j : Nat, j < 154 → (mf 26) j = w0 j) from lf_words) (show AGN x_8.toInt x_9.toInt x_7.toInt x_6.toInt from hj_19_1)) (gdV q_1754 q_1756 q_74 q_162 q_1757) hdV_X12_readAgainEnd ⟨rfl, rfl⟩ ⟨(Nat.le_of_ble_eq_true rfl), (Nat.le_of_ble_eq_true rfl)⟩ ⟨(Nat.le_of_ble_eq_true rfl), (Nat.le_of_ble_eq_true rfl)⟩ 12 rfl rfl rfl rfl hl21.1 rfl (Nat.le_of_ble_eq_true rfl) dX12_readSteps_68) (fun r_136 u_135 H1 locs hp hw137 => ?_)
            obtain ⟨nspot_138, nfrom_139, ntoken_140, nvalue_141, nreadFault_142, nreadPlace_143, gstepOp_144, gstepHow_145, nsteps_146, nopen_147⟩ := u_135
            generalize H1 = H at hw137 ⊢
            have hw148 : WD D A s.heap (MW cI cJ M mr (upd (upd (upd (upd (upd (upd (upd (upd mi 22 nspot_138) 23 nfrom_139) 24 ntoken_140) 25 nvalue_141) 35 nopen_147) 38 nreadFault_142) 39 nreadPlace_143) 48 nsteps_146) (va_up (va_up mf 46 gstepOp_144) 47 gstepHow_145) mg) H locs := hw137
            obtain ⟨hp_149, hp_150, hp_151, hp_152, hp_153, hp_154, hp_155, hp_156, hp_157, hp_158⟩ := hp
            have hp_149 : 0 ≤ nfrom_139.toInt := hp_149
            have hp_150 : nfrom_139.toInt ≤ nspot_138.toInt := hp_150
            have hp_151 : nspot_138.toInt ≤ (mi 21).toInt := hp_151
            have hp_152 : 0 ≤ ntoken_140.toInt := hp_152
            have hp_153 : ntoken_140.toInt ≤ 4 := hp_153
            have hp_154 : ntoken_140.toInt ≤ 4 * nspot_138.toInt - 4 * nfrom_139.toInt := hp_154
            have hp_155 : AGN ntoken_140.toInt nvalue_141.toInt nfrom_139.toInt nspot_138.toInt := hp_155
            have hp_156 : r_136 = 0 → (∀ t : Nat, RSP g_14 g_15 (mi 6).toInt ((x_12.toInt).toNat) (t + 1) → RSP gstepOp_144 gstepHow_145 (mi 6).toInt ((nsteps_146.toInt).toNat) t) := hp_156
            have hp_157 : (∀ p : Int, TKR (mf 20) (mi 21).toInt p x_7.toInt x_6.toInt x_8.toInt x_9.toInt → IR (mf 20) (mi 21).toInt (itR (mf 20) (mi 21).toInt ((mi 6).toInt - 1) ((x_13.toInt).toNat) p) 3 (stpL g_14 g_15 ((x_12.toInt).toNat)) (stpL gstepOp_144 gstepHow_145 ((nsteps_146.toInt).toNat)) (r_136 : Int32).toInt nreadFault_142.toInt nreadPlace_143.toInt nfrom_139.toInt nspot_138.toInt ntoken_140.toInt nvalue_141.toInt) := hp_157
            rcases hp_158 with ⟨rfl, ha_159, ha_160, ha_161⟩
            · skip
              have hp_156 := hp_156 rfl
              have ha_159 : x_7.toInt + 1 ≤ nfrom_139.toInt := ha_159
              have ha_160 : nsteps_146.toInt = x_12.toInt + 1 := ha_160
              have ha_161 : nopen_147.toInt = x_13.toInt - 1 := ha_161
              refine lv_istore_n (pc := 71) (lv' := [(1, .int 0), (0, .ref M)]) E.1 E.2.1 dX12_readSteps_71 rfl hl21 (by decide) rfl (fun ls hl162 => ?_)
              refine lv_iload_n (pc := 72) E.1 E.2.1 dX12_readSteps_72 rfl (lv_at hl162 0 rfl) ?_
              refine lv_iconst (pc := 73) (v := (-1)) E.1 E.2.1 dX12_readSteps_73 (by decide +kernel) ?_
              refine lv_icmp_ne (pc := 74) (tgt := 79) E.1 E.2.1 dX12_readSteps_74 (by decide) (fun _ => ?_) (fun c_163 => absurd c_163 (mneE (a := 0) (b := (-1)) (by decide +kernel) (by decide +kernel) (by omega)))
              refine lv_goto (pc := 79) (tgt := 5) E.1 E.2.1 dX12_readSteps_79 (by decide) ?_
              exact ih_16 nspot_138 nfrom_139 ntoken_140 nvalue_141 nreadFault_142 nreadPlace_143 nsteps_146 nopen_147 gstepOp_144 gstepHow_145 _ _ _ ⟨hp_149, hp_150, hp_151, hp_152, hp_153, hp_154, (by show 0 ≤ nsteps_146.toInt; omega), (by show 3 * nsteps_146.toInt + 2 * nopen_147.toInt ≤ nfrom_139.toInt; omega), (by show 0 ≤ nopen_147.toInt; omega), (by show nopen_147.toInt ≤ 4; omega), (hp_156 _ (RSP_n hi_15_10 rfl (by omega))), (RRL_it hi_15_11 (by omega) (by omega) hp_157 (show (0 : Int32).toInt ≠ -1 from by decide +kernel) (by omega) (by omega)), (show AGN ntoken_140.toInt nvalue_141.toInt nfrom_139.toInt nspot_138.toInt from hp_155)⟩ (by omega) hw148 (lv_sub hl162 [1] rfl)
        · skip
          have ha_32 : ¬ x_9.toInt = 28 := ha_32
          have ha_33 : ¬ x_9.toInt = 29 := ha_33
          refine lv_if_eq (pc := 41) (tgt := 51) E.1 E.2.1 dX12_readSteps_41 (by decide) (fun _ => ?_) (fun c_164 => absurd (meqE (a := 0) (b := 0) (by decide +kernel) (by decide +kernel) (by omega)) c_164)
          refine lv_aload_n (pc := 51) E.1 E.2.1 dX12_readSteps_51 rfl (lv_at hl21 0 rfl) ?_
          refine lv_bipush (pc := 52) (v := 30) E.1 E.2.1 dX12_readSteps_52 (by decide +kernel) ?_
          refine cm_i (pc := 54) hw25 (rn_M (As := [.int 30]) (rest := []) E hw25 (s_isWordT l D cI cJ _ M mr (upd (upd (upd (upd (upd (upd (upd (upd mi 22 x_6) 23 x_7) 24 x_8) 25 x_9) 35 x_13) 38 x_10) 39 x_11) 48 x_12) (va_up (va_up mf 46 g_14) 47 g_15) mg 30) (gdV q_1694 q_1696 q_59 q_162 q_1697) hdV_X12_isWord ⟨rfl, rfl⟩ ⟨(Nat.le_of_ble_eq_true rfl), (Nat.le_of_ble_eq_true rfl)⟩ ⟨(Nat.le_of_ble_eq_true rfl), (Nat.le_of_ble_eq_true rfl)⟩ 12 rfl rfl rfl rfl hl21.1 rfl (Nat.le_of_ble_eq_true rfl) dX12_readSteps_54) (fun r_166 u_165 H1 locs hp hw167 => ?_)
          generalize H1 = H at hw167 ⊢
          have hw168 : WD D A s.heap (MW cI cJ M mr (upd (upd (upd (upd (upd (upd (upd (upd mi 22 x_6) 23 x_7) 24 x_8) 25 x_9) 35 x_13) 38 x_10) 39 x_11) 48 x_12) (va_up (va_up mf 46 g_14) 47 g_15) mg) H locs := hw167
          have hp_169 := hp
          rcases hp_169 with ⟨rfl, ha_170, ha_171⟩ | ⟨rfl, ha_172⟩ | ⟨rfl, ha_173⟩
          · skip
            have ha_170 : x_8.toInt = 2 := ha_170
            have ha_171 : x_9.toInt = (30 : Int32).toInt := ha_171
            rw [show (30 : Int32).toInt = 30 from by decide +kernel] at ha_171
            refine lv_if_eq (pc := 57) (tgt := 67) E.1 E.2.1 dX12_readSteps_57 (by decide) (fun c_174 => absurd c_174 (mneE (a := 1) (b := 0) (by decide +kernel) (by decide +kernel) (by omega))) (fun _ => ?_)
            refine lv_aload_n (pc := 60) E.1 E.2.1 dX12_readSteps_60 rfl (lv_at hl21 0 rfl) ?_
            refine cm_i (pc := 61) hw168 (rn_M (As := []) (rest := []) E hw168 (s_readAgainT l D cI cJ _ M mr (upd (upd (upd (upd (upd (upd (upd (upd mi 22 x_6) 23 x_7) 24 x_8) 25 x_9) 35 x_13) 38 x_10) 39 x_11) 48 x_12) (va_up (va_up mf 46 g_14) 47 g_15) mg hi_15_0 hi_15_1 hi_15_2 h3 hi_15_3 hi_15_4 hi_15_5 h7 h8 hi_15_6 (by show 3 * x_12.toInt ≤ x_7.toInt; omega) (by show x_8.toInt = 2; omega) (by show x_9.toInt = 30; omega) ⟨hi_15_8, hi_15_9⟩ a_tape (show (∀ j : Nat, j < 154 → (mf 26) j = w0 j) from lf_words) (show AGN x_8.toInt x_9.toInt x_7.toInt x_6.toInt from hj_19_1)) (gdV q_1750 q_1752 q_73 q_162 q_1753) hdV_X12_readAgain ⟨rfl, rfl⟩ ⟨(Nat.le_of_ble_eq_true rfl), (Nat.le_of_ble_eq_true rfl)⟩ ⟨(Nat.le_of_ble_eq_true rfl), (Nat.le_of_ble_eq_true rfl)⟩ 12 rfl rfl rfl rfl hl21.1 rfl (Nat.le_of_ble_eq_true rfl) dX12_readSteps_61) (fun r_176 u_175 H1 locs hp hw177 => ?_)
            obtain ⟨nspot_178, nfrom_179, ntoken_180, nvalue_181, nreadFault_182, nreadPlace_183, gstepOp_184, gstepHow_185, nsteps_186, nopen_187⟩ := u_175
            generalize H1 = H at hw177 ⊢
            have hw188 : WD D A s.heap (MW cI cJ M mr (upd (upd (upd (upd (upd (upd (upd (upd mi 22 nspot_178) 23 nfrom_179) 24 ntoken_180) 25 nvalue_181) 35 nopen_187) 38 nreadFault_182) 39 nreadPlace_183) 48 nsteps_186) (va_up (va_up mf 46 gstepOp_184) 47 gstepHow_185) mg) H locs := hw177
            obtain ⟨hp_189, hp_190, hp_191, hp_192, hp_193, hp_194, hp_195, hp_196, hp_197, hp_198, hp_199, hp_200⟩ := hp
            have hp_189 : 0 ≤ nfrom_179.toInt := hp_189
            have hp_190 : nfrom_179.toInt ≤ nspot_178.toInt := hp_190
            have hp_191 : nspot_178.toInt ≤ (mi 21).toInt := hp_191
            have hp_192 : 0 ≤ ntoken_180.toInt := hp_192
            have hp_193 : ntoken_180.toInt ≤ 4 := hp_193
            have hp_194 : ntoken_180.toInt ≤ 4 * nspot_178.toInt - 4 * nfrom_179.toInt := hp_194
            have hp_195 : x_13.toInt ≤ nopen_187.toInt := hp_195
            have hp_196 : nopen_187.toInt ≤ 4 := hp_196
            have hp_197 : AGN ntoken_180.toInt nvalue_181.toInt nfrom_179.toInt nspot_178.toInt := hp_197
            have hp_198 : r_176 = 0 → (∀ t : Nat, t ≤ 3 → RSP g_14 g_15 (mi 6).toInt ((x_12.toInt).toNat) t → RSP gstepOp_184 gstepHow_185 (mi 6).toInt ((nsteps_186.toInt).toNat) (t + 1)) := hp_198
            have hp_199 : (∀ p : Int, TKR (mf 20) (mi 21).toInt p x_7.toInt x_6.toInt x_8.toInt x_9.toInt → IR (mf 20) (mi 21).toInt (itR (mf 20) (mi 21).toInt ((mi 6).toInt - 1) ((x_13.toInt).toNat) p) 2 (stpL g_14 g_15 ((x_12.toInt).toNat)) (stpL gstepOp_184 gstepHow_185 ((nsteps_186.toInt).toNat)) (r_176 : Int32).toInt nreadFault_182.toInt nreadPlace_183.toInt nfrom_179.toInt nspot_178.toInt ntoken_180.toInt nvalue_181.toInt) := hp_199
            rcases hp_200 with rfl | ⟨rfl, ha_201, ha_202, ha_203, ha_204⟩
            · skip
              refine lv_goto (pc := 64) (tgt := 71) E.1 E.2.1 dX12_readSteps_64 (by decide) ?_
              refine lv_istore_n (pc := 71) (lv' := [(1, .int (-1)), (0, .ref M)]) E.1 E.2.1 dX12_readSteps_71 rfl hl21 (by decide) rfl (fun ls hl205 => ?_)
              refine lv_iload_n (pc := 72) E.1 E.2.1 dX12_readSteps_72 rfl (lv_at hl205 0 rfl) ?_
              refine lv_iconst (pc := 73) (v := (-1)) E.1 E.2.1 dX12_readSteps_73 (by decide +kernel) ?_
              refine lv_icmp_ne (pc := 74) (tgt := 79) E.1 E.2.1 dX12_readSteps_74 (by decide) (fun c_206 => absurd (meqE (a := (-1)) (b := (-1)) (by decide +kernel) (by decide +kernel) (by omega)) c_206) (fun _ => ?_)
              refine lv_iconst (pc := 77) (v := (-1)) E.1 E.2.1 dX12_readSteps_77 (by decide +kernel) ?_
              exact em_i (w1 := (fun (u : Int32 × Int32 × Int32 × Int32 × Int32 × Int32 × (Nat → Int32) × (Nat → Int32) × Int32 × Int32) => (MW cI cJ M mr (upd (upd (upd (upd (upd (upd (upd (upd mi 22 u.1) 23 u.2.1) 24 u.2.2.1) 25 u.2.2.2.1) 38 u.2.2.2.2.1) 39 u.2.2.2.2.2.1) 48 u.2.2.2.2.2.2.2.2.1) 35 u.2.2.2.2.2.2.2.2.2) (va_up (va_up mf 46 u.2.2.2.2.2.2.1) 47 u.2.2.2.2.2.2.2.1) mg))) E hr hlk (nspot_178, nfrom_179, ntoken_180, nvalue_181, nreadFault_182, nreadPlace_183, gstepOp_184, gstepHow_185, nsteps_186, nopen_187) hw188 ⟨hp_189, hp_190, hp_191, hp_192, hp_193, hp_194, hp_197, (fun h => absurd h (by decide +kernel)), (show (∀ p0 : Int, TKR (mf 20) (mi 21).toInt p0 (mi 23).toInt (mi 22).toInt (mi 24).toInt (mi 25).toInt → SR (mf 20) (mi 21).toInt ((rnG (endR (mf 20) (mi 21).toInt) (itR (mf 20) (mi 21).toInt ((mi 6).toInt - 1)) 401 (0, []) p0).bind (opnG (mf 20) (mi 21).toInt)) (stpL gstepOp_184 gstepHow_185 ((nsteps_186.toInt).toNat)) ((-1) : Int32).toInt nreadFault_182.toInt nreadPlace_183.toInt nfrom_179.toInt) from (RRL_err hi_15_11 (by omega) (by omega) hp_199 (by decide +kernel) (by decide +kernel))), (Or.inl rfl)⟩ (Nat.le_of_ble_eq_true rfl) (Nat.le_of_ble_eq_true rfl) dX12_readSteps_78
            · skip
              have hp_198 := hp_198 rfl
              have ha_201 : x_7.toInt + 5 ≤ nfrom_179.toInt := ha_201
              have ha_202 : nsteps_186.toInt = x_12.toInt + 1 := ha_202
              have ha_203 : nopen_187.toInt = x_13.toInt + 1 := ha_203
              have ha_204 : nopen_187.toInt ≤ 4 := ha_204
              refine lv_goto (pc := 64) (tgt := 71) E.1 E.2.1 dX12_readSteps_64 (by decide) ?_
              refine lv_istore_n (pc := 71) (lv' := [(1, .int 0), (0, .ref M)]) E.1 E.2.1 dX12_readSteps_71 rfl hl21 (by decide) rfl (fun ls hl207 => ?_)
              refine lv_iload_n (pc := 72) E.1 E.2.1 dX12_readSteps_72 rfl (lv_at hl207 0 rfl) ?_
              refine lv_iconst (pc := 73) (v := (-1)) E.1 E.2.1 dX12_readSteps_73 (by decide +kernel) ?_
              refine lv_icmp_ne (pc := 74) (tgt := 79) E.1 E.2.1 dX12_readSteps_74 (by decide) (fun _ => ?_) (fun c_208 => absurd c_208 (mneE (a := 0) (b := (-1)) (by decide +kernel) (by decide +kernel) (by omega)))
              refine lv_goto (pc := 79) (tgt := 5) E.1 E.2.1 dX12_readSteps_79 (by decide) ?_
              exact ih_16 nspot_178 nfrom_179 ntoken_180 nvalue_181 nreadFault_182 nreadPlace_183 nsteps_186 nopen_187 gstepOp_184 gstepHow_185 _ _ _ ⟨hp_189, hp_190, hp_191, hp_192, hp_193, hp_194, (by show 0 ≤ nsteps_186.toInt; omega), (by show 3 * nsteps_186.toInt + 2 * nopen_187.toInt ≤ nfrom_179.toInt; omega), (by show 0 ≤ nopen_187.toInt; omega), hp_196, (RSP_n (hp_198 _ (by omega) hi_15_10) rfl (by omega)), (RRL_it hi_15_11 (by omega) (by omega) hp_199 (show (0 : Int32).toInt ≠ -1 from by decide +kernel) (by omega) (by omega)), (show AGN ntoken_180.toInt nvalue_181.toInt nfrom_179.toInt nspot_178.toInt from hp_197)⟩ (by omega) hw188 (lv_sub hl207 [1] rfl)
          · skip
            have ha_172 : ¬ x_8.toInt = 2 := ha_172
            refine lv_if_eq (pc := 57) (tgt := 67) E.1 E.2.1 dX12_readSteps_57 (by decide) (fun _ => ?_) (fun c_209 => absurd (meqE (a := 0) (b := 0) (by decide +kernel) (by decide +kernel) (by omega)) c_209)
            have hD : 1 ≤ x_13.toInt ∧ 1 ≤ x_8.toInt := by have q := hj_19_0; unfold RSD at q; omega
            have hD2 : x_8.toInt = 4 ∧ x_9.toInt = 41 := by have q := hj_19_0; unfold RSD at q; omega
            refine lv_aload_n (pc := 67) E.1 E.2.1 dX12_readSteps_67 rfl (lv_at hl21 0 rfl) ?_
            refine cm_i (pc := 68) hw168 (rn_M (As := []) (rest := []) E hw168 (s_readAgainEndT l D cI cJ _ M mr (upd (upd (upd (upd (upd (upd (upd (upd mi 22 x_6) 23 x_7) 24 x_8) 25 x_9) 35 x_13) 38 x_10) 39 x_11) 48 x_12) (va_up (va_up mf 46 g_14) 47 g_15) mg hi_15_0 hi_15_1 hi_15_2 h3 hi_15_3 hi_15_4 hi_15_5 h7 h8 hi_15_6 (by show 3 * x_12.toInt ≤ x_7.toInt; omega) (by show 1 ≤ x_8.toInt; omega) (by show 1 ≤ x_13.toInt ∧ x_13.toInt ≤ 4; omega) (by show x_8.toInt = 4; omega) (by show x_9.toInt = 41; omega) a_tape (show (∀ j : Nat, j < 154 → (mf 26) j = w0 j) from lf_words) (show AGN x_8.toInt x_9.toInt x_7.toInt x_6.toInt from hj_19_1)) (gdV q_1754 q_1756 q_74 q_162 q_1757) hdV_X12_readAgainEnd ⟨rfl, rfl⟩ ⟨(Nat.le_of_ble_eq_true rfl), (Nat.le_of_ble_eq_true rfl)⟩ ⟨(Nat.le_of_ble_eq_true rfl), (Nat.le_of_ble_eq_true rfl)⟩ 12 rfl rfl rfl rfl hl21.1 rfl (Nat.le_of_ble_eq_true rfl) dX12_readSteps_68) (fun r_211 u_210 H1 locs hp hw212 => ?_)
            obtain ⟨nspot_213, nfrom_214, ntoken_215, nvalue_216, nreadFault_217, nreadPlace_218, gstepOp_219, gstepHow_220, nsteps_221, nopen_222⟩ := u_210
            generalize H1 = H at hw212 ⊢
            have hw223 : WD D A s.heap (MW cI cJ M mr (upd (upd (upd (upd (upd (upd (upd (upd mi 22 nspot_213) 23 nfrom_214) 24 ntoken_215) 25 nvalue_216) 35 nopen_222) 38 nreadFault_217) 39 nreadPlace_218) 48 nsteps_221) (va_up (va_up mf 46 gstepOp_219) 47 gstepHow_220) mg) H locs := hw212
            obtain ⟨hp_224, hp_225, hp_226, hp_227, hp_228, hp_229, hp_230, hp_231, hp_232, hp_233⟩ := hp
            have hp_224 : 0 ≤ nfrom_214.toInt := hp_224
            have hp_225 : nfrom_214.toInt ≤ nspot_213.toInt := hp_225
            have hp_226 : nspot_213.toInt ≤ (mi 21).toInt := hp_226
            have hp_227 : 0 ≤ ntoken_215.toInt := hp_227
            have hp_228 : ntoken_215.toInt ≤ 4 := hp_228
            have hp_229 : ntoken_215.toInt ≤ 4 * nspot_213.toInt - 4 * nfrom_214.toInt := hp_229
            have hp_230 : AGN ntoken_215.toInt nvalue_216.toInt nfrom_214.toInt nspot_213.toInt := hp_230
            have hp_231 : r_211 = 0 → (∀ t : Nat, RSP g_14 g_15 (mi 6).toInt ((x_12.toInt).toNat) (t + 1) → RSP gstepOp_219 gstepHow_220 (mi 6).toInt ((nsteps_221.toInt).toNat) t) := hp_231
            have hp_232 : (∀ p : Int, TKR (mf 20) (mi 21).toInt p x_7.toInt x_6.toInt x_8.toInt x_9.toInt → IR (mf 20) (mi 21).toInt (itR (mf 20) (mi 21).toInt ((mi 6).toInt - 1) ((x_13.toInt).toNat) p) 3 (stpL g_14 g_15 ((x_12.toInt).toNat)) (stpL gstepOp_219 gstepHow_220 ((nsteps_221.toInt).toNat)) (r_211 : Int32).toInt nreadFault_217.toInt nreadPlace_218.toInt nfrom_214.toInt nspot_213.toInt ntoken_215.toInt nvalue_216.toInt) := hp_232
            rcases hp_233 with ⟨rfl, ha_234, ha_235, ha_236⟩
            · skip
              have hp_231 := hp_231 rfl
              have ha_234 : x_7.toInt + 1 ≤ nfrom_214.toInt := ha_234
              have ha_235 : nsteps_221.toInt = x_12.toInt + 1 := ha_235
              have ha_236 : nopen_222.toInt = x_13.toInt - 1 := ha_236
              refine lv_istore_n (pc := 71) (lv' := [(1, .int 0), (0, .ref M)]) E.1 E.2.1 dX12_readSteps_71 rfl hl21 (by decide) rfl (fun ls hl237 => ?_)
              refine lv_iload_n (pc := 72) E.1 E.2.1 dX12_readSteps_72 rfl (lv_at hl237 0 rfl) ?_
              refine lv_iconst (pc := 73) (v := (-1)) E.1 E.2.1 dX12_readSteps_73 (by decide +kernel) ?_
              refine lv_icmp_ne (pc := 74) (tgt := 79) E.1 E.2.1 dX12_readSteps_74 (by decide) (fun _ => ?_) (fun c_238 => absurd c_238 (mneE (a := 0) (b := (-1)) (by decide +kernel) (by decide +kernel) (by omega)))
              refine lv_goto (pc := 79) (tgt := 5) E.1 E.2.1 dX12_readSteps_79 (by decide) ?_
              exact ih_16 nspot_213 nfrom_214 ntoken_215 nvalue_216 nreadFault_217 nreadPlace_218 nsteps_221 nopen_222 gstepOp_219 gstepHow_220 _ _ _ ⟨hp_224, hp_225, hp_226, hp_227, hp_228, hp_229, (by show 0 ≤ nsteps_221.toInt; omega), (by show 3 * nsteps_221.toInt + 2 * nopen_222.toInt ≤ nfrom_214.toInt; omega), (by show 0 ≤ nopen_222.toInt; omega), (by show nopen_222.toInt ≤ 4; omega), (hp_231 _ (RSP_n hi_15_10 rfl (by omega))), (RRL_it hi_15_11 (by omega) (by omega) hp_232 (show (0 : Int32).toInt ≠ -1 from by decide +kernel) (by omega) (by omega)), (show AGN ntoken_215.toInt nvalue_216.toInt nfrom_214.toInt nspot_213.toInt from hp_230)⟩ (by omega) hw223 (lv_sub hl237 [1] rfl)
          · skip
            have ha_173 : ¬ x_9.toInt = (30 : Int32).toInt := ha_173
            rw [show (30 : Int32).toInt = 30 from by decide +kernel] at ha_173
            refine lv_if_eq (pc := 57) (tgt := 67) E.1 E.2.1 dX12_readSteps_57 (by decide) (fun _ => ?_) (fun c_239 => absurd (meqE (a := 0) (b := 0) (by decide +kernel) (by decide +kernel) (by omega)) c_239)
            have hD : 1 ≤ x_13.toInt ∧ 1 ≤ x_8.toInt := by have q := hj_19_0; unfold RSD at q; omega
            have hD2 : x_8.toInt = 4 ∧ x_9.toInt = 41 := by have q := hj_19_0; unfold RSD at q; omega
            refine lv_aload_n (pc := 67) E.1 E.2.1 dX12_readSteps_67 rfl (lv_at hl21 0 rfl) ?_
            refine cm_i (pc := 68) hw168 (rn_M (As := []) (rest := []) E hw168 (s_readAgainEndT l D cI cJ _ M mr (upd (upd (upd (upd (upd (upd (upd (upd mi 22 x_6) 23 x_7) 24 x_8) 25 x_9) 35 x_13) 38 x_10) 39 x_11) 48 x_12) (va_up (va_up mf 46 g_14) 47 g_15) mg hi_15_0 hi_15_1 hi_15_2 h3 hi_15_3 hi_15_4 hi_15_5 h7 h8 hi_15_6 (by show 3 * x_12.toInt ≤ x_7.toInt; omega) (by show 1 ≤ x_8.toInt; omega) (by show 1 ≤ x_13.toInt ∧ x_13.toInt ≤ 4; omega) (by show x_8.toInt = 4; omega) (by show x_9.toInt = 41; omega) a_tape (show (∀ j : Nat, j < 154 → (mf 26) j = w0 j) from lf_words) (show AGN x_8.toInt x_9.toInt x_7.toInt x_6.toInt from hj_19_1)) (gdV q_1754 q_1756 q_74 q_162 q_1757) hdV_X12_readAgainEnd ⟨rfl, rfl⟩ ⟨(Nat.le_of_ble_eq_true rfl), (Nat.le_of_ble_eq_true rfl)⟩ ⟨(Nat.le_of_ble_eq_true rfl), (Nat.le_of_ble_eq_true rfl)⟩ 12 rfl rfl rfl rfl hl21.1 rfl (Nat.le_of_ble_eq_true rfl) dX12_readSteps_68) (fun r_241 u_240 H1 locs hp hw242 => ?_)
            obtain ⟨nspot_243, nfrom_244, ntoken_245, nvalue_246, nreadFault_247, nreadPlace_248, gstepOp_249, gstepHow_250, nsteps_251, nopen_252⟩ := u_240
            generalize H1 = H at hw242 ⊢
            have hw253 : WD D A s.heap (MW cI cJ M mr (upd (upd (upd (upd (upd (upd (upd (upd mi 22 nspot_243) 23 nfrom_244) 24 ntoken_245) 25 nvalue_246) 35 nopen_252) 38 nreadFault_247) 39 nreadPlace_248) 48 nsteps_251) (va_up (va_up mf 46 gstepOp_249) 47 gstepHow_250) mg) H locs := hw242
            obtain ⟨hp_254, hp_255, hp_256, hp_257, hp_258, hp_259, hp_260, hp_261, hp_262, hp_263⟩ := hp
            have hp_254 : 0 ≤ nfrom_244.toInt := hp_254
            have hp_255 : nfrom_244.toInt ≤ nspot_243.toInt := hp_255
            have hp_256 : nspot_243.toInt ≤ (mi 21).toInt := hp_256
            have hp_257 : 0 ≤ ntoken_245.toInt := hp_257
            have hp_258 : ntoken_245.toInt ≤ 4 := hp_258
            have hp_259 : ntoken_245.toInt ≤ 4 * nspot_243.toInt - 4 * nfrom_244.toInt := hp_259
            have hp_260 : AGN ntoken_245.toInt nvalue_246.toInt nfrom_244.toInt nspot_243.toInt := hp_260
            have hp_261 : r_241 = 0 → (∀ t : Nat, RSP g_14 g_15 (mi 6).toInt ((x_12.toInt).toNat) (t + 1) → RSP gstepOp_249 gstepHow_250 (mi 6).toInt ((nsteps_251.toInt).toNat) t) := hp_261
            have hp_262 : (∀ p : Int, TKR (mf 20) (mi 21).toInt p x_7.toInt x_6.toInt x_8.toInt x_9.toInt → IR (mf 20) (mi 21).toInt (itR (mf 20) (mi 21).toInt ((mi 6).toInt - 1) ((x_13.toInt).toNat) p) 3 (stpL g_14 g_15 ((x_12.toInt).toNat)) (stpL gstepOp_249 gstepHow_250 ((nsteps_251.toInt).toNat)) (r_241 : Int32).toInt nreadFault_247.toInt nreadPlace_248.toInt nfrom_244.toInt nspot_243.toInt ntoken_245.toInt nvalue_246.toInt) := hp_262
            rcases hp_263 with ⟨rfl, ha_264, ha_265, ha_266⟩
            · skip
              have hp_261 := hp_261 rfl
              have ha_264 : x_7.toInt + 1 ≤ nfrom_244.toInt := ha_264
              have ha_265 : nsteps_251.toInt = x_12.toInt + 1 := ha_265
              have ha_266 : nopen_252.toInt = x_13.toInt - 1 := ha_266
              refine lv_istore_n (pc := 71) (lv' := [(1, .int 0), (0, .ref M)]) E.1 E.2.1 dX12_readSteps_71 rfl hl21 (by decide) rfl (fun ls hl267 => ?_)
              refine lv_iload_n (pc := 72) E.1 E.2.1 dX12_readSteps_72 rfl (lv_at hl267 0 rfl) ?_
              refine lv_iconst (pc := 73) (v := (-1)) E.1 E.2.1 dX12_readSteps_73 (by decide +kernel) ?_
              refine lv_icmp_ne (pc := 74) (tgt := 79) E.1 E.2.1 dX12_readSteps_74 (by decide) (fun _ => ?_) (fun c_268 => absurd c_268 (mneE (a := 0) (b := (-1)) (by decide +kernel) (by decide +kernel) (by omega)))
              refine lv_goto (pc := 79) (tgt := 5) E.1 E.2.1 dX12_readSteps_79 (by decide) ?_
              exact ih_16 nspot_243 nfrom_244 ntoken_245 nvalue_246 nreadFault_247 nreadPlace_248 nsteps_251 nopen_252 gstepOp_249 gstepHow_250 _ _ _ ⟨hp_254, hp_255, hp_256, hp_257, hp_258, hp_259, (by show 0 ≤ nsteps_251.toInt; omega), (by show 3 * nsteps_251.toInt + 2 * nopen_252.toInt ≤ nfrom_244.toInt; omega), (by show 0 ≤ nopen_252.toInt; omega), (by show nopen_252.toInt ≤ 4; omega), (hp_261 _ (RSP_n hi_15_10 rfl (by omega))), (RRL_it hi_15_11 (by omega) (by omega) hp_262 (show (0 : Int32).toInt ≠ -1 from by decide +kernel) (by omega) (by omega)), (show AGN ntoken_245.toInt nvalue_246.toInt nfrom_244.toInt nspot_243.toInt from hp_260)⟩ (by omega) hw253 (lv_sub hl267 [1] rfl)
      refine lv_aload_n (pc := 5) E.1 E.2.1 dX12_readSteps_5 rfl (lv_at hl18 0 rfl) ?_
      refine cm_i (pc := 6) hw17 (rn_M (As := []) (rest := []) E hw17 (s_isStepT l D cI cJ _ M mr (upd (upd (upd (upd (upd (upd (upd (upd mi 22 x_6) 23 x_7) 24 x_8) 25 x_9) 35 x_13) 38 x_10) 39 x_11) 48 x_12) (va_up (va_up mf 46 g_14) 47 g_15) mg ) (gdV q_1738 q_1740 q_70 q_162 q_1741) hdV_X12_isStep ⟨rfl, rfl⟩ ⟨(Nat.le_of_ble_eq_true rfl), (Nat.le_of_ble_eq_true rfl)⟩ ⟨(Nat.le_of_ble_eq_true rfl), (Nat.le_of_ble_eq_true rfl)⟩ 12 rfl rfl rfl rfl hl18.1 rfl (Nat.le_of_ble_eq_true rfl) dX12_readSteps_6) (fun r_270 u_269 H1 locs hp hw271 => ?_)
      generalize H1 = H at hw271 ⊢
      have hw272 : WD D A s.heap (MW cI cJ M mr (upd (upd (upd (upd (upd (upd (upd (upd mi 22 x_6) 23 x_7) 24 x_8) 25 x_9) 35 x_13) 38 x_10) 39 x_11) 48 x_12) (va_up (va_up mf 46 g_14) 47 g_15) mg) H locs := hw271
      have hp_273 := hp
      rcases hp_273 with ⟨rfl, ha_274, ha_275⟩ | ⟨rfl, ha_276, ha_277⟩ | ⟨rfl, ha_278⟩ | ⟨rfl, ha_279, ha_280⟩
      · skip
        have ha_274 : x_8.toInt = 2 := ha_274
        have ha_275 : x_9.toInt = 28 := ha_275
        refine lv_if_ne (pc := 9) (tgt := 37) E.1 E.2.1 dX12_readSteps_9 (by decide) (fun _ => ?_) (fun c_281 => absurd c_281 (mneE (a := 1) (b := 0) (by decide +kernel) (by decide +kernel) (by omega)))
        exact join_19  _ _ _ ⟨(by unfold RSD; omega), (show AGN x_8.toInt x_9.toInt x_7.toInt x_6.toInt from hi_15_12)⟩ hw272 (lv_sub hl18 [0] rfl)
      · skip
        have ha_276 : x_8.toInt = 2 := ha_276
        have ha_277 : x_9.toInt = 29 := ha_277
        refine lv_if_ne (pc := 9) (tgt := 37) E.1 E.2.1 dX12_readSteps_9 (by decide) (fun _ => ?_) (fun c_282 => absurd c_282 (mneE (a := 1) (b := 0) (by decide +kernel) (by decide +kernel) (by omega)))
        exact join_19  _ _ _ ⟨(by unfold RSD; omega), (show AGN x_8.toInt x_9.toInt x_7.toInt x_6.toInt from hi_15_12)⟩ hw272 (lv_sub hl18 [0] rfl)
      · skip
        have ha_278 : ¬ x_8.toInt = 2 := ha_278
        refine lv_if_ne (pc := 9) (tgt := 37) E.1 E.2.1 dX12_readSteps_9 (by decide) (fun c_283 => absurd (meqE (a := 0) (b := 0) (by decide +kernel) (by decide +kernel) (by omega)) c_283) (fun _ => ?_)
        refine lv_aload_n (pc := 12) E.1 E.2.1 dX12_readSteps_12 rfl (lv_at hl18 0 rfl) ?_
        refine lv_bipush (pc := 13) (v := 30) E.1 E.2.1 dX12_readSteps_13 (by decide +kernel) ?_
        refine cm_i (pc := 15) hw272 (rn_M (As := [.int 30]) (rest := []) E hw272 (s_isWordT l D cI cJ _ M mr (upd (upd (upd (upd (upd (upd (upd (upd mi 22 x_6) 23 x_7) 24 x_8) 25 x_9) 35 x_13) 38 x_10) 39 x_11) 48 x_12) (va_up (va_up mf 46 g_14) 47 g_15) mg 30) (gdV q_1694 q_1696 q_59 q_162 q_1697) hdV_X12_isWord ⟨rfl, rfl⟩ ⟨(Nat.le_of_ble_eq_true rfl), (Nat.le_of_ble_eq_true rfl)⟩ ⟨(Nat.le_of_ble_eq_true rfl), (Nat.le_of_ble_eq_true rfl)⟩ 12 rfl rfl rfl rfl hl18.1 rfl (Nat.le_of_ble_eq_true rfl) dX12_readSteps_15) (fun r_285 u_284 H1 locs hp hw286 => ?_)
        generalize H1 = H at hw286 ⊢
        have hw287 : WD D A s.heap (MW cI cJ M mr (upd (upd (upd (upd (upd (upd (upd (upd mi 22 x_6) 23 x_7) 24 x_8) 25 x_9) 35 x_13) 38 x_10) 39 x_11) 48 x_12) (va_up (va_up mf 46 g_14) 47 g_15) mg) H locs := hw286
        have hp_288 := hp
        rcases hp_288 with ⟨rfl, ha_289, ha_290⟩ | ⟨rfl, ha_291⟩ | ⟨rfl, ha_292⟩
        · skip
          have ha_289 : x_8.toInt = 2 := ha_289
          have ha_290 : x_9.toInt = (30 : Int32).toInt := ha_290
          rw [show (30 : Int32).toInt = 30 from by decide +kernel] at ha_290
          exfalso; omega
        · skip
          have ha_291 : ¬ x_8.toInt = 2 := ha_291
          refine lv_if_ne (pc := 18) (tgt := 37) E.1 E.2.1 dX12_readSteps_18 (by decide) (fun c_293 => absurd (meqE (a := 0) (b := 0) (by decide +kernel) (by decide +kernel) (by omega)) c_293) (fun _ => ?_)
          refine lv_aload_n (pc := 21) E.1 E.2.1 dX12_readSteps_21 rfl (lv_at hl18 0 rfl) ?_
          refine x_get (pc := 22) (T := TX12) (N := 70) (ci := 12) (v := .int x_13) E hw287 inX12 0 35 q_1434 rfl rfl (by decide) rfl rfl dX12_readSteps_22 ?_
          refine lv_if_le (pc := 25) (tgt := 82) E.1 E.2.1 dX12_readSteps_25 (by decide) (fun c_294 => ?_) (fun c_294 => ?_)
          · skip
            have hc_294 := leE (a := x_13.toInt) (b := 0) rfl (by decide +kernel) c_294
            refine lv_aload_n (pc := 82) E.1 E.2.1 dX12_readSteps_82 rfl (lv_at hl18 0 rfl) ?_
            refine x_get (pc := 83) (T := TX12) (N := 70) (ci := 12) (v := .int x_13) E hw287 inX12 0 35 q_1434 rfl rfl (by decide) rfl rfl dX12_readSteps_83 ?_
            refine lv_if_ne (pc := 86) (tgt := 100) E.1 E.2.1 dX12_readSteps_86 (by decide) (fun c_295 => absurd (meqE (a := x_13.toInt) (b := 0) rfl (by decide +kernel) (by omega)) c_295) (fun _ => ?_)
            refine lv_aload_n (pc := 89) E.1 E.2.1 dX12_readSteps_89 rfl (lv_at hl18 0 rfl) ?_
            refine x_get (pc := 90) (T := TX12) (N := 70) (ci := 12) (v := .int x_8) E hw287 inX12 0 24 q_1423 rfl rfl (by decide) rfl rfl dX12_readSteps_90 ?_
            refine lv_if_ne (pc := 93) (tgt := 100) E.1 E.2.1 dX12_readSteps_93 (by decide) (fun c_296 => ?_) (fun c_296 => ?_)
            · skip
              have hc_296 := neE (a := x_8.toInt) (b := 0) rfl (by decide +kernel) c_296
              refine lv_aload_n (pc := 100) E.1 E.2.1 dX12_readSteps_100 rfl (lv_at hl18 0 rfl) ?_
              refine lv_iconst (pc := 101) (v := 1) E.1 E.2.1 dX12_readSteps_101 (by decide +kernel) ?_
              refine cm_i (pc := 102) hw287 (rn_M (As := [.int 1]) (rest := []) E hw287 (s_errsT l D cI cJ _ M mr (upd (upd (upd (upd (upd (upd (upd (upd mi 22 x_6) 23 x_7) 24 x_8) 25 x_9) 35 x_13) 38 x_10) 39 x_11) 48 x_12) (va_up (va_up mf 46 g_14) 47 g_15) mg 1) (gdV q_1698 q_1700 q_60 q_162 q_1701) hdV_X12_errs ⟨rfl, rfl⟩ ⟨(Nat.le_of_ble_eq_true rfl), (Nat.le_of_ble_eq_true rfl)⟩ ⟨(Nat.le_of_ble_eq_true rfl), (Nat.le_of_ble_eq_true rfl)⟩ 12 rfl rfl rfl rfl hl18.1 rfl (Nat.le_of_ble_eq_true rfl) dX12_readSteps_102) (fun r_298 u_297 H1 locs hp hw299 => ?_)
              obtain ⟨nreadFault_300, nreadPlace_301⟩ := u_297
              generalize H1 = H at hw299 ⊢
              have hw302 : WD D A s.heap (MW cI cJ M mr (upd (upd (upd (upd (upd (upd (upd (upd mi 22 x_6) 23 x_7) 24 x_8) 25 x_9) 35 x_13) 38 nreadFault_300) 39 nreadPlace_301) 48 x_12) (va_up (va_up mf 46 g_14) 47 g_15) mg) H locs := hw299
              obtain ⟨hp_303, hp_304, hp_305⟩ := hp
              have hp_303 : nreadFault_300.toInt = (1 : Int32).toInt := hp_303
              rw [show (1 : Int32).toInt = 1 from by decide +kernel] at hp_303
              have hp_304 : nreadPlace_301.toInt = x_7.toInt := hp_304
              rcases hp_305 with rfl
              · skip
                exact em_i (w1 := (fun (u : Int32 × Int32 × Int32 × Int32 × Int32 × Int32 × (Nat → Int32) × (Nat → Int32) × Int32 × Int32) => (MW cI cJ M mr (upd (upd (upd (upd (upd (upd (upd (upd mi 22 u.1) 23 u.2.1) 24 u.2.2.1) 25 u.2.2.2.1) 38 u.2.2.2.2.1) 39 u.2.2.2.2.2.1) 48 u.2.2.2.2.2.2.2.2.1) 35 u.2.2.2.2.2.2.2.2.2) (va_up (va_up mf 46 u.2.2.2.2.2.2.1) 47 u.2.2.2.2.2.2.2.1) mg))) E hr hlk (x_6, x_7, x_8, x_9, nreadFault_300, nreadPlace_301, g_14, g_15, x_12, x_13) hw302 ⟨hi_15_0, hi_15_1, hi_15_2, hi_15_3, hi_15_4, hi_15_5, hi_15_12, (fun h => absurd h (by decide +kernel)), (show (∀ p0 : Int, TKR (mf 20) (mi 21).toInt p0 (mi 23).toInt (mi 22).toInt (mi 24).toInt (mi 25).toInt → SR (mf 20) (mi 21).toInt ((rnG (endR (mf 20) (mi 21).toInt) (itR (mf 20) (mi 21).toInt ((mi 6).toInt - 1)) 401 (0, []) p0).bind (opnG (mf 20) (mi 21).toInt)) (stpL g_14 g_15 ((x_12.toInt).toNat)) ((-1) : Int32).toInt nreadFault_300.toInt nreadPlace_301.toInt x_7.toInt) from (RRL_bad hi_15_11 (by omega) (by omega) (by omega) (by omega) (by omega) (by omega) (by decide +kernel) (by have k1 : (1 : Int32).toInt = 1 := (by decide +kernel); omega) (by omega))), (Or.inl rfl)⟩ (Nat.le_of_ble_eq_true rfl) (Nat.le_of_ble_eq_true rfl) dX12_readSteps_105
            · skip
              have hc_296 := eqE (a := x_8.toInt) (b := 0) rfl (by decide +kernel) c_296
              refine lv_iconst (pc := 96) (v := 0) E.1 E.2.1 dX12_readSteps_96 (by decide +kernel) ?_
              refine lv_goto (pc := 97) (tgt := 105) E.1 E.2.1 dX12_readSteps_97 (by decide) ?_
              exact em_i (w1 := (fun (u : Int32 × Int32 × Int32 × Int32 × Int32 × Int32 × (Nat → Int32) × (Nat → Int32) × Int32 × Int32) => (MW cI cJ M mr (upd (upd (upd (upd (upd (upd (upd (upd mi 22 u.1) 23 u.2.1) 24 u.2.2.1) 25 u.2.2.2.1) 38 u.2.2.2.2.1) 39 u.2.2.2.2.2.1) 48 u.2.2.2.2.2.2.2.2.1) 35 u.2.2.2.2.2.2.2.2.2) (va_up (va_up mf 46 u.2.2.2.2.2.2.1) 47 u.2.2.2.2.2.2.2.1) mg))) E hr hlk (x_6, x_7, x_8, x_9, x_10, x_11, g_14, g_15, x_12, x_13) hw287 ⟨hi_15_0, hi_15_1, hi_15_2, hi_15_3, hi_15_4, hi_15_5, hi_15_12, (fun _ => (show (∃ t : Nat, t = 0 ∧ RSP g_14 g_15 (mi 6).toInt ((x_12.toInt).toNat) t) from ⟨_, by omega, hi_15_10⟩)), (show (∀ p0 : Int, TKR (mf 20) (mi 21).toInt p0 (mi 23).toInt (mi 22).toInt (mi 24).toInt (mi 25).toInt → SR (mf 20) (mi 21).toInt ((rnG (endR (mf 20) (mi 21).toInt) (itR (mf 20) (mi 21).toInt ((mi 6).toInt - 1)) 401 (0, []) p0).bind (opnG (mf 20) (mi 21).toInt)) (stpL g_14 g_15 ((x_12.toInt).toNat)) (0 : Int32).toInt x_10.toInt x_11.toInt x_7.toInt) from (RRL_end hi_15_11 (by omega) (by omega) (by omega) (show (0 : Int32).toInt ≠ -1 from by decide +kernel))), (Or.inr (⟨rfl, hi_15_6, (by show x_12.toInt ≤ 140; omega)⟩))⟩ (Nat.le_of_ble_eq_true rfl) (Nat.le_of_ble_eq_true rfl) dX12_readSteps_105
          · skip
            have hc_294 := nleE (a := x_13.toInt) (b := 0) rfl (by decide +kernel) c_294
            refine lv_aload_n (pc := 28) E.1 E.2.1 dX12_readSteps_28 rfl (lv_at hl18 0 rfl) ?_
            refine lv_bipush (pc := 29) (v := 41) E.1 E.2.1 dX12_readSteps_29 (by decide +kernel) ?_
            refine cm_i (pc := 31) hw287 (rn_M (As := [.int 41]) (rest := []) E hw287 (s_isSignT l D cI cJ _ M mr (upd (upd (upd (upd (upd (upd (upd (upd mi 22 x_6) 23 x_7) 24 x_8) 25 x_9) 35 x_13) 38 x_10) 39 x_11) 48 x_12) (va_up (va_up mf 46 g_14) 47 g_15) mg 41) (gdV q_1718 q_1720 q_65 q_162 q_1721) hdV_X12_isSign ⟨rfl, rfl⟩ ⟨(Nat.le_of_ble_eq_true rfl), (Nat.le_of_ble_eq_true rfl)⟩ ⟨(Nat.le_of_ble_eq_true rfl), (Nat.le_of_ble_eq_true rfl)⟩ 12 rfl rfl rfl rfl hl18.1 rfl (Nat.le_of_ble_eq_true rfl) dX12_readSteps_31) (fun r_307 u_306 H1 locs hp hw308 => ?_)
            generalize H1 = H at hw308 ⊢
            have hw309 : WD D A s.heap (MW cI cJ M mr (upd (upd (upd (upd (upd (upd (upd (upd mi 22 x_6) 23 x_7) 24 x_8) 25 x_9) 35 x_13) 38 x_10) 39 x_11) 48 x_12) (va_up (va_up mf 46 g_14) 47 g_15) mg) H locs := hw308
            have hp_310 := hp
            rcases hp_310 with ⟨rfl, ha_311, ha_312⟩ | ⟨rfl, ha_313⟩ | ⟨rfl, ha_314⟩
            · skip
              have ha_311 : x_8.toInt = 4 := ha_311
              have ha_312 : x_9.toInt = (41 : Int32).toInt := ha_312
              rw [show (41 : Int32).toInt = 41 from by decide +kernel] at ha_312
              refine lv_if_eq (pc := 34) (tgt := 82) E.1 E.2.1 dX12_readSteps_34 (by decide) (fun c_315 => absurd c_315 (mneE (a := 1) (b := 0) (by decide +kernel) (by decide +kernel) (by omega))) (fun _ => ?_)
              exact join_19  _ _ _ ⟨(by unfold RSD; omega), (show AGN x_8.toInt x_9.toInt x_7.toInt x_6.toInt from hi_15_12)⟩ hw309 (lv_sub hl18 [0] rfl)
            · skip
              have ha_313 : ¬ x_8.toInt = 4 := ha_313
              refine lv_if_eq (pc := 34) (tgt := 82) E.1 E.2.1 dX12_readSteps_34 (by decide) (fun _ => ?_) (fun c_316 => absurd (meqE (a := 0) (b := 0) (by decide +kernel) (by decide +kernel) (by omega)) c_316)
              refine lv_aload_n (pc := 82) E.1 E.2.1 dX12_readSteps_82 rfl (lv_at hl18 0 rfl) ?_
              refine x_get (pc := 83) (T := TX12) (N := 70) (ci := 12) (v := .int x_13) E hw309 inX12 0 35 q_1434 rfl rfl (by decide) rfl rfl dX12_readSteps_83 ?_
              refine lv_if_ne (pc := 86) (tgt := 100) E.1 E.2.1 dX12_readSteps_86 (by decide) (fun _ => ?_) (fun c_317 => absurd c_317 (mneE (a := x_13.toInt) (b := 0) rfl (by decide +kernel) (by omega)))
              refine lv_aload_n (pc := 100) E.1 E.2.1 dX12_readSteps_100 rfl (lv_at hl18 0 rfl) ?_
              refine lv_iconst (pc := 101) (v := 1) E.1 E.2.1 dX12_readSteps_101 (by decide +kernel) ?_
              refine cm_i (pc := 102) hw309 (rn_M (As := [.int 1]) (rest := []) E hw309 (s_errsT l D cI cJ _ M mr (upd (upd (upd (upd (upd (upd (upd (upd mi 22 x_6) 23 x_7) 24 x_8) 25 x_9) 35 x_13) 38 x_10) 39 x_11) 48 x_12) (va_up (va_up mf 46 g_14) 47 g_15) mg 1) (gdV q_1698 q_1700 q_60 q_162 q_1701) hdV_X12_errs ⟨rfl, rfl⟩ ⟨(Nat.le_of_ble_eq_true rfl), (Nat.le_of_ble_eq_true rfl)⟩ ⟨(Nat.le_of_ble_eq_true rfl), (Nat.le_of_ble_eq_true rfl)⟩ 12 rfl rfl rfl rfl hl18.1 rfl (Nat.le_of_ble_eq_true rfl) dX12_readSteps_102) (fun r_319 u_318 H1 locs hp hw320 => ?_)
              obtain ⟨nreadFault_321, nreadPlace_322⟩ := u_318
              generalize H1 = H at hw320 ⊢
              have hw323 : WD D A s.heap (MW cI cJ M mr (upd (upd (upd (upd (upd (upd (upd (upd mi 22 x_6) 23 x_7) 24 x_8) 25 x_9) 35 x_13) 38 nreadFault_321) 39 nreadPlace_322) 48 x_12) (va_up (va_up mf 46 g_14) 47 g_15) mg) H locs := hw320
              obtain ⟨hp_324, hp_325, hp_326⟩ := hp
              have hp_324 : nreadFault_321.toInt = (1 : Int32).toInt := hp_324
              rw [show (1 : Int32).toInt = 1 from by decide +kernel] at hp_324
              have hp_325 : nreadPlace_322.toInt = x_7.toInt := hp_325
              rcases hp_326 with rfl
              · skip
                exact em_i (w1 := (fun (u : Int32 × Int32 × Int32 × Int32 × Int32 × Int32 × (Nat → Int32) × (Nat → Int32) × Int32 × Int32) => (MW cI cJ M mr (upd (upd (upd (upd (upd (upd (upd (upd mi 22 u.1) 23 u.2.1) 24 u.2.2.1) 25 u.2.2.2.1) 38 u.2.2.2.2.1) 39 u.2.2.2.2.2.1) 48 u.2.2.2.2.2.2.2.2.1) 35 u.2.2.2.2.2.2.2.2.2) (va_up (va_up mf 46 u.2.2.2.2.2.2.1) 47 u.2.2.2.2.2.2.2.1) mg))) E hr hlk (x_6, x_7, x_8, x_9, nreadFault_321, nreadPlace_322, g_14, g_15, x_12, x_13) hw323 ⟨hi_15_0, hi_15_1, hi_15_2, hi_15_3, hi_15_4, hi_15_5, hi_15_12, (fun h => absurd h (by decide +kernel)), (show (∀ p0 : Int, TKR (mf 20) (mi 21).toInt p0 (mi 23).toInt (mi 22).toInt (mi 24).toInt (mi 25).toInt → SR (mf 20) (mi 21).toInt ((rnG (endR (mf 20) (mi 21).toInt) (itR (mf 20) (mi 21).toInt ((mi 6).toInt - 1)) 401 (0, []) p0).bind (opnG (mf 20) (mi 21).toInt)) (stpL g_14 g_15 ((x_12.toInt).toNat)) ((-1) : Int32).toInt nreadFault_321.toInt nreadPlace_322.toInt x_7.toInt) from (RRL_bad hi_15_11 (by omega) (by omega) (by omega) (by omega) (by omega) (by omega) (by decide +kernel) (by have k1 : (1 : Int32).toInt = 1 := (by decide +kernel); omega) (by omega))), (Or.inl rfl)⟩ (Nat.le_of_ble_eq_true rfl) (Nat.le_of_ble_eq_true rfl) dX12_readSteps_105
            · skip
              have ha_314 : ¬ x_9.toInt = (41 : Int32).toInt := ha_314
              rw [show (41 : Int32).toInt = 41 from by decide +kernel] at ha_314
              refine lv_if_eq (pc := 34) (tgt := 82) E.1 E.2.1 dX12_readSteps_34 (by decide) (fun _ => ?_) (fun c_327 => absurd (meqE (a := 0) (b := 0) (by decide +kernel) (by decide +kernel) (by omega)) c_327)
              refine lv_aload_n (pc := 82) E.1 E.2.1 dX12_readSteps_82 rfl (lv_at hl18 0 rfl) ?_
              refine x_get (pc := 83) (T := TX12) (N := 70) (ci := 12) (v := .int x_13) E hw309 inX12 0 35 q_1434 rfl rfl (by decide) rfl rfl dX12_readSteps_83 ?_
              refine lv_if_ne (pc := 86) (tgt := 100) E.1 E.2.1 dX12_readSteps_86 (by decide) (fun _ => ?_) (fun c_328 => absurd c_328 (mneE (a := x_13.toInt) (b := 0) rfl (by decide +kernel) (by omega)))
              refine lv_aload_n (pc := 100) E.1 E.2.1 dX12_readSteps_100 rfl (lv_at hl18 0 rfl) ?_
              refine lv_iconst (pc := 101) (v := 1) E.1 E.2.1 dX12_readSteps_101 (by decide +kernel) ?_
              refine cm_i (pc := 102) hw309 (rn_M (As := [.int 1]) (rest := []) E hw309 (s_errsT l D cI cJ _ M mr (upd (upd (upd (upd (upd (upd (upd (upd mi 22 x_6) 23 x_7) 24 x_8) 25 x_9) 35 x_13) 38 x_10) 39 x_11) 48 x_12) (va_up (va_up mf 46 g_14) 47 g_15) mg 1) (gdV q_1698 q_1700 q_60 q_162 q_1701) hdV_X12_errs ⟨rfl, rfl⟩ ⟨(Nat.le_of_ble_eq_true rfl), (Nat.le_of_ble_eq_true rfl)⟩ ⟨(Nat.le_of_ble_eq_true rfl), (Nat.le_of_ble_eq_true rfl)⟩ 12 rfl rfl rfl rfl hl18.1 rfl (Nat.le_of_ble_eq_true rfl) dX12_readSteps_102) (fun r_330 u_329 H1 locs hp hw331 => ?_)
              obtain ⟨nreadFault_332, nreadPlace_333⟩ := u_329
              generalize H1 = H at hw331 ⊢
              have hw334 : WD D A s.heap (MW cI cJ M mr (upd (upd (upd (upd (upd (upd (upd (upd mi 22 x_6) 23 x_7) 24 x_8) 25 x_9) 35 x_13) 38 nreadFault_332) 39 nreadPlace_333) 48 x_12) (va_up (va_up mf 46 g_14) 47 g_15) mg) H locs := hw331
              obtain ⟨hp_335, hp_336, hp_337⟩ := hp
              have hp_335 : nreadFault_332.toInt = (1 : Int32).toInt := hp_335
              rw [show (1 : Int32).toInt = 1 from by decide +kernel] at hp_335
              have hp_336 : nreadPlace_333.toInt = x_7.toInt := hp_336
              rcases hp_337 with rfl
              · skip
                exact em_i (w1 := (fun (u : Int32 × Int32 × Int32 × Int32 × Int32 × Int32 × (Nat → Int32) × (Nat → Int32) × Int32 × Int32) => (MW cI cJ M mr (upd (upd (upd (upd (upd (upd (upd (upd mi 22 u.1) 23 u.2.1) 24 u.2.2.1) 25 u.2.2.2.1) 38 u.2.2.2.2.1) 39 u.2.2.2.2.2.1) 48 u.2.2.2.2.2.2.2.2.1) 35 u.2.2.2.2.2.2.2.2.2) (va_up (va_up mf 46 u.2.2.2.2.2.2.1) 47 u.2.2.2.2.2.2.2.1) mg))) E hr hlk (x_6, x_7, x_8, x_9, nreadFault_332, nreadPlace_333, g_14, g_15, x_12, x_13) hw334 ⟨hi_15_0, hi_15_1, hi_15_2, hi_15_3, hi_15_4, hi_15_5, hi_15_12, (fun h => absurd h (by decide +kernel)), (show (∀ p0 : Int, TKR (mf 20) (mi 21).toInt p0 (mi 23).toInt (mi 22).toInt (mi 24).toInt (mi 25).toInt → SR (mf 20) (mi 21).toInt ((rnG (endR (mf 20) (mi 21).toInt) (itR (mf 20) (mi 21).toInt ((mi 6).toInt - 1)) 401 (0, []) p0).bind (opnG (mf 20) (mi 21).toInt)) (stpL g_14 g_15 ((x_12.toInt).toNat)) ((-1) : Int32).toInt nreadFault_332.toInt nreadPlace_333.toInt x_7.toInt) from (RRL_bad hi_15_11 (by omega) (by omega) (by omega) (by omega) (by omega) (by omega) (by decide +kernel) (by have k1 : (1 : Int32).toInt = 1 := (by decide +kernel); omega) (by omega))), (Or.inl rfl)⟩ (Nat.le_of_ble_eq_true rfl) (Nat.le_of_ble_eq_true rfl) dX12_readSteps_105
        · skip
          have ha_292 : ¬ x_9.toInt = (30 : Int32).toInt := ha_292
          rw [show (30 : Int32).toInt = 30 from by decide +kernel] at ha_292
          refine lv_if_ne (pc := 18) (tgt := 37) E.1 E.2.1 dX12_readSteps_18 (by decide) (fun c_338 => absurd (meqE (a := 0) (b := 0) (by decide +kernel) (by decide +kernel) (by omega)) c_338) (fun _ => ?_)
          refine lv_aload_n (pc := 21) E.1 E.2.1 dX12_readSteps_21 rfl (lv_at hl18 0 rfl) ?_
          refine x_get (pc := 22) (T := TX12) (N := 70) (ci := 12) (v := .int x_13) E hw287 inX12 0 35 q_1434 rfl rfl (by decide) rfl rfl dX12_readSteps_22 ?_
          refine lv_if_le (pc := 25) (tgt := 82) E.1 E.2.1 dX12_readSteps_25 (by decide) (fun c_339 => ?_) (fun c_339 => ?_)
          · skip
            have hc_339 := leE (a := x_13.toInt) (b := 0) rfl (by decide +kernel) c_339
            refine lv_aload_n (pc := 82) E.1 E.2.1 dX12_readSteps_82 rfl (lv_at hl18 0 rfl) ?_
            refine x_get (pc := 83) (T := TX12) (N := 70) (ci := 12) (v := .int x_13) E hw287 inX12 0 35 q_1434 rfl rfl (by decide) rfl rfl dX12_readSteps_83 ?_
            refine lv_if_ne (pc := 86) (tgt := 100) E.1 E.2.1 dX12_readSteps_86 (by decide) (fun c_340 => absurd (meqE (a := x_13.toInt) (b := 0) rfl (by decide +kernel) (by omega)) c_340) (fun _ => ?_)
            refine lv_aload_n (pc := 89) E.1 E.2.1 dX12_readSteps_89 rfl (lv_at hl18 0 rfl) ?_
            refine x_get (pc := 90) (T := TX12) (N := 70) (ci := 12) (v := .int x_8) E hw287 inX12 0 24 q_1423 rfl rfl (by decide) rfl rfl dX12_readSteps_90 ?_
            refine lv_if_ne (pc := 93) (tgt := 100) E.1 E.2.1 dX12_readSteps_93 (by decide) (fun c_341 => ?_) (fun c_341 => ?_)
            · skip
              have hc_341 := neE (a := x_8.toInt) (b := 0) rfl (by decide +kernel) c_341
              refine lv_aload_n (pc := 100) E.1 E.2.1 dX12_readSteps_100 rfl (lv_at hl18 0 rfl) ?_
              refine lv_iconst (pc := 101) (v := 1) E.1 E.2.1 dX12_readSteps_101 (by decide +kernel) ?_
              refine cm_i (pc := 102) hw287 (rn_M (As := [.int 1]) (rest := []) E hw287 (s_errsT l D cI cJ _ M mr (upd (upd (upd (upd (upd (upd (upd (upd mi 22 x_6) 23 x_7) 24 x_8) 25 x_9) 35 x_13) 38 x_10) 39 x_11) 48 x_12) (va_up (va_up mf 46 g_14) 47 g_15) mg 1) (gdV q_1698 q_1700 q_60 q_162 q_1701) hdV_X12_errs ⟨rfl, rfl⟩ ⟨(Nat.le_of_ble_eq_true rfl), (Nat.le_of_ble_eq_true rfl)⟩ ⟨(Nat.le_of_ble_eq_true rfl), (Nat.le_of_ble_eq_true rfl)⟩ 12 rfl rfl rfl rfl hl18.1 rfl (Nat.le_of_ble_eq_true rfl) dX12_readSteps_102) (fun r_343 u_342 H1 locs hp hw344 => ?_)
              obtain ⟨nreadFault_345, nreadPlace_346⟩ := u_342
              generalize H1 = H at hw344 ⊢
              have hw347 : WD D A s.heap (MW cI cJ M mr (upd (upd (upd (upd (upd (upd (upd (upd mi 22 x_6) 23 x_7) 24 x_8) 25 x_9) 35 x_13) 38 nreadFault_345) 39 nreadPlace_346) 48 x_12) (va_up (va_up mf 46 g_14) 47 g_15) mg) H locs := hw344
              obtain ⟨hp_348, hp_349, hp_350⟩ := hp
              have hp_348 : nreadFault_345.toInt = (1 : Int32).toInt := hp_348
              rw [show (1 : Int32).toInt = 1 from by decide +kernel] at hp_348
              have hp_349 : nreadPlace_346.toInt = x_7.toInt := hp_349
              rcases hp_350 with rfl
              · skip
                exact em_i (w1 := (fun (u : Int32 × Int32 × Int32 × Int32 × Int32 × Int32 × (Nat → Int32) × (Nat → Int32) × Int32 × Int32) => (MW cI cJ M mr (upd (upd (upd (upd (upd (upd (upd (upd mi 22 u.1) 23 u.2.1) 24 u.2.2.1) 25 u.2.2.2.1) 38 u.2.2.2.2.1) 39 u.2.2.2.2.2.1) 48 u.2.2.2.2.2.2.2.2.1) 35 u.2.2.2.2.2.2.2.2.2) (va_up (va_up mf 46 u.2.2.2.2.2.2.1) 47 u.2.2.2.2.2.2.2.1) mg))) E hr hlk (x_6, x_7, x_8, x_9, nreadFault_345, nreadPlace_346, g_14, g_15, x_12, x_13) hw347 ⟨hi_15_0, hi_15_1, hi_15_2, hi_15_3, hi_15_4, hi_15_5, hi_15_12, (fun h => absurd h (by decide +kernel)), (show (∀ p0 : Int, TKR (mf 20) (mi 21).toInt p0 (mi 23).toInt (mi 22).toInt (mi 24).toInt (mi 25).toInt → SR (mf 20) (mi 21).toInt ((rnG (endR (mf 20) (mi 21).toInt) (itR (mf 20) (mi 21).toInt ((mi 6).toInt - 1)) 401 (0, []) p0).bind (opnG (mf 20) (mi 21).toInt)) (stpL g_14 g_15 ((x_12.toInt).toNat)) ((-1) : Int32).toInt nreadFault_345.toInt nreadPlace_346.toInt x_7.toInt) from (RRL_bad hi_15_11 (by omega) (by omega) (by omega) (by omega) (by omega) (by omega) (by decide +kernel) (by have k1 : (1 : Int32).toInt = 1 := (by decide +kernel); omega) (by omega))), (Or.inl rfl)⟩ (Nat.le_of_ble_eq_true rfl) (Nat.le_of_ble_eq_true rfl) dX12_readSteps_105
            · skip
              have hc_341 := eqE (a := x_8.toInt) (b := 0) rfl (by decide +kernel) c_341
              refine lv_iconst (pc := 96) (v := 0) E.1 E.2.1 dX12_readSteps_96 (by decide +kernel) ?_
              refine lv_goto (pc := 97) (tgt := 105) E.1 E.2.1 dX12_readSteps_97 (by decide) ?_
              exact em_i (w1 := (fun (u : Int32 × Int32 × Int32 × Int32 × Int32 × Int32 × (Nat → Int32) × (Nat → Int32) × Int32 × Int32) => (MW cI cJ M mr (upd (upd (upd (upd (upd (upd (upd (upd mi 22 u.1) 23 u.2.1) 24 u.2.2.1) 25 u.2.2.2.1) 38 u.2.2.2.2.1) 39 u.2.2.2.2.2.1) 48 u.2.2.2.2.2.2.2.2.1) 35 u.2.2.2.2.2.2.2.2.2) (va_up (va_up mf 46 u.2.2.2.2.2.2.1) 47 u.2.2.2.2.2.2.2.1) mg))) E hr hlk (x_6, x_7, x_8, x_9, x_10, x_11, g_14, g_15, x_12, x_13) hw287 ⟨hi_15_0, hi_15_1, hi_15_2, hi_15_3, hi_15_4, hi_15_5, hi_15_12, (fun _ => (show (∃ t : Nat, t = 0 ∧ RSP g_14 g_15 (mi 6).toInt ((x_12.toInt).toNat) t) from ⟨_, by omega, hi_15_10⟩)), (show (∀ p0 : Int, TKR (mf 20) (mi 21).toInt p0 (mi 23).toInt (mi 22).toInt (mi 24).toInt (mi 25).toInt → SR (mf 20) (mi 21).toInt ((rnG (endR (mf 20) (mi 21).toInt) (itR (mf 20) (mi 21).toInt ((mi 6).toInt - 1)) 401 (0, []) p0).bind (opnG (mf 20) (mi 21).toInt)) (stpL g_14 g_15 ((x_12.toInt).toNat)) (0 : Int32).toInt x_10.toInt x_11.toInt x_7.toInt) from (RRL_end hi_15_11 (by omega) (by omega) (by omega) (show (0 : Int32).toInt ≠ -1 from by decide +kernel))), (Or.inr (⟨rfl, hi_15_6, (by show x_12.toInt ≤ 140; omega)⟩))⟩ (Nat.le_of_ble_eq_true rfl) (Nat.le_of_ble_eq_true rfl) dX12_readSteps_105
          · skip
            have hc_339 := nleE (a := x_13.toInt) (b := 0) rfl (by decide +kernel) c_339
            refine lv_aload_n (pc := 28) E.1 E.2.1 dX12_readSteps_28 rfl (lv_at hl18 0 rfl) ?_
            refine lv_bipush (pc := 29) (v := 41) E.1 E.2.1 dX12_readSteps_29 (by decide +kernel) ?_
            refine cm_i (pc := 31) hw287 (rn_M (As := [.int 41]) (rest := []) E hw287 (s_isSignT l D cI cJ _ M mr (upd (upd (upd (upd (upd (upd (upd (upd mi 22 x_6) 23 x_7) 24 x_8) 25 x_9) 35 x_13) 38 x_10) 39 x_11) 48 x_12) (va_up (va_up mf 46 g_14) 47 g_15) mg 41) (gdV q_1718 q_1720 q_65 q_162 q_1721) hdV_X12_isSign ⟨rfl, rfl⟩ ⟨(Nat.le_of_ble_eq_true rfl), (Nat.le_of_ble_eq_true rfl)⟩ ⟨(Nat.le_of_ble_eq_true rfl), (Nat.le_of_ble_eq_true rfl)⟩ 12 rfl rfl rfl rfl hl18.1 rfl (Nat.le_of_ble_eq_true rfl) dX12_readSteps_31) (fun r_352 u_351 H1 locs hp hw353 => ?_)
            generalize H1 = H at hw353 ⊢
            have hw354 : WD D A s.heap (MW cI cJ M mr (upd (upd (upd (upd (upd (upd (upd (upd mi 22 x_6) 23 x_7) 24 x_8) 25 x_9) 35 x_13) 38 x_10) 39 x_11) 48 x_12) (va_up (va_up mf 46 g_14) 47 g_15) mg) H locs := hw353
            have hp_355 := hp
            rcases hp_355 with ⟨rfl, ha_356, ha_357⟩ | ⟨rfl, ha_358⟩ | ⟨rfl, ha_359⟩
            · skip
              have ha_356 : x_8.toInt = 4 := ha_356
              have ha_357 : x_9.toInt = (41 : Int32).toInt := ha_357
              rw [show (41 : Int32).toInt = 41 from by decide +kernel] at ha_357
              refine lv_if_eq (pc := 34) (tgt := 82) E.1 E.2.1 dX12_readSteps_34 (by decide) (fun c_360 => absurd c_360 (mneE (a := 1) (b := 0) (by decide +kernel) (by decide +kernel) (by omega))) (fun _ => ?_)
              exact join_19  _ _ _ ⟨(by unfold RSD; omega), (show AGN x_8.toInt x_9.toInt x_7.toInt x_6.toInt from hi_15_12)⟩ hw354 (lv_sub hl18 [0] rfl)
            · skip
              have ha_358 : ¬ x_8.toInt = 4 := ha_358
              refine lv_if_eq (pc := 34) (tgt := 82) E.1 E.2.1 dX12_readSteps_34 (by decide) (fun _ => ?_) (fun c_361 => absurd (meqE (a := 0) (b := 0) (by decide +kernel) (by decide +kernel) (by omega)) c_361)
              refine lv_aload_n (pc := 82) E.1 E.2.1 dX12_readSteps_82 rfl (lv_at hl18 0 rfl) ?_
              refine x_get (pc := 83) (T := TX12) (N := 70) (ci := 12) (v := .int x_13) E hw354 inX12 0 35 q_1434 rfl rfl (by decide) rfl rfl dX12_readSteps_83 ?_
              refine lv_if_ne (pc := 86) (tgt := 100) E.1 E.2.1 dX12_readSteps_86 (by decide) (fun _ => ?_) (fun c_362 => absurd c_362 (mneE (a := x_13.toInt) (b := 0) rfl (by decide +kernel) (by omega)))
              refine lv_aload_n (pc := 100) E.1 E.2.1 dX12_readSteps_100 rfl (lv_at hl18 0 rfl) ?_
              refine lv_iconst (pc := 101) (v := 1) E.1 E.2.1 dX12_readSteps_101 (by decide +kernel) ?_
              refine cm_i (pc := 102) hw354 (rn_M (As := [.int 1]) (rest := []) E hw354 (s_errsT l D cI cJ _ M mr (upd (upd (upd (upd (upd (upd (upd (upd mi 22 x_6) 23 x_7) 24 x_8) 25 x_9) 35 x_13) 38 x_10) 39 x_11) 48 x_12) (va_up (va_up mf 46 g_14) 47 g_15) mg 1) (gdV q_1698 q_1700 q_60 q_162 q_1701) hdV_X12_errs ⟨rfl, rfl⟩ ⟨(Nat.le_of_ble_eq_true rfl), (Nat.le_of_ble_eq_true rfl)⟩ ⟨(Nat.le_of_ble_eq_true rfl), (Nat.le_of_ble_eq_true rfl)⟩ 12 rfl rfl rfl rfl hl18.1 rfl (Nat.le_of_ble_eq_true rfl) dX12_readSteps_102) (fun r_364 u_363 H1 locs hp hw365 => ?_)
              obtain ⟨nreadFault_366, nreadPlace_367⟩ := u_363
              generalize H1 = H at hw365 ⊢
              have hw368 : WD D A s.heap (MW cI cJ M mr (upd (upd (upd (upd (upd (upd (upd (upd mi 22 x_6) 23 x_7) 24 x_8) 25 x_9) 35 x_13) 38 nreadFault_366) 39 nreadPlace_367) 48 x_12) (va_up (va_up mf 46 g_14) 47 g_15) mg) H locs := hw365
              obtain ⟨hp_369, hp_370, hp_371⟩ := hp
              have hp_369 : nreadFault_366.toInt = (1 : Int32).toInt := hp_369
              rw [show (1 : Int32).toInt = 1 from by decide +kernel] at hp_369
              have hp_370 : nreadPlace_367.toInt = x_7.toInt := hp_370
              rcases hp_371 with rfl
              · skip
                exact em_i (w1 := (fun (u : Int32 × Int32 × Int32 × Int32 × Int32 × Int32 × (Nat → Int32) × (Nat → Int32) × Int32 × Int32) => (MW cI cJ M mr (upd (upd (upd (upd (upd (upd (upd (upd mi 22 u.1) 23 u.2.1) 24 u.2.2.1) 25 u.2.2.2.1) 38 u.2.2.2.2.1) 39 u.2.2.2.2.2.1) 48 u.2.2.2.2.2.2.2.2.1) 35 u.2.2.2.2.2.2.2.2.2) (va_up (va_up mf 46 u.2.2.2.2.2.2.1) 47 u.2.2.2.2.2.2.2.1) mg))) E hr hlk (x_6, x_7, x_8, x_9, nreadFault_366, nreadPlace_367, g_14, g_15, x_12, x_13) hw368 ⟨hi_15_0, hi_15_1, hi_15_2, hi_15_3, hi_15_4, hi_15_5, hi_15_12, (fun h => absurd h (by decide +kernel)), (show (∀ p0 : Int, TKR (mf 20) (mi 21).toInt p0 (mi 23).toInt (mi 22).toInt (mi 24).toInt (mi 25).toInt → SR (mf 20) (mi 21).toInt ((rnG (endR (mf 20) (mi 21).toInt) (itR (mf 20) (mi 21).toInt ((mi 6).toInt - 1)) 401 (0, []) p0).bind (opnG (mf 20) (mi 21).toInt)) (stpL g_14 g_15 ((x_12.toInt).toNat)) ((-1) : Int32).toInt nreadFault_366.toInt nreadPlace_367.toInt x_7.toInt) from (RRL_bad hi_15_11 (by omega) (by omega) (by omega) (by omega) (by omega) (by omega) (by decide +kernel) (by have k1 : (1 : Int32).toInt = 1 := (by decide +kernel); omega) (by omega))), (Or.inl rfl)⟩ (Nat.le_of_ble_eq_true rfl) (Nat.le_of_ble_eq_true rfl) dX12_readSteps_105
            · skip
              have ha_359 : ¬ x_9.toInt = (41 : Int32).toInt := ha_359
              rw [show (41 : Int32).toInt = 41 from by decide +kernel] at ha_359
              refine lv_if_eq (pc := 34) (tgt := 82) E.1 E.2.1 dX12_readSteps_34 (by decide) (fun _ => ?_) (fun c_372 => absurd (meqE (a := 0) (b := 0) (by decide +kernel) (by decide +kernel) (by omega)) c_372)
              refine lv_aload_n (pc := 82) E.1 E.2.1 dX12_readSteps_82 rfl (lv_at hl18 0 rfl) ?_
              refine x_get (pc := 83) (T := TX12) (N := 70) (ci := 12) (v := .int x_13) E hw354 inX12 0 35 q_1434 rfl rfl (by decide) rfl rfl dX12_readSteps_83 ?_
              refine lv_if_ne (pc := 86) (tgt := 100) E.1 E.2.1 dX12_readSteps_86 (by decide) (fun _ => ?_) (fun c_373 => absurd c_373 (mneE (a := x_13.toInt) (b := 0) rfl (by decide +kernel) (by omega)))
              refine lv_aload_n (pc := 100) E.1 E.2.1 dX12_readSteps_100 rfl (lv_at hl18 0 rfl) ?_
              refine lv_iconst (pc := 101) (v := 1) E.1 E.2.1 dX12_readSteps_101 (by decide +kernel) ?_
              refine cm_i (pc := 102) hw354 (rn_M (As := [.int 1]) (rest := []) E hw354 (s_errsT l D cI cJ _ M mr (upd (upd (upd (upd (upd (upd (upd (upd mi 22 x_6) 23 x_7) 24 x_8) 25 x_9) 35 x_13) 38 x_10) 39 x_11) 48 x_12) (va_up (va_up mf 46 g_14) 47 g_15) mg 1) (gdV q_1698 q_1700 q_60 q_162 q_1701) hdV_X12_errs ⟨rfl, rfl⟩ ⟨(Nat.le_of_ble_eq_true rfl), (Nat.le_of_ble_eq_true rfl)⟩ ⟨(Nat.le_of_ble_eq_true rfl), (Nat.le_of_ble_eq_true rfl)⟩ 12 rfl rfl rfl rfl hl18.1 rfl (Nat.le_of_ble_eq_true rfl) dX12_readSteps_102) (fun r_375 u_374 H1 locs hp hw376 => ?_)
              obtain ⟨nreadFault_377, nreadPlace_378⟩ := u_374
              generalize H1 = H at hw376 ⊢
              have hw379 : WD D A s.heap (MW cI cJ M mr (upd (upd (upd (upd (upd (upd (upd (upd mi 22 x_6) 23 x_7) 24 x_8) 25 x_9) 35 x_13) 38 nreadFault_377) 39 nreadPlace_378) 48 x_12) (va_up (va_up mf 46 g_14) 47 g_15) mg) H locs := hw376
              obtain ⟨hp_380, hp_381, hp_382⟩ := hp
              have hp_380 : nreadFault_377.toInt = (1 : Int32).toInt := hp_380
              rw [show (1 : Int32).toInt = 1 from by decide +kernel] at hp_380
              have hp_381 : nreadPlace_378.toInt = x_7.toInt := hp_381
              rcases hp_382 with rfl
              · skip
                exact em_i (w1 := (fun (u : Int32 × Int32 × Int32 × Int32 × Int32 × Int32 × (Nat → Int32) × (Nat → Int32) × Int32 × Int32) => (MW cI cJ M mr (upd (upd (upd (upd (upd (upd (upd (upd mi 22 u.1) 23 u.2.1) 24 u.2.2.1) 25 u.2.2.2.1) 38 u.2.2.2.2.1) 39 u.2.2.2.2.2.1) 48 u.2.2.2.2.2.2.2.2.1) 35 u.2.2.2.2.2.2.2.2.2) (va_up (va_up mf 46 u.2.2.2.2.2.2.1) 47 u.2.2.2.2.2.2.2.1) mg))) E hr hlk (x_6, x_7, x_8, x_9, nreadFault_377, nreadPlace_378, g_14, g_15, x_12, x_13) hw379 ⟨hi_15_0, hi_15_1, hi_15_2, hi_15_3, hi_15_4, hi_15_5, hi_15_12, (fun h => absurd h (by decide +kernel)), (show (∀ p0 : Int, TKR (mf 20) (mi 21).toInt p0 (mi 23).toInt (mi 22).toInt (mi 24).toInt (mi 25).toInt → SR (mf 20) (mi 21).toInt ((rnG (endR (mf 20) (mi 21).toInt) (itR (mf 20) (mi 21).toInt ((mi 6).toInt - 1)) 401 (0, []) p0).bind (opnG (mf 20) (mi 21).toInt)) (stpL g_14 g_15 ((x_12.toInt).toNat)) ((-1) : Int32).toInt nreadFault_377.toInt nreadPlace_378.toInt x_7.toInt) from (RRL_bad hi_15_11 (by omega) (by omega) (by omega) (by omega) (by omega) (by omega) (by decide +kernel) (by have k1 : (1 : Int32).toInt = 1 := (by decide +kernel); omega) (by omega))), (Or.inl rfl)⟩ (Nat.le_of_ble_eq_true rfl) (Nat.le_of_ble_eq_true rfl) dX12_readSteps_105
      · skip
        have ha_279 : ¬ x_9.toInt = 28 := ha_279
        have ha_280 : ¬ x_9.toInt = 29 := ha_280
        refine lv_if_ne (pc := 9) (tgt := 37) E.1 E.2.1 dX12_readSteps_9 (by decide) (fun c_383 => absurd (meqE (a := 0) (b := 0) (by decide +kernel) (by decide +kernel) (by omega)) c_383) (fun _ => ?_)
        refine lv_aload_n (pc := 12) E.1 E.2.1 dX12_readSteps_12 rfl (lv_at hl18 0 rfl) ?_
        refine lv_bipush (pc := 13) (v := 30) E.1 E.2.1 dX12_readSteps_13 (by decide +kernel) ?_
        refine cm_i (pc := 15) hw272 (rn_M (As := [.int 30]) (rest := []) E hw272 (s_isWordT l D cI cJ _ M mr (upd (upd (upd (upd (upd (upd (upd (upd mi 22 x_6) 23 x_7) 24 x_8) 25 x_9) 35 x_13) 38 x_10) 39 x_11) 48 x_12) (va_up (va_up mf 46 g_14) 47 g_15) mg 30) (gdV q_1694 q_1696 q_59 q_162 q_1697) hdV_X12_isWord ⟨rfl, rfl⟩ ⟨(Nat.le_of_ble_eq_true rfl), (Nat.le_of_ble_eq_true rfl)⟩ ⟨(Nat.le_of_ble_eq_true rfl), (Nat.le_of_ble_eq_true rfl)⟩ 12 rfl rfl rfl rfl hl18.1 rfl (Nat.le_of_ble_eq_true rfl) dX12_readSteps_15) (fun r_385 u_384 H1 locs hp hw386 => ?_)
        generalize H1 = H at hw386 ⊢
        have hw387 : WD D A s.heap (MW cI cJ M mr (upd (upd (upd (upd (upd (upd (upd (upd mi 22 x_6) 23 x_7) 24 x_8) 25 x_9) 35 x_13) 38 x_10) 39 x_11) 48 x_12) (va_up (va_up mf 46 g_14) 47 g_15) mg) H locs := hw386
        have hp_388 := hp
        rcases hp_388 with ⟨rfl, ha_389, ha_390⟩ | ⟨rfl, ha_391⟩ | ⟨rfl, ha_392⟩
        · skip
          have ha_389 : x_8.toInt = 2 := ha_389
          have ha_390 : x_9.toInt = (30 : Int32).toInt := ha_390
          rw [show (30 : Int32).toInt = 30 from by decide +kernel] at ha_390
          refine lv_if_ne (pc := 18) (tgt := 37) E.1 E.2.1 dX12_readSteps_18 (by decide) (fun _ => ?_) (fun c_393 => absurd c_393 (mneE (a := 1) (b := 0) (by decide +kernel) (by decide +kernel) (by omega)))
          exact join_19  _ _ _ ⟨(by unfold RSD; omega), (show AGN x_8.toInt x_9.toInt x_7.toInt x_6.toInt from hi_15_12)⟩ hw387 (lv_sub hl18 [0] rfl)
        · skip
          have ha_391 : ¬ x_8.toInt = 2 := ha_391
          refine lv_if_ne (pc := 18) (tgt := 37) E.1 E.2.1 dX12_readSteps_18 (by decide) (fun c_394 => absurd (meqE (a := 0) (b := 0) (by decide +kernel) (by decide +kernel) (by omega)) c_394) (fun _ => ?_)
          refine lv_aload_n (pc := 21) E.1 E.2.1 dX12_readSteps_21 rfl (lv_at hl18 0 rfl) ?_
          refine x_get (pc := 22) (T := TX12) (N := 70) (ci := 12) (v := .int x_13) E hw387 inX12 0 35 q_1434 rfl rfl (by decide) rfl rfl dX12_readSteps_22 ?_
          refine lv_if_le (pc := 25) (tgt := 82) E.1 E.2.1 dX12_readSteps_25 (by decide) (fun c_395 => ?_) (fun c_395 => ?_)
          · skip
            have hc_395 := leE (a := x_13.toInt) (b := 0) rfl (by decide +kernel) c_395
            refine lv_aload_n (pc := 82) E.1 E.2.1 dX12_readSteps_82 rfl (lv_at hl18 0 rfl) ?_
            refine x_get (pc := 83) (T := TX12) (N := 70) (ci := 12) (v := .int x_13) E hw387 inX12 0 35 q_1434 rfl rfl (by decide) rfl rfl dX12_readSteps_83 ?_
            refine lv_if_ne (pc := 86) (tgt := 100) E.1 E.2.1 dX12_readSteps_86 (by decide) (fun c_396 => absurd (meqE (a := x_13.toInt) (b := 0) rfl (by decide +kernel) (by omega)) c_396) (fun _ => ?_)
            refine lv_aload_n (pc := 89) E.1 E.2.1 dX12_readSteps_89 rfl (lv_at hl18 0 rfl) ?_
            refine x_get (pc := 90) (T := TX12) (N := 70) (ci := 12) (v := .int x_8) E hw387 inX12 0 24 q_1423 rfl rfl (by decide) rfl rfl dX12_readSteps_90 ?_
            refine lv_if_ne (pc := 93) (tgt := 100) E.1 E.2.1 dX12_readSteps_93 (by decide) (fun c_397 => ?_) (fun c_397 => ?_)
            · skip
              have hc_397 := neE (a := x_8.toInt) (b := 0) rfl (by decide +kernel) c_397
              refine lv_aload_n (pc := 100) E.1 E.2.1 dX12_readSteps_100 rfl (lv_at hl18 0 rfl) ?_
              refine lv_iconst (pc := 101) (v := 1) E.1 E.2.1 dX12_readSteps_101 (by decide +kernel) ?_
              refine cm_i (pc := 102) hw387 (rn_M (As := [.int 1]) (rest := []) E hw387 (s_errsT l D cI cJ _ M mr (upd (upd (upd (upd (upd (upd (upd (upd mi 22 x_6) 23 x_7) 24 x_8) 25 x_9) 35 x_13) 38 x_10) 39 x_11) 48 x_12) (va_up (va_up mf 46 g_14) 47 g_15) mg 1) (gdV q_1698 q_1700 q_60 q_162 q_1701) hdV_X12_errs ⟨rfl, rfl⟩ ⟨(Nat.le_of_ble_eq_true rfl), (Nat.le_of_ble_eq_true rfl)⟩ ⟨(Nat.le_of_ble_eq_true rfl), (Nat.le_of_ble_eq_true rfl)⟩ 12 rfl rfl rfl rfl hl18.1 rfl (Nat.le_of_ble_eq_true rfl) dX12_readSteps_102) (fun r_399 u_398 H1 locs hp hw400 => ?_)
              obtain ⟨nreadFault_401, nreadPlace_402⟩ := u_398
              generalize H1 = H at hw400 ⊢
              have hw403 : WD D A s.heap (MW cI cJ M mr (upd (upd (upd (upd (upd (upd (upd (upd mi 22 x_6) 23 x_7) 24 x_8) 25 x_9) 35 x_13) 38 nreadFault_401) 39 nreadPlace_402) 48 x_12) (va_up (va_up mf 46 g_14) 47 g_15) mg) H locs := hw400
              obtain ⟨hp_404, hp_405, hp_406⟩ := hp
              have hp_404 : nreadFault_401.toInt = (1 : Int32).toInt := hp_404
              rw [show (1 : Int32).toInt = 1 from by decide +kernel] at hp_404
              have hp_405 : nreadPlace_402.toInt = x_7.toInt := hp_405
              rcases hp_406 with rfl
              · skip
                exact em_i (w1 := (fun (u : Int32 × Int32 × Int32 × Int32 × Int32 × Int32 × (Nat → Int32) × (Nat → Int32) × Int32 × Int32) => (MW cI cJ M mr (upd (upd (upd (upd (upd (upd (upd (upd mi 22 u.1) 23 u.2.1) 24 u.2.2.1) 25 u.2.2.2.1) 38 u.2.2.2.2.1) 39 u.2.2.2.2.2.1) 48 u.2.2.2.2.2.2.2.2.1) 35 u.2.2.2.2.2.2.2.2.2) (va_up (va_up mf 46 u.2.2.2.2.2.2.1) 47 u.2.2.2.2.2.2.2.1) mg))) E hr hlk (x_6, x_7, x_8, x_9, nreadFault_401, nreadPlace_402, g_14, g_15, x_12, x_13) hw403 ⟨hi_15_0, hi_15_1, hi_15_2, hi_15_3, hi_15_4, hi_15_5, hi_15_12, (fun h => absurd h (by decide +kernel)), (show (∀ p0 : Int, TKR (mf 20) (mi 21).toInt p0 (mi 23).toInt (mi 22).toInt (mi 24).toInt (mi 25).toInt → SR (mf 20) (mi 21).toInt ((rnG (endR (mf 20) (mi 21).toInt) (itR (mf 20) (mi 21).toInt ((mi 6).toInt - 1)) 401 (0, []) p0).bind (opnG (mf 20) (mi 21).toInt)) (stpL g_14 g_15 ((x_12.toInt).toNat)) ((-1) : Int32).toInt nreadFault_401.toInt nreadPlace_402.toInt x_7.toInt) from (RRL_bad hi_15_11 (by omega) (by omega) (by omega) (by omega) (by omega) (by omega) (by decide +kernel) (by have k1 : (1 : Int32).toInt = 1 := (by decide +kernel); omega) (by omega))), (Or.inl rfl)⟩ (Nat.le_of_ble_eq_true rfl) (Nat.le_of_ble_eq_true rfl) dX12_readSteps_105
            · skip
              have hc_397 := eqE (a := x_8.toInt) (b := 0) rfl (by decide +kernel) c_397
              refine lv_iconst (pc := 96) (v := 0) E.1 E.2.1 dX12_readSteps_96 (by decide +kernel) ?_
              refine lv_goto (pc := 97) (tgt := 105) E.1 E.2.1 dX12_readSteps_97 (by decide) ?_
              exact em_i (w1 := (fun (u : Int32 × Int32 × Int32 × Int32 × Int32 × Int32 × (Nat → Int32) × (Nat → Int32) × Int32 × Int32) => (MW cI cJ M mr (upd (upd (upd (upd (upd (upd (upd (upd mi 22 u.1) 23 u.2.1) 24 u.2.2.1) 25 u.2.2.2.1) 38 u.2.2.2.2.1) 39 u.2.2.2.2.2.1) 48 u.2.2.2.2.2.2.2.2.1) 35 u.2.2.2.2.2.2.2.2.2) (va_up (va_up mf 46 u.2.2.2.2.2.2.1) 47 u.2.2.2.2.2.2.2.1) mg))) E hr hlk (x_6, x_7, x_8, x_9, x_10, x_11, g_14, g_15, x_12, x_13) hw387 ⟨hi_15_0, hi_15_1, hi_15_2, hi_15_3, hi_15_4, hi_15_5, hi_15_12, (fun _ => (show (∃ t : Nat, t = 0 ∧ RSP g_14 g_15 (mi 6).toInt ((x_12.toInt).toNat) t) from ⟨_, by omega, hi_15_10⟩)), (show (∀ p0 : Int, TKR (mf 20) (mi 21).toInt p0 (mi 23).toInt (mi 22).toInt (mi 24).toInt (mi 25).toInt → SR (mf 20) (mi 21).toInt ((rnG (endR (mf 20) (mi 21).toInt) (itR (mf 20) (mi 21).toInt ((mi 6).toInt - 1)) 401 (0, []) p0).bind (opnG (mf 20) (mi 21).toInt)) (stpL g_14 g_15 ((x_12.toInt).toNat)) (0 : Int32).toInt x_10.toInt x_11.toInt x_7.toInt) from (RRL_end hi_15_11 (by omega) (by omega) (by omega) (show (0 : Int32).toInt ≠ -1 from by decide +kernel))), (Or.inr (⟨rfl, hi_15_6, (by show x_12.toInt ≤ 140; omega)⟩))⟩ (Nat.le_of_ble_eq_true rfl) (Nat.le_of_ble_eq_true rfl) dX12_readSteps_105
          · skip
            have hc_395 := nleE (a := x_13.toInt) (b := 0) rfl (by decide +kernel) c_395
            refine lv_aload_n (pc := 28) E.1 E.2.1 dX12_readSteps_28 rfl (lv_at hl18 0 rfl) ?_
            refine lv_bipush (pc := 29) (v := 41) E.1 E.2.1 dX12_readSteps_29 (by decide +kernel) ?_
            refine cm_i (pc := 31) hw387 (rn_M (As := [.int 41]) (rest := []) E hw387 (s_isSignT l D cI cJ _ M mr (upd (upd (upd (upd (upd (upd (upd (upd mi 22 x_6) 23 x_7) 24 x_8) 25 x_9) 35 x_13) 38 x_10) 39 x_11) 48 x_12) (va_up (va_up mf 46 g_14) 47 g_15) mg 41) (gdV q_1718 q_1720 q_65 q_162 q_1721) hdV_X12_isSign ⟨rfl, rfl⟩ ⟨(Nat.le_of_ble_eq_true rfl), (Nat.le_of_ble_eq_true rfl)⟩ ⟨(Nat.le_of_ble_eq_true rfl), (Nat.le_of_ble_eq_true rfl)⟩ 12 rfl rfl rfl rfl hl18.1 rfl (Nat.le_of_ble_eq_true rfl) dX12_readSteps_31) (fun r_408 u_407 H1 locs hp hw409 => ?_)
            generalize H1 = H at hw409 ⊢
            have hw410 : WD D A s.heap (MW cI cJ M mr (upd (upd (upd (upd (upd (upd (upd (upd mi 22 x_6) 23 x_7) 24 x_8) 25 x_9) 35 x_13) 38 x_10) 39 x_11) 48 x_12) (va_up (va_up mf 46 g_14) 47 g_15) mg) H locs := hw409
            have hp_411 := hp
            rcases hp_411 with ⟨rfl, ha_412, ha_413⟩ | ⟨rfl, ha_414⟩ | ⟨rfl, ha_415⟩
            · skip
              have ha_412 : x_8.toInt = 4 := ha_412
              have ha_413 : x_9.toInt = (41 : Int32).toInt := ha_413
              rw [show (41 : Int32).toInt = 41 from by decide +kernel] at ha_413
              refine lv_if_eq (pc := 34) (tgt := 82) E.1 E.2.1 dX12_readSteps_34 (by decide) (fun c_416 => absurd c_416 (mneE (a := 1) (b := 0) (by decide +kernel) (by decide +kernel) (by omega))) (fun _ => ?_)
              exact join_19  _ _ _ ⟨(by unfold RSD; omega), (show AGN x_8.toInt x_9.toInt x_7.toInt x_6.toInt from hi_15_12)⟩ hw410 (lv_sub hl18 [0] rfl)
            · skip
              have ha_414 : ¬ x_8.toInt = 4 := ha_414
              refine lv_if_eq (pc := 34) (tgt := 82) E.1 E.2.1 dX12_readSteps_34 (by decide) (fun _ => ?_) (fun c_417 => absurd (meqE (a := 0) (b := 0) (by decide +kernel) (by decide +kernel) (by omega)) c_417)
              refine lv_aload_n (pc := 82) E.1 E.2.1 dX12_readSteps_82 rfl (lv_at hl18 0 rfl) ?_
              refine x_get (pc := 83) (T := TX12) (N := 70) (ci := 12) (v := .int x_13) E hw410 inX12 0 35 q_1434 rfl rfl (by decide) rfl rfl dX12_readSteps_83 ?_
              refine lv_if_ne (pc := 86) (tgt := 100) E.1 E.2.1 dX12_readSteps_86 (by decide) (fun _ => ?_) (fun c_418 => absurd c_418 (mneE (a := x_13.toInt) (b := 0) rfl (by decide +kernel) (by omega)))
              refine lv_aload_n (pc := 100) E.1 E.2.1 dX12_readSteps_100 rfl (lv_at hl18 0 rfl) ?_
              refine lv_iconst (pc := 101) (v := 1) E.1 E.2.1 dX12_readSteps_101 (by decide +kernel) ?_
              refine cm_i (pc := 102) hw410 (rn_M (As := [.int 1]) (rest := []) E hw410 (s_errsT l D cI cJ _ M mr (upd (upd (upd (upd (upd (upd (upd (upd mi 22 x_6) 23 x_7) 24 x_8) 25 x_9) 35 x_13) 38 x_10) 39 x_11) 48 x_12) (va_up (va_up mf 46 g_14) 47 g_15) mg 1) (gdV q_1698 q_1700 q_60 q_162 q_1701) hdV_X12_errs ⟨rfl, rfl⟩ ⟨(Nat.le_of_ble_eq_true rfl), (Nat.le_of_ble_eq_true rfl)⟩ ⟨(Nat.le_of_ble_eq_true rfl), (Nat.le_of_ble_eq_true rfl)⟩ 12 rfl rfl rfl rfl hl18.1 rfl (Nat.le_of_ble_eq_true rfl) dX12_readSteps_102) (fun r_420 u_419 H1 locs hp hw421 => ?_)
              obtain ⟨nreadFault_422, nreadPlace_423⟩ := u_419
              generalize H1 = H at hw421 ⊢
              have hw424 : WD D A s.heap (MW cI cJ M mr (upd (upd (upd (upd (upd (upd (upd (upd mi 22 x_6) 23 x_7) 24 x_8) 25 x_9) 35 x_13) 38 nreadFault_422) 39 nreadPlace_423) 48 x_12) (va_up (va_up mf 46 g_14) 47 g_15) mg) H locs := hw421
              obtain ⟨hp_425, hp_426, hp_427⟩ := hp
              have hp_425 : nreadFault_422.toInt = (1 : Int32).toInt := hp_425
              rw [show (1 : Int32).toInt = 1 from by decide +kernel] at hp_425
              have hp_426 : nreadPlace_423.toInt = x_7.toInt := hp_426
              rcases hp_427 with rfl
              · skip
                exact em_i (w1 := (fun (u : Int32 × Int32 × Int32 × Int32 × Int32 × Int32 × (Nat → Int32) × (Nat → Int32) × Int32 × Int32) => (MW cI cJ M mr (upd (upd (upd (upd (upd (upd (upd (upd mi 22 u.1) 23 u.2.1) 24 u.2.2.1) 25 u.2.2.2.1) 38 u.2.2.2.2.1) 39 u.2.2.2.2.2.1) 48 u.2.2.2.2.2.2.2.2.1) 35 u.2.2.2.2.2.2.2.2.2) (va_up (va_up mf 46 u.2.2.2.2.2.2.1) 47 u.2.2.2.2.2.2.2.1) mg))) E hr hlk (x_6, x_7, x_8, x_9, nreadFault_422, nreadPlace_423, g_14, g_15, x_12, x_13) hw424 ⟨hi_15_0, hi_15_1, hi_15_2, hi_15_3, hi_15_4, hi_15_5, hi_15_12, (fun h => absurd h (by decide +kernel)), (show (∀ p0 : Int, TKR (mf 20) (mi 21).toInt p0 (mi 23).toInt (mi 22).toInt (mi 24).toInt (mi 25).toInt → SR (mf 20) (mi 21).toInt ((rnG (endR (mf 20) (mi 21).toInt) (itR (mf 20) (mi 21).toInt ((mi 6).toInt - 1)) 401 (0, []) p0).bind (opnG (mf 20) (mi 21).toInt)) (stpL g_14 g_15 ((x_12.toInt).toNat)) ((-1) : Int32).toInt nreadFault_422.toInt nreadPlace_423.toInt x_7.toInt) from (RRL_bad hi_15_11 (by omega) (by omega) (by omega) (by omega) (by omega) (by omega) (by decide +kernel) (by have k1 : (1 : Int32).toInt = 1 := (by decide +kernel); omega) (by omega))), (Or.inl rfl)⟩ (Nat.le_of_ble_eq_true rfl) (Nat.le_of_ble_eq_true rfl) dX12_readSteps_105
            · skip
              have ha_415 : ¬ x_9.toInt = (41 : Int32).toInt := ha_415
              rw [show (41 : Int32).toInt = 41 from by decide +kernel] at ha_415
              refine lv_if_eq (pc := 34) (tgt := 82) E.1 E.2.1 dX12_readSteps_34 (by decide) (fun _ => ?_) (fun c_428 => absurd (meqE (a := 0) (b := 0) (by decide +kernel) (by decide +kernel) (by omega)) c_428)
              refine lv_aload_n (pc := 82) E.1 E.2.1 dX12_readSteps_82 rfl (lv_at hl18 0 rfl) ?_
              refine x_get (pc := 83) (T := TX12) (N := 70) (ci := 12) (v := .int x_13) E hw410 inX12 0 35 q_1434 rfl rfl (by decide) rfl rfl dX12_readSteps_83 ?_
              refine lv_if_ne (pc := 86) (tgt := 100) E.1 E.2.1 dX12_readSteps_86 (by decide) (fun _ => ?_) (fun c_429 => absurd c_429 (mneE (a := x_13.toInt) (b := 0) rfl (by decide +kernel) (by omega)))
              refine lv_aload_n (pc := 100) E.1 E.2.1 dX12_readSteps_100 rfl (lv_at hl18 0 rfl) ?_
              refine lv_iconst (pc := 101) (v := 1) E.1 E.2.1 dX12_readSteps_101 (by decide +kernel) ?_
              refine cm_i (pc := 102) hw410 (rn_M (As := [.int 1]) (rest := []) E hw410 (s_errsT l D cI cJ _ M mr (upd (upd (upd (upd (upd (upd (upd (upd mi 22 x_6) 23 x_7) 24 x_8) 25 x_9) 35 x_13) 38 x_10) 39 x_11) 48 x_12) (va_up (va_up mf 46 g_14) 47 g_15) mg 1) (gdV q_1698 q_1700 q_60 q_162 q_1701) hdV_X12_errs ⟨rfl, rfl⟩ ⟨(Nat.le_of_ble_eq_true rfl), (Nat.le_of_ble_eq_true rfl)⟩ ⟨(Nat.le_of_ble_eq_true rfl), (Nat.le_of_ble_eq_true rfl)⟩ 12 rfl rfl rfl rfl hl18.1 rfl (Nat.le_of_ble_eq_true rfl) dX12_readSteps_102) (fun r_431 u_430 H1 locs hp hw432 => ?_)
              obtain ⟨nreadFault_433, nreadPlace_434⟩ := u_430
              generalize H1 = H at hw432 ⊢
              have hw435 : WD D A s.heap (MW cI cJ M mr (upd (upd (upd (upd (upd (upd (upd (upd mi 22 x_6) 23 x_7) 24 x_8) 25 x_9) 35 x_13) 38 nreadFault_433) 39 nreadPlace_434) 48 x_12) (va_up (va_up mf 46 g_14) 47 g_15) mg) H locs := hw432
              obtain ⟨hp_436, hp_437, hp_438⟩ := hp
              have hp_436 : nreadFault_433.toInt = (1 : Int32).toInt := hp_436
              rw [show (1 : Int32).toInt = 1 from by decide +kernel] at hp_436
              have hp_437 : nreadPlace_434.toInt = x_7.toInt := hp_437
              rcases hp_438 with rfl
              · skip
                exact em_i (w1 := (fun (u : Int32 × Int32 × Int32 × Int32 × Int32 × Int32 × (Nat → Int32) × (Nat → Int32) × Int32 × Int32) => (MW cI cJ M mr (upd (upd (upd (upd (upd (upd (upd (upd mi 22 u.1) 23 u.2.1) 24 u.2.2.1) 25 u.2.2.2.1) 38 u.2.2.2.2.1) 39 u.2.2.2.2.2.1) 48 u.2.2.2.2.2.2.2.2.1) 35 u.2.2.2.2.2.2.2.2.2) (va_up (va_up mf 46 u.2.2.2.2.2.2.1) 47 u.2.2.2.2.2.2.2.1) mg))) E hr hlk (x_6, x_7, x_8, x_9, nreadFault_433, nreadPlace_434, g_14, g_15, x_12, x_13) hw435 ⟨hi_15_0, hi_15_1, hi_15_2, hi_15_3, hi_15_4, hi_15_5, hi_15_12, (fun h => absurd h (by decide +kernel)), (show (∀ p0 : Int, TKR (mf 20) (mi 21).toInt p0 (mi 23).toInt (mi 22).toInt (mi 24).toInt (mi 25).toInt → SR (mf 20) (mi 21).toInt ((rnG (endR (mf 20) (mi 21).toInt) (itR (mf 20) (mi 21).toInt ((mi 6).toInt - 1)) 401 (0, []) p0).bind (opnG (mf 20) (mi 21).toInt)) (stpL g_14 g_15 ((x_12.toInt).toNat)) ((-1) : Int32).toInt nreadFault_433.toInt nreadPlace_434.toInt x_7.toInt) from (RRL_bad hi_15_11 (by omega) (by omega) (by omega) (by omega) (by omega) (by omega) (by decide +kernel) (by have k1 : (1 : Int32).toInt = 1 := (by decide +kernel); omega) (by omega))), (Or.inl rfl)⟩ (Nat.le_of_ble_eq_true rfl) (Nat.le_of_ble_eq_true rfl) dX12_readSteps_105
        · skip
          have ha_392 : ¬ x_9.toInt = (30 : Int32).toInt := ha_392
          rw [show (30 : Int32).toInt = 30 from by decide +kernel] at ha_392
          refine lv_if_ne (pc := 18) (tgt := 37) E.1 E.2.1 dX12_readSteps_18 (by decide) (fun c_439 => absurd (meqE (a := 0) (b := 0) (by decide +kernel) (by decide +kernel) (by omega)) c_439) (fun _ => ?_)
          refine lv_aload_n (pc := 21) E.1 E.2.1 dX12_readSteps_21 rfl (lv_at hl18 0 rfl) ?_
          refine x_get (pc := 22) (T := TX12) (N := 70) (ci := 12) (v := .int x_13) E hw387 inX12 0 35 q_1434 rfl rfl (by decide) rfl rfl dX12_readSteps_22 ?_
          refine lv_if_le (pc := 25) (tgt := 82) E.1 E.2.1 dX12_readSteps_25 (by decide) (fun c_440 => ?_) (fun c_440 => ?_)
          · skip
            have hc_440 := leE (a := x_13.toInt) (b := 0) rfl (by decide +kernel) c_440
            refine lv_aload_n (pc := 82) E.1 E.2.1 dX12_readSteps_82 rfl (lv_at hl18 0 rfl) ?_
            refine x_get (pc := 83) (T := TX12) (N := 70) (ci := 12) (v := .int x_13) E hw387 inX12 0 35 q_1434 rfl rfl (by decide) rfl rfl dX12_readSteps_83 ?_
            refine lv_if_ne (pc := 86) (tgt := 100) E.1 E.2.1 dX12_readSteps_86 (by decide) (fun c_441 => absurd (meqE (a := x_13.toInt) (b := 0) rfl (by decide +kernel) (by omega)) c_441) (fun _ => ?_)
            refine lv_aload_n (pc := 89) E.1 E.2.1 dX12_readSteps_89 rfl (lv_at hl18 0 rfl) ?_
            refine x_get (pc := 90) (T := TX12) (N := 70) (ci := 12) (v := .int x_8) E hw387 inX12 0 24 q_1423 rfl rfl (by decide) rfl rfl dX12_readSteps_90 ?_
            refine lv_if_ne (pc := 93) (tgt := 100) E.1 E.2.1 dX12_readSteps_93 (by decide) (fun c_442 => ?_) (fun c_442 => ?_)
            · skip
              have hc_442 := neE (a := x_8.toInt) (b := 0) rfl (by decide +kernel) c_442
              refine lv_aload_n (pc := 100) E.1 E.2.1 dX12_readSteps_100 rfl (lv_at hl18 0 rfl) ?_
              refine lv_iconst (pc := 101) (v := 1) E.1 E.2.1 dX12_readSteps_101 (by decide +kernel) ?_
              refine cm_i (pc := 102) hw387 (rn_M (As := [.int 1]) (rest := []) E hw387 (s_errsT l D cI cJ _ M mr (upd (upd (upd (upd (upd (upd (upd (upd mi 22 x_6) 23 x_7) 24 x_8) 25 x_9) 35 x_13) 38 x_10) 39 x_11) 48 x_12) (va_up (va_up mf 46 g_14) 47 g_15) mg 1) (gdV q_1698 q_1700 q_60 q_162 q_1701) hdV_X12_errs ⟨rfl, rfl⟩ ⟨(Nat.le_of_ble_eq_true rfl), (Nat.le_of_ble_eq_true rfl)⟩ ⟨(Nat.le_of_ble_eq_true rfl), (Nat.le_of_ble_eq_true rfl)⟩ 12 rfl rfl rfl rfl hl18.1 rfl (Nat.le_of_ble_eq_true rfl) dX12_readSteps_102) (fun r_444 u_443 H1 locs hp hw445 => ?_)
              obtain ⟨nreadFault_446, nreadPlace_447⟩ := u_443
              generalize H1 = H at hw445 ⊢
              have hw448 : WD D A s.heap (MW cI cJ M mr (upd (upd (upd (upd (upd (upd (upd (upd mi 22 x_6) 23 x_7) 24 x_8) 25 x_9) 35 x_13) 38 nreadFault_446) 39 nreadPlace_447) 48 x_12) (va_up (va_up mf 46 g_14) 47 g_15) mg) H locs := hw445
              obtain ⟨hp_449, hp_450, hp_451⟩ := hp
              have hp_449 : nreadFault_446.toInt = (1 : Int32).toInt := hp_449
              rw [show (1 : Int32).toInt = 1 from by decide +kernel] at hp_449
              have hp_450 : nreadPlace_447.toInt = x_7.toInt := hp_450
              rcases hp_451 with rfl
              · skip
                exact em_i (w1 := (fun (u : Int32 × Int32 × Int32 × Int32 × Int32 × Int32 × (Nat → Int32) × (Nat → Int32) × Int32 × Int32) => (MW cI cJ M mr (upd (upd (upd (upd (upd (upd (upd (upd mi 22 u.1) 23 u.2.1) 24 u.2.2.1) 25 u.2.2.2.1) 38 u.2.2.2.2.1) 39 u.2.2.2.2.2.1) 48 u.2.2.2.2.2.2.2.2.1) 35 u.2.2.2.2.2.2.2.2.2) (va_up (va_up mf 46 u.2.2.2.2.2.2.1) 47 u.2.2.2.2.2.2.2.1) mg))) E hr hlk (x_6, x_7, x_8, x_9, nreadFault_446, nreadPlace_447, g_14, g_15, x_12, x_13) hw448 ⟨hi_15_0, hi_15_1, hi_15_2, hi_15_3, hi_15_4, hi_15_5, hi_15_12, (fun h => absurd h (by decide +kernel)), (show (∀ p0 : Int, TKR (mf 20) (mi 21).toInt p0 (mi 23).toInt (mi 22).toInt (mi 24).toInt (mi 25).toInt → SR (mf 20) (mi 21).toInt ((rnG (endR (mf 20) (mi 21).toInt) (itR (mf 20) (mi 21).toInt ((mi 6).toInt - 1)) 401 (0, []) p0).bind (opnG (mf 20) (mi 21).toInt)) (stpL g_14 g_15 ((x_12.toInt).toNat)) ((-1) : Int32).toInt nreadFault_446.toInt nreadPlace_447.toInt x_7.toInt) from (RRL_bad hi_15_11 (by omega) (by omega) (by omega) (by omega) (by omega) (by omega) (by decide +kernel) (by have k1 : (1 : Int32).toInt = 1 := (by decide +kernel); omega) (by omega))), (Or.inl rfl)⟩ (Nat.le_of_ble_eq_true rfl) (Nat.le_of_ble_eq_true rfl) dX12_readSteps_105
            · skip
              have hc_442 := eqE (a := x_8.toInt) (b := 0) rfl (by decide +kernel) c_442
              refine lv_iconst (pc := 96) (v := 0) E.1 E.2.1 dX12_readSteps_96 (by decide +kernel) ?_
              refine lv_goto (pc := 97) (tgt := 105) E.1 E.2.1 dX12_readSteps_97 (by decide) ?_
              exact em_i (w1 := (fun (u : Int32 × Int32 × Int32 × Int32 × Int32 × Int32 × (Nat → Int32) × (Nat → Int32) × Int32 × Int32) => (MW cI cJ M mr (upd (upd (upd (upd (upd (upd (upd (upd mi 22 u.1) 23 u.2.1) 24 u.2.2.1) 25 u.2.2.2.1) 38 u.2.2.2.2.1) 39 u.2.2.2.2.2.1) 48 u.2.2.2.2.2.2.2.2.1) 35 u.2.2.2.2.2.2.2.2.2) (va_up (va_up mf 46 u.2.2.2.2.2.2.1) 47 u.2.2.2.2.2.2.2.1) mg))) E hr hlk (x_6, x_7, x_8, x_9, x_10, x_11, g_14, g_15, x_12, x_13) hw387 ⟨hi_15_0, hi_15_1, hi_15_2, hi_15_3, hi_15_4, hi_15_5, hi_15_12, (fun _ => (show (∃ t : Nat, t = 0 ∧ RSP g_14 g_15 (mi 6).toInt ((x_12.toInt).toNat) t) from ⟨_, by omega, hi_15_10⟩)), (show (∀ p0 : Int, TKR (mf 20) (mi 21).toInt p0 (mi 23).toInt (mi 22).toInt (mi 24).toInt (mi 25).toInt → SR (mf 20) (mi 21).toInt ((rnG (endR (mf 20) (mi 21).toInt) (itR (mf 20) (mi 21).toInt ((mi 6).toInt - 1)) 401 (0, []) p0).bind (opnG (mf 20) (mi 21).toInt)) (stpL g_14 g_15 ((x_12.toInt).toNat)) (0 : Int32).toInt x_10.toInt x_11.toInt x_7.toInt) from (RRL_end hi_15_11 (by omega) (by omega) (by omega) (show (0 : Int32).toInt ≠ -1 from by decide +kernel))), (Or.inr (⟨rfl, hi_15_6, (by show x_12.toInt ≤ 140; omega)⟩))⟩ (Nat.le_of_ble_eq_true rfl) (Nat.le_of_ble_eq_true rfl) dX12_readSteps_105
          · skip
            have hc_440 := nleE (a := x_13.toInt) (b := 0) rfl (by decide +kernel) c_440
            refine lv_aload_n (pc := 28) E.1 E.2.1 dX12_readSteps_28 rfl (lv_at hl18 0 rfl) ?_
            refine lv_bipush (pc := 29) (v := 41) E.1 E.2.1 dX12_readSteps_29 (by decide +kernel) ?_
            refine cm_i (pc := 31) hw387 (rn_M (As := [.int 41]) (rest := []) E hw387 (s_isSignT l D cI cJ _ M mr (upd (upd (upd (upd (upd (upd (upd (upd mi 22 x_6) 23 x_7) 24 x_8) 25 x_9) 35 x_13) 38 x_10) 39 x_11) 48 x_12) (va_up (va_up mf 46 g_14) 47 g_15) mg 41) (gdV q_1718 q_1720 q_65 q_162 q_1721) hdV_X12_isSign ⟨rfl, rfl⟩ ⟨(Nat.le_of_ble_eq_true rfl), (Nat.le_of_ble_eq_true rfl)⟩ ⟨(Nat.le_of_ble_eq_true rfl), (Nat.le_of_ble_eq_true rfl)⟩ 12 rfl rfl rfl rfl hl18.1 rfl (Nat.le_of_ble_eq_true rfl) dX12_readSteps_31) (fun r_453 u_452 H1 locs hp hw454 => ?_)
            generalize H1 = H at hw454 ⊢
            have hw455 : WD D A s.heap (MW cI cJ M mr (upd (upd (upd (upd (upd (upd (upd (upd mi 22 x_6) 23 x_7) 24 x_8) 25 x_9) 35 x_13) 38 x_10) 39 x_11) 48 x_12) (va_up (va_up mf 46 g_14) 47 g_15) mg) H locs := hw454
            have hp_456 := hp
            rcases hp_456 with ⟨rfl, ha_457, ha_458⟩ | ⟨rfl, ha_459⟩ | ⟨rfl, ha_460⟩
            · skip
              have ha_457 : x_8.toInt = 4 := ha_457
              have ha_458 : x_9.toInt = (41 : Int32).toInt := ha_458
              rw [show (41 : Int32).toInt = 41 from by decide +kernel] at ha_458
              refine lv_if_eq (pc := 34) (tgt := 82) E.1 E.2.1 dX12_readSteps_34 (by decide) (fun c_461 => absurd c_461 (mneE (a := 1) (b := 0) (by decide +kernel) (by decide +kernel) (by omega))) (fun _ => ?_)
              exact join_19  _ _ _ ⟨(by unfold RSD; omega), (show AGN x_8.toInt x_9.toInt x_7.toInt x_6.toInt from hi_15_12)⟩ hw455 (lv_sub hl18 [0] rfl)
            · skip
              have ha_459 : ¬ x_8.toInt = 4 := ha_459
              refine lv_if_eq (pc := 34) (tgt := 82) E.1 E.2.1 dX12_readSteps_34 (by decide) (fun _ => ?_) (fun c_462 => absurd (meqE (a := 0) (b := 0) (by decide +kernel) (by decide +kernel) (by omega)) c_462)
              refine lv_aload_n (pc := 82) E.1 E.2.1 dX12_readSteps_82 rfl (lv_at hl18 0 rfl) ?_
              refine x_get (pc := 83) (T := TX12) (N := 70) (ci := 12) (v := .int x_13) E hw455 inX12 0 35 q_1434 rfl rfl (by decide) rfl rfl dX12_readSteps_83 ?_
              refine lv_if_ne (pc := 86) (tgt := 100) E.1 E.2.1 dX12_readSteps_86 (by decide) (fun _ => ?_) (fun c_463 => absurd c_463 (mneE (a := x_13.toInt) (b := 0) rfl (by decide +kernel) (by omega)))
              refine lv_aload_n (pc := 100) E.1 E.2.1 dX12_readSteps_100 rfl (lv_at hl18 0 rfl) ?_
              refine lv_iconst (pc := 101) (v := 1) E.1 E.2.1 dX12_readSteps_101 (by decide +kernel) ?_
              refine cm_i (pc := 102) hw455 (rn_M (As := [.int 1]) (rest := []) E hw455 (s_errsT l D cI cJ _ M mr (upd (upd (upd (upd (upd (upd (upd (upd mi 22 x_6) 23 x_7) 24 x_8) 25 x_9) 35 x_13) 38 x_10) 39 x_11) 48 x_12) (va_up (va_up mf 46 g_14) 47 g_15) mg 1) (gdV q_1698 q_1700 q_60 q_162 q_1701) hdV_X12_errs ⟨rfl, rfl⟩ ⟨(Nat.le_of_ble_eq_true rfl), (Nat.le_of_ble_eq_true rfl)⟩ ⟨(Nat.le_of_ble_eq_true rfl), (Nat.le_of_ble_eq_true rfl)⟩ 12 rfl rfl rfl rfl hl18.1 rfl (Nat.le_of_ble_eq_true rfl) dX12_readSteps_102) (fun r_465 u_464 H1 locs hp hw466 => ?_)
              obtain ⟨nreadFault_467, nreadPlace_468⟩ := u_464
              generalize H1 = H at hw466 ⊢
              have hw469 : WD D A s.heap (MW cI cJ M mr (upd (upd (upd (upd (upd (upd (upd (upd mi 22 x_6) 23 x_7) 24 x_8) 25 x_9) 35 x_13) 38 nreadFault_467) 39 nreadPlace_468) 48 x_12) (va_up (va_up mf 46 g_14) 47 g_15) mg) H locs := hw466
              obtain ⟨hp_470, hp_471, hp_472⟩ := hp
              have hp_470 : nreadFault_467.toInt = (1 : Int32).toInt := hp_470
              rw [show (1 : Int32).toInt = 1 from by decide +kernel] at hp_470
              have hp_471 : nreadPlace_468.toInt = x_7.toInt := hp_471
              rcases hp_472 with rfl
              · skip
                exact em_i (w1 := (fun (u : Int32 × Int32 × Int32 × Int32 × Int32 × Int32 × (Nat → Int32) × (Nat → Int32) × Int32 × Int32) => (MW cI cJ M mr (upd (upd (upd (upd (upd (upd (upd (upd mi 22 u.1) 23 u.2.1) 24 u.2.2.1) 25 u.2.2.2.1) 38 u.2.2.2.2.1) 39 u.2.2.2.2.2.1) 48 u.2.2.2.2.2.2.2.2.1) 35 u.2.2.2.2.2.2.2.2.2) (va_up (va_up mf 46 u.2.2.2.2.2.2.1) 47 u.2.2.2.2.2.2.2.1) mg))) E hr hlk (x_6, x_7, x_8, x_9, nreadFault_467, nreadPlace_468, g_14, g_15, x_12, x_13) hw469 ⟨hi_15_0, hi_15_1, hi_15_2, hi_15_3, hi_15_4, hi_15_5, hi_15_12, (fun h => absurd h (by decide +kernel)), (show (∀ p0 : Int, TKR (mf 20) (mi 21).toInt p0 (mi 23).toInt (mi 22).toInt (mi 24).toInt (mi 25).toInt → SR (mf 20) (mi 21).toInt ((rnG (endR (mf 20) (mi 21).toInt) (itR (mf 20) (mi 21).toInt ((mi 6).toInt - 1)) 401 (0, []) p0).bind (opnG (mf 20) (mi 21).toInt)) (stpL g_14 g_15 ((x_12.toInt).toNat)) ((-1) : Int32).toInt nreadFault_467.toInt nreadPlace_468.toInt x_7.toInt) from (RRL_bad hi_15_11 (by omega) (by omega) (by omega) (by omega) (by omega) (by omega) (by decide +kernel) (by have k1 : (1 : Int32).toInt = 1 := (by decide +kernel); omega) (by omega))), (Or.inl rfl)⟩ (Nat.le_of_ble_eq_true rfl) (Nat.le_of_ble_eq_true rfl) dX12_readSteps_105
            · skip
              have ha_460 : ¬ x_9.toInt = (41 : Int32).toInt := ha_460
              rw [show (41 : Int32).toInt = 41 from by decide +kernel] at ha_460
              refine lv_if_eq (pc := 34) (tgt := 82) E.1 E.2.1 dX12_readSteps_34 (by decide) (fun _ => ?_) (fun c_473 => absurd (meqE (a := 0) (b := 0) (by decide +kernel) (by decide +kernel) (by omega)) c_473)
              refine lv_aload_n (pc := 82) E.1 E.2.1 dX12_readSteps_82 rfl (lv_at hl18 0 rfl) ?_
              refine x_get (pc := 83) (T := TX12) (N := 70) (ci := 12) (v := .int x_13) E hw455 inX12 0 35 q_1434 rfl rfl (by decide) rfl rfl dX12_readSteps_83 ?_
              refine lv_if_ne (pc := 86) (tgt := 100) E.1 E.2.1 dX12_readSteps_86 (by decide) (fun _ => ?_) (fun c_474 => absurd c_474 (mneE (a := x_13.toInt) (b := 0) rfl (by decide +kernel) (by omega)))
              refine lv_aload_n (pc := 100) E.1 E.2.1 dX12_readSteps_100 rfl (lv_at hl18 0 rfl) ?_
              refine lv_iconst (pc := 101) (v := 1) E.1 E.2.1 dX12_readSteps_101 (by decide +kernel) ?_
              refine cm_i (pc := 102) hw455 (rn_M (As := [.int 1]) (rest := []) E hw455 (s_errsT l D cI cJ _ M mr (upd (upd (upd (upd (upd (upd (upd (upd mi 22 x_6) 23 x_7) 24 x_8) 25 x_9) 35 x_13) 38 x_10) 39 x_11) 48 x_12) (va_up (va_up mf 46 g_14) 47 g_15) mg 1) (gdV q_1698 q_1700 q_60 q_162 q_1701) hdV_X12_errs ⟨rfl, rfl⟩ ⟨(Nat.le_of_ble_eq_true rfl), (Nat.le_of_ble_eq_true rfl)⟩ ⟨(Nat.le_of_ble_eq_true rfl), (Nat.le_of_ble_eq_true rfl)⟩ 12 rfl rfl rfl rfl hl18.1 rfl (Nat.le_of_ble_eq_true rfl) dX12_readSteps_102) (fun r_476 u_475 H1 locs hp hw477 => ?_)
              obtain ⟨nreadFault_478, nreadPlace_479⟩ := u_475
              generalize H1 = H at hw477 ⊢
              have hw480 : WD D A s.heap (MW cI cJ M mr (upd (upd (upd (upd (upd (upd (upd (upd mi 22 x_6) 23 x_7) 24 x_8) 25 x_9) 35 x_13) 38 nreadFault_478) 39 nreadPlace_479) 48 x_12) (va_up (va_up mf 46 g_14) 47 g_15) mg) H locs := hw477
              obtain ⟨hp_481, hp_482, hp_483⟩ := hp
              have hp_481 : nreadFault_478.toInt = (1 : Int32).toInt := hp_481
              rw [show (1 : Int32).toInt = 1 from by decide +kernel] at hp_481
              have hp_482 : nreadPlace_479.toInt = x_7.toInt := hp_482
              rcases hp_483 with rfl
              · skip
                exact em_i (w1 := (fun (u : Int32 × Int32 × Int32 × Int32 × Int32 × Int32 × (Nat → Int32) × (Nat → Int32) × Int32 × Int32) => (MW cI cJ M mr (upd (upd (upd (upd (upd (upd (upd (upd mi 22 u.1) 23 u.2.1) 24 u.2.2.1) 25 u.2.2.2.1) 38 u.2.2.2.2.1) 39 u.2.2.2.2.2.1) 48 u.2.2.2.2.2.2.2.2.1) 35 u.2.2.2.2.2.2.2.2.2) (va_up (va_up mf 46 u.2.2.2.2.2.2.1) 47 u.2.2.2.2.2.2.2.1) mg))) E hr hlk (x_6, x_7, x_8, x_9, nreadFault_478, nreadPlace_479, g_14, g_15, x_12, x_13) hw480 ⟨hi_15_0, hi_15_1, hi_15_2, hi_15_3, hi_15_4, hi_15_5, hi_15_12, (fun h => absurd h (by decide +kernel)), (show (∀ p0 : Int, TKR (mf 20) (mi 21).toInt p0 (mi 23).toInt (mi 22).toInt (mi 24).toInt (mi 25).toInt → SR (mf 20) (mi 21).toInt ((rnG (endR (mf 20) (mi 21).toInt) (itR (mf 20) (mi 21).toInt ((mi 6).toInt - 1)) 401 (0, []) p0).bind (opnG (mf 20) (mi 21).toInt)) (stpL g_14 g_15 ((x_12.toInt).toNat)) ((-1) : Int32).toInt nreadFault_478.toInt nreadPlace_479.toInt x_7.toInt) from (RRL_bad hi_15_11 (by omega) (by omega) (by omega) (by omega) (by omega) (by omega) (by decide +kernel) (by have k1 : (1 : Int32).toInt = 1 := (by decide +kernel); omega) (by omega))), (Or.inl rfl)⟩ (Nat.le_of_ble_eq_true rfl) (Nat.le_of_ble_eq_true rfl) dX12_readSteps_105
  exact loop_5 (Int.toNat ((mi 21).toInt - (mi 23).toInt) + 1) (mi 22) (mi 23) (mi 24) (mi 25) (mi 38) (mi 39) 0 (mi 35) (mf 46) (mf 47) _ _ _ ⟨h0, h1, h2, h4, h5, h6, (by show 0 ≤ (0 : Int32).toInt; have k_0 : (0 : Int32).toInt = 0 := (by decide +kernel); omega), (by show 3 * (0 : Int32).toInt + 2 * (mi 35).toInt ≤ (mi 23).toInt; have k_0 : (0 : Int32).toInt = 0 := (by decide +kernel); omega), (by show 0 ≤ (mi 35).toInt; omega), (by show (mi 35).toInt ≤ 4; omega), (RSP_n RSP_nil (by first | rfl | decide +kernel | omega) (by first | rfl | decide +kernel | omega)), (RRL_init (by first | rfl | decide +kernel | omega) (by first | rfl | decide +kernel | omega) (by omega) (by omega)), (show AGN ((mi 24).toInt) ((mi 25).toInt) ((mi 23).toInt) ((mi 22).toInt) from lf_again)⟩ (by have k_6 : (0 : Int32).toInt = 0 := (by decide +kernel); omega) hw4 (lv_sub hl3 [0] rfl)
