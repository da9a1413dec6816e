theorem tcEax73r33f_ {x y : Int32} (h : x.toInt = y.toInt) : x.toNatClampNeg = y.toNatClampNeg := by rw [Int32.toInt_inj.mp h]
theorem ax73r33f_0 {x0 x1 x2 : Int} (h0 : 3 * x0 + 2 * x1 ≤ x2) (h1 : 0 ≤ x1) : 3 * x0 ≤ x2 := by omega
theorem ax73r33f_1 {x0 : Int} (h0 : x0 = 2) : x0 = 2 := by omega
theorem ax73r33f_2 {x0 x1 : Int} (h0 : x0 = x1 + 1) (h1 : 0 ≤ x1) : 0 ≤ x0 := by omega
theorem ax73r33f_3 {x0 x1 x2 x3 x4 : Int} (h0 : 3 * x0 + 2 * x1 ≤ x2) (h1 : x2 + 3 ≤ x3) (h2 : x4 = x0 + 1) : 3 * x4 + 2 * x1 ≤ x3 := by omega
theorem ax73r33f_4 {x0 x1 x2 x3 x4 x5 : Int} (h0 : x0 + 1 ≤ x1) (h1 : x2 = x3 + 1) (h2 : x4 = x5 - 1) (h3 : 3 * x3 + 2 * x5 ≤ x0) : 3 * x2 + 2 * x4 ≤ x1 := by omega
theorem ax73r33f_5 {x0 x1 : Int} (h0 : x0 = x1 - 1) (h1 : x1 ≤ 4) : x0 ≤ 4 := by omega
theorem ax73r33f_6 {x0 : Int} (h0 : x0 = 30) : x0 = 30 := by omega
theorem ax73r33f_7 {x0 x1 x2 x3 x4 x5 : Int} (h0 : x0 + 5 ≤ x1) (h1 : x2 = x3 + 1) (h2 : x4 = x5 + 1) (h3 : 3 * x3 + 2 * x5 ≤ x0) : 3 * x2 + 2 * x4 ≤ x1 := by omega
theorem ax73r33f_8 {x0 x1 : Int} (h0 : x0 ≤ x1) (h1 : 0 ≤ x0) : 0 ≤ x1 := by omega
theorem ax73r33f_9 {x0 : Int} (h0 : 0 ≤ x0) (h1 : x0 ≤ 0) : x0 = 0 := by omega
theorem ax73r33f_10 {x0 x1 x2 x3 x4 : Int} (h0 : 3 * x0 + 2 * x1 ≤ x2) (h1 : x2 ≤ x3) (h2 : 0 ≤ x1) (h3 : x3 ≤ x4) (h4 : x4 ≤ 400) : x0 ≤ 140 := by omega
theorem ax73r33f_11 {x0 : Int} (h0 : 0 < x0) : ¬ x0 = 0 := by omega
set_option maxHeartbeats 4000000 in
set_option maxRecDepth 100000 in
theorem s_readSteps (l : Launch) (D : va_G) (cI cJ : ClassId) (sz M : Nat) (mr : Nat → Nat) (mi : Nat → Int32) (mf : Nat → Nat → Int32) (mg : Nat → Nat → Int64)  (h0 : 0 ≤ (mi 23).toInt) (h1 : (mi 23).toInt ≤ (mi 22).toInt) (h2 : (mi 22).toInt ≤ (mi 21).toInt) (h3 : (mi 21).toInt ≤ 400) (h4 : 0 ≤ (mi 24).toInt) (h5 : (mi 24).toInt ≤ 4) (h6 : (mi 24).toInt ≤ 4 * (mi 22).toInt - 4 * (mi 23).toInt) (h7 : ((mf 26) 153).toInt = 32) (h8 : 0 ≤ (mi 6).toInt ∧ (mi 6).toInt ≤ 10) (h9 : (mi 35).toInt = 0) (lf_words : (∀ j : Nat, j < 154 → (mf 26) j = w0 j)) (lf_again : AGN ((mi 24).toInt) ((mi 25).toInt) ((mi 23).toInt) ((mi 22).toInt)) : Met l yX12_readSteps (Cond.code yX12_readSteps cX12_readSteps 2 (some .int) :: GW) ({ frames := 6, cells := 0, slots := 0, locals := 150 } : Room) (va_Pc [.ref M] (PW D cI cJ sz (MW cI cJ M mr mi mf mg) xT)) (va_Qi (fun (r : Int32) (u : Int32 × Int32 × Int32 × Int32 × Int32 × Int32 × (Nat → Int32) × (Nat → Int32) × Int32 × Int32) => (0 ≤ u.2.1.toInt) ∧ (u.2.1.toInt ≤ u.1.toInt) ∧ (u.1.toInt ≤ (mi 21).toInt) ∧ (0 ≤ u.2.2.1.toInt) ∧ (u.2.2.1.toInt ≤ 4) ∧ (u.2.2.1.toInt ≤ 4 * u.1.toInt - 4 * u.2.1.toInt) ∧ (AGN u.2.2.1.toInt u.2.2.2.1.toInt u.2.1.toInt u.1.toInt) ∧ (r = 0 → (∃ t : Nat, RSP u.2.2.2.2.2.2.1 u.2.2.2.2.2.2.2.1 (mi 6).toInt ((u.2.2.2.2.2.2.2.2.1.toInt).toNat) t)) ∧ ((r = (-1)) ∨ (r = 0 ∧ 0 ≤ u.2.2.2.2.2.2.2.2.1.toInt ∧ u.2.2.2.2.2.2.2.2.1.toInt ≤ 140))) (fun u => QW D cI cJ (va_A (MW cI cJ M mr mi mf mg) sz) ((fun (u : Int32 × Int32 × Int32 × Int32 × Int32 × Int32 × (Nat → Int32) × (Nat → Int32) × Int32 × Int32) => (MW cI cJ M mr (upd (upd (upd (upd (upd (upd (upd (upd mi 22 u.1) 23 u.2.1) 24 u.2.2.1) 25 u.2.2.2.1) 38 u.2.2.2.2.1) 39 u.2.2.2.2.2.1) 48 u.2.2.2.2.2.2.2.2.1) 35 u.2.2.2.2.2.2.2.2.2) (va_up (va_up mf 46 u.2.2.2.2.2.2.1) 47 u.2.2.2.2.2.2.2.1) mg)) u)) (va_A (MW cI cJ M mr mi mf mg) sz)) 0 0 (va_A (MW cI cJ M mr mi mf mg) sz) := by
  refine mk_met (y := yX12_readSteps) (bytes := cX12_readSteps) (maxL := 2) (avs := [.ref M]) (WS := (MW cI cJ M mr mi mf mg)) (Qf := fun A => va_Qi (fun (r : Int32) (u : Int32 × Int32 × Int32 × Int32 × Int32 × Int32 × (Nat → Int32) × (Nat → Int32) × Int32 × Int32) => (0 ≤ u.2.1.toInt) ∧ (u.2.1.toInt ≤ u.1.toInt) ∧ (u.1.toInt ≤ (mi 21).toInt) ∧ (0 ≤ u.2.2.1.toInt) ∧ (u.2.2.1.toInt ≤ 4) ∧ (u.2.2.1.toInt ≤ 4 * u.1.toInt - 4 * u.2.1.toInt) ∧ (AGN u.2.2.1.toInt u.2.2.2.1.toInt u.2.1.toInt u.1.toInt) ∧ (r = 0 → (∃ t : Nat, RSP u.2.2.2.2.2.2.1 u.2.2.2.2.2.2.2.1 (mi 6).toInt ((u.2.2.2.2.2.2.2.2.1.toInt).toNat) t)) ∧ ((r = (-1)) ∨ (r = 0 ∧ 0 ≤ u.2.2.2.2.2.2.2.2.1.toInt ∧ u.2.2.2.2.2.2.2.2.1.toInt ≤ 140))) (fun u => QW D cI cJ A ((fun (u : Int32 × Int32 × Int32 × Int32 × Int32 × Int32 × (Nat → Int32) × (Nat → Int32) × Int32 × Int32) => (MW cI cJ M mr (upd (upd (upd (upd (upd (upd (upd (upd mi 22 u.1) 23 u.2.1) 24 u.2.2.1) 25 u.2.2.2.1) 38 u.2.2.2.2.1) 39 u.2.2.2.2.2.1) 48 u.2.2.2.2.2.2.2.2.1) 35 u.2.2.2.2.2.2.2.2.2) (va_up (va_up mf 46 u.2.2.2.2.2.2.1) 47 u.2.2.2.2.2.2.2.1) mg)) u)) A) (by decide) (Nat.le_of_ble_eq_true rfl) ?_
  intro p e s m below meth c A ls E hr hlk hnm hX hw1 hl2
  have hl3 : lv_has ls 2 [(0, .ref M)] := hl2
  refine lv_aload_n (pc := 0) E.1 E.2.1 dX12_readSteps_0 rfl (lv_at hl3 0 rfl) ?_
  refine lv_iconst (pc := 1) (v := 0) E.1 E.2.1 dX12_readSteps_1 (by decide +kernel) ?_
  refine x_put (pc := 2) (T := TX12) (N := 70) (ci := 12) (ws' := (MW cI cJ M mr (upd mi 48 0) mf mg)) E hw1 inX12 tyX12_ok nmX12 0 48 q_1447 rfl rfl (by decide) rfl rfl rfl rfl (Nat.le_of_ble_eq_true rfl) rfl dX12_readSteps_2 (fun H locs hw4 => ?_)
  have loop_5 : ∀ (k : Nat) (x_6 : Int32) (x_7 : Int32) (x_8 : Int32) (x_9 : Int32) (x_10 : Int32) (x_11 : Int32) (x_12 : Int32) (x_13 : Int32) (g_14 : Nat → Int32) (g_15 : Nat → Int32) (H : Heap) (locs : List Loc) (ls : Array Slot), (0 ≤ x_7.toInt) ∧ (x_7.toInt ≤ x_6.toInt) ∧ (x_6.toInt ≤ (mi 21).toInt) ∧ (0 ≤ x_8.toInt) ∧ (x_8.toInt ≤ 4) ∧ (x_8.toInt ≤ 4 * x_6.toInt - 4 * x_7.toInt) ∧ (0 ≤ x_12.toInt) ∧ (3 * x_12.toInt + 2 * x_13.toInt ≤ x_7.toInt) ∧ (0 ≤ x_13.toInt) ∧ (x_13.toInt ≤ 4) ∧ (RSP g_14 g_15 (mi 6).toInt ((x_12.toInt).toNat) (x_13.toInt).toNat) ∧ (AGN x_8.toInt x_9.toInt x_7.toInt x_6.toInt) → (mi 21).toInt - x_7.toInt < (k : Int) → WD D A s.heap (MW cI cJ M mr (upd (upd (upd (upd (upd (upd (upd (upd mi 22 x_6) 23 x_7) 24 x_8) 25 x_9) 35 x_13) 38 x_10) 39 x_11) 48 x_12) (va_up (va_up mf 46 g_14) 47 g_15) mg) H locs → lv_has ls 2 [(0, .ref M)] → W p l e ({ frames := 6, cells := 0, slots := 0, locals := 150 } : Room) s m ([.ref M] : List Value).toArray below meth c H locs 0 0 (MQ below (va_Qi (fun (r : Int32) (u : Int32 × Int32 × Int32 × Int32 × Int32 × Int32 × (Nat → Int32) × (Nat → Int32) × Int32 × Int32) => (0 ≤ u.2.1.toInt) ∧ (u.2.1.toInt ≤ u.1.toInt) ∧ (u.1.toInt ≤ (mi 21).toInt) ∧ (0 ≤ u.2.2.1.toInt) ∧ (u.2.2.1.toInt ≤ 4) ∧ (u.2.2.1.toInt ≤ 4 * u.1.toInt - 4 * u.2.1.toInt) ∧ (AGN u.2.2.1.toInt u.2.2.2.1.toInt u.2.1.toInt u.1.toInt) ∧ (r = 0 → (∃ t : Nat, RSP u.2.2.2.2.2.2.1 u.2.2.2.2.2.2.2.1 (mi 6).toInt ((u.2.2.2.2.2.2.2.2.1.toInt).toNat) t)) ∧ ((r = (-1)) ∨ (r = 0 ∧ 0 ≤ u.2.2.2.2.2.2.2.2.1.toInt ∧ u.2.2.2.2.2.2.2.2.1.toInt ≤ 140))) (fun u => QW D cI cJ A ((fun (u : Int32 × Int32 × Int32 × Int32 × Int32 × Int32 × (Nat → Int32) × (Nat → Int32) × Int32 × Int32) => (MW cI cJ M mr (upd (upd (upd (upd (upd (upd (upd (upd mi 22 u.1) 23 u.2.1) 24 u.2.2.1) 25 u.2.2.2.1) 38 u.2.2.2.2.1) 39 u.2.2.2.2.2.1) 48 u.2.2.2.2.2.2.2.2.1) 35 u.2.2.2.2.2.2.2.2.2) (va_up (va_up mf 46 u.2.2.2.2.2.2.1) 47 u.2.2.2.2.2.2.2.1) mg)) u)) A) ([.ref M] : List Value).toArray s 0 0 A) (F0 m 5 ls []) := by
    intro k
    induction k with
    | zero =>
      intro x_6 x_7 x_8 x_9 x_10 x_11 x_12 x_13 g_14 g_15 _ _ _ hinv hm
      obtain ⟨hi_15_0, hi_15_1, hi_15_2, hi_15_3, hi_15_4, hi_15_5, hi_15_6, hi_15_7, hi_15_8, hi_15_9, hi_15_10, hi_15_11⟩ := hinv
      exact absurd hm (by omega)
    | succ k ih_16 =>
      intro x_6 x_7 x_8 x_9 x_10 x_11 x_12 x_13 g_14 g_15 H locs ls hinv hm hw17 hl18
      obtain ⟨hi_15_0, hi_15_1, hi_15_2, hi_15_3, hi_15_4, hi_15_5, hi_15_6, hi_15_7, hi_15_8, hi_15_9, hi_15_10, hi_15_11⟩ := hinv
      have join_19 : ∀ (H : Heap) (locs : List Loc) (ls : Array Slot), (RSD x_8.toInt x_9.toInt x_13.toInt) ∧ (AGN x_8.toInt x_9.toInt x_7.toInt x_6.toInt) → WD D A s.heap (MW cI cJ M mr (upd (upd (upd (upd (upd (upd (upd (upd mi 22 x_6) 23 x_7) 24 x_8) 25 x_9) 35 x_13) 38 x_10) 39 x_11) 48 x_12) (va_up (va_up mf 46 g_14) 47 g_15) mg) H locs → lv_has ls 2 [(0, .ref M)] → W p l e ({ frames := 6, cells := 0, slots := 0, locals := 150 } : Room) s m ([.ref M] : List Value).toArray below meth c H locs 0 0 (MQ below (va_Qi (fun (r : Int32) (u : Int32 × Int32 × Int32 × Int32 × Int32 × Int32 × (Nat → Int32) × (Nat → Int32) × Int32 × Int32) => (0 ≤ u.2.1.toInt) ∧ (u.2.1.toInt ≤ u.1.toInt) ∧ (u.1.toInt ≤ (mi 21).toInt) ∧ (0 ≤ u.2.2.1.toInt) ∧ (u.2.2.1.toInt ≤ 4) ∧ (u.2.2.1.toInt ≤ 4 * u.1.toInt - 4 * u.2.1.toInt) ∧ (AGN u.2.2.1.toInt u.2.2.2.1.toInt u.2.1.toInt u.1.toInt) ∧ (r = 0 → (∃ t : Nat, RSP u.2.2.2.2.2.2.1 u.2.2.2.2.2.2.2.1 (mi 6).toInt ((u.2.2.2.2.2.2.2.2.1.toInt).toNat) t)) ∧ ((r = (-1)) ∨ (r = 0 ∧ 0 ≤ u.2.2.2.2.2.2.2.2.1.toInt ∧ u.2.2.2.2.2.2.2.2.1.toInt ≤ 140))) (fun u => QW D cI cJ A ((fun (u : Int32 × Int32 × Int32 × Int32 × Int32 × Int32 × (Nat → Int32) × (Nat → Int32) × Int32 × Int32) => (MW cI cJ M mr (upd (upd (upd (upd (upd (upd (upd (upd mi 22 u.1) 23 u.2.1) 24 u.2.2.1) 25 u.2.2.2.1) 38 u.2.2.2.2.1) 39 u.2.2.2.2.2.1) 48 u.2.2.2.2.2.2.2.2.1) 35 u.2.2.2.2.2.2.2.2.2) (va_up (va_up mf 46 u.2.2.2.2.2.2.1) 47 u.2.2.2.2.2.2.2.1) mg)) u)) A) ([.ref M] : List Value).toArray s 0 0 A) (F0 m 37 ls []) := by
        intro  H locs ls hinv hw20 hl21
        obtain ⟨hj_19_0, hj_19_1⟩ := hinv
        refine lv_aload_n (pc := 37) E.1 E.2.1 dX12_readSteps_37 rfl (lv_at hl21 0 rfl) ?_
        refine cm_i (pc := 38) hw20 (rn_M (As := []) (rest := []) E hw20 (s_isStep l D cI cJ _ M mr (upd (upd (upd (upd (upd (upd (upd (upd mi 22 x_6) 23 x_7) 24 x_8) 25 x_9) 35 x_13) 38 x_10) 39 x_11) 48 x_12) (va_up (va_up mf 46 g_14) 47 g_15) mg ) (gdV q_1738 q_1740 q_70 q_162 q_1741) hdV_X12_isStep ⟨rfl, rfl⟩ ⟨(Nat.le_of_ble_eq_true rfl), (Nat.le_of_ble_eq_true rfl)⟩ ⟨(Nat.le_of_ble_eq_true rfl), (Nat.le_of_ble_eq_true rfl)⟩ 12 rfl rfl rfl rfl hl21.1 rfl (Nat.le_of_ble_eq_true rfl) dX12_readSteps_38) (fun r_23 u_22 H1 locs hp hw24 => ?_)
        generalize H1 = H at hw24 ⊢
        have hw25 : WD D A s.heap (MW cI cJ M mr (upd (upd (upd (upd (upd (upd (upd (upd mi 22 x_6) 23 x_7) 24 x_8) 25 x_9) 35 x_13) 38 x_10) 39 x_11) 48 x_12) (va_up (va_up mf 46 g_14) 47 g_15) mg) H locs := hw24
        have hp_26 := hp
        rcases hp_26 with ⟨rfl, ha_27, ha_28⟩ | ⟨rfl, ha_29, ha_30⟩ | ⟨rfl, ha_31⟩ | ⟨rfl, ha_32, ha_33⟩
        · skip
          have ha_27 : x_8.toInt = 2 := ha_27
          have ha_28 : x_9.toInt = 28 := ha_28
          refine lv_if_eq (pc := 41) (tgt := 51) E.1 E.2.1 dX12_readSteps_41 (by decide) (fun c_34 => absurd c_34 (mneE (a := 1) (b := 0) (by decide +kernel) (by decide +kernel) (by decide +kernel))) (fun _ => ?_)
          refine lv_aload_n (pc := 44) E.1 E.2.1 dX12_readSteps_44 rfl (lv_at hl21 0 rfl) ?_
          refine cm_i (pc := 45) hw25 (rn_M (As := []) (rest := []) E hw25 (s_readStep l D cI cJ _ M mr (upd (upd (upd (upd (upd (upd (upd (upd mi 22 x_6) 23 x_7) 24 x_8) 25 x_9) 35 x_13) 38 x_10) 39 x_11) 48 x_12) (va_up (va_up mf 46 g_14) 47 g_15) mg hi_15_0 hi_15_1 hi_15_2 h3 hi_15_3 hi_15_4 hi_15_5 h7 h8 hi_15_6 (ax73r33f_0 hi_15_7 hi_15_8) (ax73r33f_1 ha_27) (show (∀ j : Nat, j < 154 → (mf 26) j = w0 j) from lf_words) (show AGN x_8.toInt x_9.toInt x_7.toInt x_6.toInt from hj_19_1)) (gdV q_1742 q_1744 q_71 q_162 q_1745) hdV_X12_readStep ⟨rfl, rfl⟩ ⟨(Nat.le_of_ble_eq_true rfl), (Nat.le_of_ble_eq_true rfl)⟩ ⟨(Nat.le_of_ble_eq_true rfl), (Nat.le_of_ble_eq_true rfl)⟩ 12 rfl rfl rfl rfl hl21.1 rfl (Nat.le_of_ble_eq_true rfl) dX12_readSteps_45) (fun r_36 u_35 H1 locs hp hw37 => ?_)
          obtain ⟨nspot_38, nfrom_39, ntoken_40, nvalue_41, nreadFault_42, nreadPlace_43, gstepOp_44, gstepHow_45, nsteps_46⟩ := u_35
          generalize H1 = H at hw37 ⊢
          have hw47 : WD D A s.heap (MW cI cJ M mr (upd (upd (upd (upd (upd (upd (upd (upd mi 22 nspot_38) 23 nfrom_39) 24 ntoken_40) 25 nvalue_41) 35 x_13) 38 nreadFault_42) 39 nreadPlace_43) 48 nsteps_46) (va_up (va_up mf 46 gstepOp_44) 47 gstepHow_45) mg) H locs := hw37
          obtain ⟨hp_48, hp_49, hp_50, hp_51, hp_52, hp_53, hp_54, hp_55, hp_56⟩ := hp
          have hp_48 : 0 ≤ nfrom_39.toInt := hp_48
          have hp_49 : nfrom_39.toInt ≤ nspot_38.toInt := hp_49
          have hp_50 : nspot_38.toInt ≤ (mi 21).toInt := hp_50
          have hp_51 : 0 ≤ ntoken_40.toInt := hp_51
          have hp_52 : ntoken_40.toInt ≤ 4 := hp_52
          have hp_53 : ntoken_40.toInt ≤ 4 * nspot_38.toInt - 4 * nfrom_39.toInt := hp_53
          have hp_54 : AGN ntoken_40.toInt nvalue_41.toInt nfrom_39.toInt nspot_38.toInt := hp_54
          have hp_55 : r_36 = 0 → (∀ t : Nat, RSP g_14 g_15 (mi 6).toInt ((x_12.toInt).toNat) t → RSP gstepOp_44 gstepHow_45 (mi 6).toInt ((nsteps_46.toInt).toNat) t) := hp_55
          rcases hp_56 with rfl | ⟨rfl, ha_57, ha_58⟩
          · skip
            refine lv_goto (pc := 48) (tgt := 71) E.1 E.2.1 dX12_readSteps_48 (by decide) ?_
            refine lv_istore_n (pc := 71) (lv' := [(1, .int (-1)), (0, .ref M)]) E.1 E.2.1 dX12_readSteps_71 rfl hl21 (by decide) rfl (fun ls hl59 => ?_)
            refine lv_iload_n (pc := 72) E.1 E.2.1 dX12_readSteps_72 rfl (lv_at hl59 0 rfl) ?_
            refine lv_iconst (pc := 73) (v := (-1)) E.1 E.2.1 dX12_readSteps_73 (by decide +kernel) ?_
            refine lv_icmp_ne (pc := 74) (tgt := 79) E.1 E.2.1 dX12_readSteps_74 (by decide) (fun c_60 => absurd (meqE (a := (-1)) (b := (-1)) (by decide +kernel) (by decide +kernel) (by decide +kernel)) c_60) (fun _ => ?_)
            refine lv_iconst (pc := 77) (v := (-1)) E.1 E.2.1 dX12_readSteps_77 (by decide +kernel) ?_
            exact em_i (w1 := (fun (u : Int32 × Int32 × Int32 × Int32 × Int32 × Int32 × (Nat → Int32) × (Nat → Int32) × Int32 × Int32) => (MW cI cJ M mr (upd (upd (upd (upd (upd (upd (upd (upd mi 22 u.1) 23 u.2.1) 24 u.2.2.1) 25 u.2.2.2.1) 38 u.2.2.2.2.1) 39 u.2.2.2.2.2.1) 48 u.2.2.2.2.2.2.2.2.1) 35 u.2.2.2.2.2.2.2.2.2) (va_up (va_up mf 46 u.2.2.2.2.2.2.1) 47 u.2.2.2.2.2.2.2.1) mg))) E hr hlk (nspot_38, nfrom_39, ntoken_40, nvalue_41, nreadFault_42, nreadPlace_43, gstepOp_44, gstepHow_45, nsteps_46, x_13) hw47 ⟨hp_48, hp_49, hp_50, hp_51, hp_52, hp_53, hp_54, (fun h => absurd h (by decide +kernel)), (Or.inl rfl)⟩ (Nat.le_of_ble_eq_true rfl) (Nat.le_of_ble_eq_true rfl) dX12_readSteps_78
          · skip
            have hp_55 := hp_55 rfl
            have ha_57 : x_7.toInt + 3 ≤ nfrom_39.toInt := ha_57
            have ha_58 : nsteps_46.toInt = x_12.toInt + 1 := ha_58
            refine lv_goto (pc := 48) (tgt := 71) E.1 E.2.1 dX12_readSteps_48 (by decide) ?_
            refine lv_istore_n (pc := 71) (lv' := [(1, .int 0), (0, .ref M)]) E.1 E.2.1 dX12_readSteps_71 rfl hl21 (by decide) rfl (fun ls hl61 => ?_)
            refine lv_iload_n (pc := 72) E.1 E.2.1 dX12_readSteps_72 rfl (lv_at hl61 0 rfl) ?_
            refine lv_iconst (pc := 73) (v := (-1)) E.1 E.2.1 dX12_readSteps_73 (by decide +kernel) ?_
            refine lv_icmp_ne (pc := 74) (tgt := 79) E.1 E.2.1 dX12_readSteps_74 (by decide) (fun _ => ?_) (fun c_62 => absurd c_62 (mneE (a := 0) (b := (-1)) (by decide +kernel) (by decide +kernel) (by decide +kernel)))
            refine lv_goto (pc := 79) (tgt := 5) E.1 E.2.1 dX12_readSteps_79 (by decide) ?_
            exact ih_16 nspot_38 nfrom_39 ntoken_40 nvalue_41 nreadFault_42 nreadPlace_43 nsteps_46 x_13 gstepOp_44 gstepHow_45 _ _ _ ⟨hp_48, hp_49, hp_50, hp_51, hp_52, hp_53, (ax73r33f_2 ha_58 hi_15_6), (ax73r33f_3 hi_15_7 ha_57 ha_58), hi_15_8, hi_15_9, (RSP_n (hp_55 _ hi_15_10) rfl rfl), (show AGN ntoken_40.toInt nvalue_41.toInt nfrom_39.toInt nspot_38.toInt from hp_54)⟩ (by omega) hw47 (lv_sub hl61 [1] rfl)
        · skip
          have ha_29 : x_8.toInt = 2 := ha_29
          have ha_30 : x_9.toInt = 29 := ha_30
          refine lv_if_eq (pc := 41) (tgt := 51) E.1 E.2.1 dX12_readSteps_41 (by decide) (fun c_63 => absurd c_63 (mneE (a := 1) (b := 0) (by decide +kernel) (by decide +kernel) (by decide +kernel))) (fun _ => ?_)
          refine lv_aload_n (pc := 44) E.1 E.2.1 dX12_readSteps_44 rfl (lv_at hl21 0 rfl) ?_
          refine cm_i (pc := 45) hw25 (rn_M (As := []) (rest := []) E hw25 (s_readStep l D cI cJ _ M mr (upd (upd (upd (upd (upd (upd (upd (upd mi 22 x_6) 23 x_7) 24 x_8) 25 x_9) 35 x_13) 38 x_10) 39 x_11) 48 x_12) (va_up (va_up mf 46 g_14) 47 g_15) mg hi_15_0 hi_15_1 hi_15_2 h3 hi_15_3 hi_15_4 hi_15_5 h7 h8 hi_15_6 (ax73r33f_0 hi_15_7 hi_15_8) (ax73r33f_1 ha_29) (show (∀ j : Nat, j < 154 → (mf 26) j = w0 j) from lf_words) (show AGN x_8.toInt x_9.toInt x_7.toInt x_6.toInt from hj_19_1)) (gdV q_1742 q_1744 q_71 q_162 q_1745) hdV_X12_readStep ⟨rfl, rfl⟩ ⟨(Nat.le_of_ble_eq_true rfl), (Nat.le_of_ble_eq_true rfl)⟩ ⟨(Nat.le_of_ble_eq_true rfl), (Nat.le_of_ble_eq_true rfl)⟩ 12 rfl rfl rfl rfl hl21.1 rfl (Nat.le_of_ble_eq_true rfl) dX12_readSteps_45) (fun r_65 u_64 H1 locs hp hw66 => ?_)
          obtain ⟨nspot_67, nfrom_68, ntoken_69, nvalue_70, nreadFault_71, nreadPlace_72, gstepOp_73, gstepHow_74, nsteps_75⟩ := u_64
          generalize H1 = H at hw66 ⊢
          have hw76 : WD D A s.heap (MW cI cJ M mr (upd (upd (upd (upd (upd (upd (upd (upd mi 22 nspot_67) 23 nfrom_68) 24 ntoken_69) 25 nvalue_70) 35 x_13) 38 nreadFault_71) 39 nreadPlace_72) 48 nsteps_75) (va_up (va_up mf 46 gstepOp_73) 47 gstepHow_74) mg) H locs := hw66
          obtain ⟨hp_77, hp_78, hp_79, hp_80, hp_81, hp_82, hp_83, hp_84, hp_85⟩ := hp
          have hp_77 : 0 ≤ nfrom_68.toInt := hp_77
          have hp_78 : nfrom_68.toInt ≤ nspot_67.toInt := hp_78
          have hp_79 : nspot_67.toInt ≤ (mi 21).toInt := hp_79
          have hp_80 : 0 ≤ ntoken_69.toInt := hp_80
          have hp_81 : ntoken_69.toInt ≤ 4 := hp_81
          have hp_82 : ntoken_69.toInt ≤ 4 * nspot_67.toInt - 4 * nfrom_68.toInt := hp_82
          have hp_83 : AGN ntoken_69.toInt nvalue_70.toInt nfrom_68.toInt nspot_67.toInt := hp_83
          have hp_84 : r_65 = 0 → (∀ t : Nat, RSP g_14 g_15 (mi 6).toInt ((x_12.toInt).toNat) t → RSP gstepOp_73 gstepHow_74 (mi 6).toInt ((nsteps_75.toInt).toNat) t) := hp_84
          rcases hp_85 with rfl | ⟨rfl, ha_86, ha_87⟩
          · skip
            refine lv_goto (pc := 48) (tgt := 71) E.1 E.2.1 dX12_readSteps_48 (by decide) ?_
            refine lv_istore_n (pc := 71) (lv' := [(1, .int (-1)), (0, .ref M)]) E.1 E.2.1 dX12_readSteps_71 rfl hl21 (by decide) rfl (fun ls hl88 => ?_)
            refine lv_iload_n (pc := 72) E.1 E.2.1 dX12_readSteps_72 rfl (lv_at hl88 0 rfl) ?_
            refine lv_iconst (pc := 73) (v := (-1)) E.1 E.2.1 dX12_readSteps_73 (by decide +kernel) ?_
            refine lv_icmp_ne (pc := 74) (tgt := 79) E.1 E.2.1 dX12_readSteps_74 (by decide) (fun c_89 => absurd (meqE (a := (-1)) (b := (-1)) (by decide +kernel) (by decide +kernel) (by decide +kernel)) c_89) (fun _ => ?_)
            refine lv_iconst (pc := 77) (v := (-1)) E.1 E.2.1 dX12_readSteps_77 (by decide +kernel) ?_
            exact em_i (w1 := (fun (u : Int32 × Int32 × Int32 × Int32 × Int32 × Int32 × (Nat → Int32) × (Nat → Int32) × Int32 × Int32) => (MW cI cJ M mr (upd (upd (upd (upd (upd (upd (upd (upd mi 22 u.1) 23 u.2.1) 24 u.2.2.1) 25 u.2.2.2.1) 38 u.2.2.2.2.1) 39 u.2.2.2.2.2.1) 48 u.2.2.2.2.2.2.2.2.1) 35 u.2.2.2.2.2.2.2.2.2) (va_up (va_up mf 46 u.2.2.2.2.2.2.1) 47 u.2.2.2.2.2.2.2.1) mg))) E hr hlk (nspot_67, nfrom_68, ntoken_69, nvalue_70, nreadFault_71, nreadPlace_72, gstepOp_73, gstepHow_74, nsteps_75, x_13) hw76 ⟨hp_77, hp_78, hp_79, hp_80, hp_81, hp_82, hp_83, (fun h => absurd h (by decide +kernel)), (Or.inl rfl)⟩ (Nat.le_of_ble_eq_true rfl) (Nat.le_of_ble_eq_true rfl) dX12_readSteps_78
          · skip
            have hp_84 := hp_84 rfl
            have ha_86 : x_7.toInt + 3 ≤ nfrom_68.toInt := ha_86
            have ha_87 : nsteps_75.toInt = x_12.toInt + 1 := ha_87
            refine lv_goto (pc := 48) (tgt := 71) E.1 E.2.1 dX12_readSteps_48 (by decide) ?_
            refine lv_istore_n (pc := 71) (lv' := [(1, .int 0), (0, .ref M)]) E.1 E.2.1 dX12_readSteps_71 rfl hl21 (by decide) rfl (fun ls hl90 => ?_)
            refine lv_iload_n (pc := 72) E.1 E.2.1 dX12_readSteps_72 rfl (lv_at hl90 0 rfl) ?_
            refine lv_iconst (pc := 73) (v := (-1)) E.1 E.2.1 dX12_readSteps_73 (by decide +kernel) ?_
            refine lv_icmp_ne (pc := 74) (tgt := 79) E.1 E.2.1 dX12_readSteps_74 (by decide) (fun _ => ?_) (fun c_91 => absurd c_91 (mneE (a := 0) (b := (-1)) (by decide +kernel) (by decide +kernel) (by decide +kernel)))
            refine lv_goto (pc := 79) (tgt := 5) E.1 E.2.1 dX12_readSteps_79 (by decide) ?_
            exact ih_16 nspot_67 nfrom_68 ntoken_69 nvalue_70 nreadFault_71 nreadPlace_72 nsteps_75 x_13 gstepOp_73 gstepHow_74 _ _ _ ⟨hp_77, hp_78, hp_79, hp_80, hp_81, hp_82, (ax73r33f_2 ha_87 hi_15_6), (ax73r33f_3 hi_15_7 ha_86 ha_87), hi_15_8, hi_15_9, (RSP_n (hp_84 _ hi_15_10) rfl rfl), (show AGN ntoken_69.toInt nvalue_70.toInt nfrom_68.toInt nspot_67.toInt from hp_83)⟩ (by omega) hw76 (lv_sub hl90 [1] rfl)
        · skip
          have ha_31 : ¬ x_8.toInt = 2 := ha_31
          refine lv_if_eq (pc := 41) (tgt := 51) E.1 E.2.1 dX12_readSteps_41 (by decide) (fun _ => ?_) (fun c_92 => absurd (meqE (a := 0) (b := 0) (by decide +kernel) (by decide +kernel) (by decide +kernel)) c_92)
          refine lv_aload_n (pc := 51) E.1 E.2.1 dX12_readSteps_51 rfl (lv_at hl21 0 rfl) ?_
          refine lv_bipush (pc := 52) (v := 30) E.1 E.2.1 dX12_readSteps_52 (by decide +kernel) ?_
          refine cm_i (pc := 54) hw25 (rn_M (As := [.int 30]) (rest := []) E hw25 (s_isWord3 l D cI cJ _ M mr (upd (upd (upd (upd (upd (upd (upd (upd mi 22 x_6) 23 x_7) 24 x_8) 25 x_9) 35 x_13) 38 x_10) 39 x_11) 48 x_12) (va_up (va_up mf 46 g_14) 47 g_15) mg 30) (gdV q_1694 q_1696 q_59 q_162 q_1697) hdV_X12_isWord ⟨rfl, rfl⟩ ⟨(Nat.le_of_ble_eq_true rfl), (Nat.le_of_ble_eq_true rfl)⟩ ⟨(Nat.le_of_ble_eq_true rfl), (Nat.le_of_ble_eq_true rfl)⟩ 12 rfl rfl rfl rfl hl21.1 rfl (Nat.le_of_ble_eq_true rfl) dX12_readSteps_54) (fun r_94 u_93 H1 locs hp hw95 => ?_)
          generalize H1 = H at hw95 ⊢
          have hw96 : WD D A s.heap (MW cI cJ M mr (upd (upd (upd (upd (upd (upd (upd (upd mi 22 x_6) 23 x_7) 24 x_8) 25 x_9) 35 x_13) 38 x_10) 39 x_11) 48 x_12) (va_up (va_up mf 46 g_14) 47 g_15) mg) H locs := hw95
          have hp_97 := hp
          rcases hp_97 with ⟨rfl, ha_98, ha_99⟩ | ⟨rfl, ha_100⟩ | ⟨rfl, ha_101⟩
          · skip
            have ha_98 : x_8.toInt = 2 := ha_98
            have ha_99 : x_9.toInt = (30 : Int32).toInt := ha_99
            rw [show (30 : Int32).toInt = 30 from by decide +kernel] at ha_99
            exfalso; omega
          · skip
            have ha_100 : ¬ x_8.toInt = 2 := ha_100
            refine lv_if_eq (pc := 57) (tgt := 67) E.1 E.2.1 dX12_readSteps_57 (by decide) (fun _ => ?_) (fun c_102 => absurd (meqE (a := 0) (b := 0) (by decide +kernel) (by decide +kernel) (by decide +kernel)) c_102)
            have hD : 1 ≤ x_13.toInt ∧ 1 ≤ x_8.toInt := by have q := hj_19_0; unfold RSD at q; omega
            refine lv_aload_n (pc := 67) E.1 E.2.1 dX12_readSteps_67 rfl (lv_at hl21 0 rfl) ?_
            refine cm_i (pc := 68) hw96 (rn_M (As := []) (rest := []) E hw96 (s_readAgainEnd l D cI cJ _ M mr (upd (upd (upd (upd (upd (upd (upd (upd mi 22 x_6) 23 x_7) 24 x_8) 25 x_9) 35 x_13) 38 x_10) 39 x_11) 48 x_12) (va_up (va_up mf 46 g_14) 47 g_15) mg hi_15_0 hi_15_1 hi_15_2 h3 hi_15_3 hi_15_4 hi_15_5 h7 h8 hi_15_6 (ax73r33f_0 hi_15_7 hi_15_8) (by show 1 ≤ x_8.toInt; omega) (by show 1 ≤ x_13.toInt ∧ x_13.toInt ≤ 4; omega) (show (∀ j : Nat, j < 154 → (mf 26) j = w0 j) from lf_words) (show AGN x_8.toInt x_9.toInt x_7.toInt x_6.toInt from hj_19_1)) (gdV q_1754 q_1756 q_74 q_162 q_1757) hdV_X12_readAgainEnd ⟨rfl, rfl⟩ ⟨(Nat.le_of_ble_eq_true rfl), (Nat.le_of_ble_eq_true rfl)⟩ ⟨(Nat.le_of_ble_eq_true rfl), (Nat.le_of_ble_eq_true rfl)⟩ 12 rfl rfl rfl rfl hl21.1 rfl (Nat.le_of_ble_eq_true rfl) dX12_readSteps_68) (fun r_104 u_103 H1 locs hp hw105 => ?_)
            obtain ⟨nspot_106, nfrom_107, ntoken_108, nvalue_109, nreadFault_110, nreadPlace_111, gstepOp_112, gstepHow_113, nsteps_114, nopen_115⟩ := u_103
            generalize H1 = H at hw105 ⊢
            have hw116 : WD D A s.heap (MW cI cJ M mr (upd (upd (upd (upd (upd (upd (upd (upd mi 22 nspot_106) 23 nfrom_107) 24 ntoken_108) 25 nvalue_109) 35 nopen_115) 38 nreadFault_110) 39 nreadPlace_111) 48 nsteps_114) (va_up (va_up mf 46 gstepOp_112) 47 gstepHow_113) mg) H locs := hw105
            obtain ⟨hp_117, hp_118, hp_119, hp_120, hp_121, hp_122, hp_123, hp_124, hp_125⟩ := hp
            have hp_117 : 0 ≤ nfrom_107.toInt := hp_117
            have hp_118 : nfrom_107.toInt ≤ nspot_106.toInt := hp_118
            have hp_119 : nspot_106.toInt ≤ (mi 21).toInt := hp_119
            have hp_120 : 0 ≤ ntoken_108.toInt := hp_120
            have hp_121 : ntoken_108.toInt ≤ 4 := hp_121
            have hp_122 : ntoken_108.toInt ≤ 4 * nspot_106.toInt - 4 * nfrom_107.toInt := hp_122
            have hp_123 : AGN ntoken_108.toInt nvalue_109.toInt nfrom_107.toInt nspot_106.toInt := hp_123
            have hp_124 : r_104 = 0 → (∀ t : Nat, RSP g_14 g_15 (mi 6).toInt ((x_12.toInt).toNat) (t + 1) → RSP gstepOp_112 gstepHow_113 (mi 6).toInt ((nsteps_114.toInt).toNat) t) := hp_124
            rcases hp_125 with ⟨rfl, ha_126, ha_127, ha_128⟩
            · skip
              have hp_124 := hp_124 rfl
              have ha_126 : x_7.toInt + 1 ≤ nfrom_107.toInt := ha_126
              have ha_127 : nsteps_114.toInt = x_12.toInt + 1 := ha_127
              have ha_128 : nopen_115.toInt = x_13.toInt - 1 := ha_128
              refine lv_istore_n (pc := 71) (lv' := [(1, .int 0), (0, .ref M)]) E.1 E.2.1 dX12_readSteps_71 rfl hl21 (by decide) rfl (fun ls hl129 => ?_)
              refine lv_iload_n (pc := 72) E.1 E.2.1 dX12_readSteps_72 rfl (lv_at hl129 0 rfl) ?_
              refine lv_iconst (pc := 73) (v := (-1)) E.1 E.2.1 dX12_readSteps_73 (by decide +kernel) ?_
              refine lv_icmp_ne (pc := 74) (tgt := 79) E.1 E.2.1 dX12_readSteps_74 (by decide) (fun _ => ?_) (fun c_130 => absurd c_130 (mneE (a := 0) (b := (-1)) (by decide +kernel) (by decide +kernel) (by decide +kernel)))
              refine lv_goto (pc := 79) (tgt := 5) E.1 E.2.1 dX12_readSteps_79 (by decide) ?_
              exact ih_16 nspot_106 nfrom_107 ntoken_108 nvalue_109 nreadFault_110 nreadPlace_111 nsteps_114 nopen_115 gstepOp_112 gstepHow_113 _ _ _ ⟨hp_117, hp_118, hp_119, hp_120, hp_121, hp_122, (ax73r33f_2 ha_127 hi_15_6), (ax73r33f_4 ha_126 ha_127 ha_128 hi_15_7), (by show 0 ≤ nopen_115.toInt; omega), (ax73r33f_5 ha_128 hi_15_9), (hp_124 _ (RSP_n hi_15_10 rfl (by omega))), (show AGN ntoken_108.toInt nvalue_109.toInt nfrom_107.toInt nspot_106.toInt from hp_123)⟩ (by omega) hw116 (lv_sub hl129 [1] rfl)
          · skip
            have ha_101 : ¬ x_9.toInt = (30 : Int32).toInt := ha_101
            rw [show (30 : Int32).toInt = 30 from by decide +kernel] at ha_101
            refine lv_if_eq (pc := 57) (tgt := 67) E.1 E.2.1 dX12_readSteps_57 (by decide) (fun _ => ?_) (fun c_131 => absurd (meqE (a := 0) (b := 0) (by decide +kernel) (by decide +kernel) (by decide +kernel)) c_131)
            have hD : 1 ≤ x_13.toInt ∧ 1 ≤ x_8.toInt := by have q := hj_19_0; unfold RSD at q; omega
            refine lv_aload_n (pc := 67) E.1 E.2.1 dX12_readSteps_67 rfl (lv_at hl21 0 rfl) ?_
            refine cm_i (pc := 68) hw96 (rn_M (As := []) (rest := []) E hw96 (s_readAgainEnd l D cI cJ _ M mr (upd (upd (upd (upd (upd (upd (upd (upd mi 22 x_6) 23 x_7) 24 x_8) 25 x_9) 35 x_13) 38 x_10) 39 x_11) 48 x_12) (va_up (va_up mf 46 g_14) 47 g_15) mg hi_15_0 hi_15_1 hi_15_2 h3 hi_15_3 hi_15_4 hi_15_5 h7 h8 hi_15_6 (ax73r33f_0 hi_15_7 hi_15_8) (by show 1 ≤ x_8.toInt; omega) (by show 1 ≤ x_13.toInt ∧ x_13.toInt ≤ 4; omega) (show (∀ j : Nat, j < 154 → (mf 26) j = w0 j) from lf_words) (show AGN x_8.toInt x_9.toInt x_7.toInt x_6.toInt from hj_19_1)) (gdV q_1754 q_1756 q_74 q_162 q_1757) hdV_X12_readAgainEnd ⟨rfl, rfl⟩ ⟨(Nat.le_of_ble_eq_true rfl), (Nat.le_of_ble_eq_true rfl)⟩ ⟨(Nat.le_of_ble_eq_true rfl), (Nat.le_of_ble_eq_true rfl)⟩ 12 rfl rfl rfl rfl hl21.1 rfl (Nat.le_of_ble_eq_true rfl) dX12_readSteps_68) (fun r_133 u_132 H1 locs hp hw134 => ?_)
            obtain ⟨nspot_135, nfrom_136, ntoken_137, nvalue_138, nreadFault_139, nreadPlace_140, gstepOp_141, gstepHow_142, nsteps_143, nopen_144⟩ := u_132
            generalize H1 = H at hw134 ⊢
            have hw145 : WD D A s.heap (MW cI cJ M mr (upd (upd (upd (upd (upd (upd (upd (upd mi 22 nspot_135) 23 nfrom_136) 24 ntoken_137) 25 nvalue_138) 35 nopen_144) 38 nreadFault_139) 39 nreadPlace_140) 48 nsteps_143) (va_up (va_up mf 46 gstepOp_141) 47 gstepHow_142) mg) H locs := hw134
            obtain ⟨hp_146, hp_147, hp_148, hp_149, hp_150, hp_151, hp_152, hp_153, hp_154⟩ := hp
            have hp_146 : 0 ≤ nfrom_136.toInt := hp_146
            have hp_147 : nfrom_136.toInt ≤ nspot_135.toInt := hp_147
            have hp_148 : nspot_135.toInt ≤ (mi 21).toInt := hp_148
            have hp_149 : 0 ≤ ntoken_137.toInt := hp_149
            have hp_150 : ntoken_137.toInt ≤ 4 := hp_150
            have hp_151 : ntoken_137.toInt ≤ 4 * nspot_135.toInt - 4 * nfrom_136.toInt := hp_151
            have hp_152 : AGN ntoken_137.toInt nvalue_138.toInt nfrom_136.toInt nspot_135.toInt := hp_152
            have hp_153 : r_133 = 0 → (∀ t : Nat, RSP g_14 g_15 (mi 6).toInt ((x_12.toInt).toNat) (t + 1) → RSP gstepOp_141 gstepHow_142 (mi 6).toInt ((nsteps_143.toInt).toNat) t) := hp_153
            rcases hp_154 with ⟨rfl, ha_155, ha_156, ha_157⟩
            · skip
              have hp_153 := hp_153 rfl
              have ha_155 : x_7.toInt + 1 ≤ nfrom_136.toInt := ha_155
              have ha_156 : nsteps_143.toInt = x_12.toInt + 1 := ha_156
              have ha_157 : nopen_144.toInt = x_13.toInt - 1 := ha_157
              refine lv_istore_n (pc := 71) (lv' := [(1, .int 0), (0, .ref M)]) E.1 E.2.1 dX12_readSteps_71 rfl hl21 (by decide) rfl (fun ls hl158 => ?_)
              refine lv_iload_n (pc := 72) E.1 E.2.1 dX12_readSteps_72 rfl (lv_at hl158 0 rfl) ?_
              refine lv_iconst (pc := 73) (v := (-1)) E.1 E.2.1 dX12_readSteps_73 (by decide +kernel) ?_
              refine lv_icmp_ne (pc := 74) (tgt := 79) E.1 E.2.1 dX12_readSteps_74 (by decide) (fun _ => ?_) (fun c_159 => absurd c_159 (mneE (a := 0) (b := (-1)) (by decide +kernel) (by decide +kernel) (by decide +kernel)))
              refine lv_goto (pc := 79) (tgt := 5) E.1 E.2.1 dX12_readSteps_79 (by decide) ?_
              exact ih_16 nspot_135 nfrom_136 ntoken_137 nvalue_138 nreadFault_139 nreadPlace_140 nsteps_143 nopen_144 gstepOp_141 gstepHow_142 _ _ _ ⟨hp_146, hp_147, hp_148, hp_149, hp_150, hp_151, (ax73r33f_2 ha_156 hi_15_6), (ax73r33f_4 ha_155 ha_156 ha_157 hi_15_7), (by show 0 ≤ nopen_144.toInt; omega), (ax73r33f_5 ha_157 hi_15_9), (hp_153 _ (RSP_n hi_15_10 rfl (by omega))), (show AGN ntoken_137.toInt nvalue_138.toInt nfrom_136.toInt nspot_135.toInt from hp_152)⟩ (by omega) hw145 (lv_sub hl158 [1] rfl)
        · skip
          have ha_32 : ¬ x_9.toInt = 28 := ha_32
          have ha_33 : ¬ x_9.toInt = 29 := ha_33
          refine lv_if_eq (pc := 41) (tgt := 51) E.1 E.2.1 dX12_readSteps_41 (by decide) (fun _ => ?_) (fun c_160 => absurd (meqE (a := 0) (b := 0) (by decide +kernel) (by decide +kernel) (by decide +kernel)) c_160)
          refine lv_aload_n (pc := 51) E.1 E.2.1 dX12_readSteps_51 rfl (lv_at hl21 0 rfl) ?_
          refine lv_bipush (pc := 52) (v := 30) E.1 E.2.1 dX12_readSteps_52 (by decide +kernel) ?_
          refine cm_i (pc := 54) hw25 (rn_M (As := [.int 30]) (rest := []) E hw25 (s_isWord3 l D cI cJ _ M mr (upd (upd (upd (upd (upd (upd (upd (upd mi 22 x_6) 23 x_7) 24 x_8) 25 x_9) 35 x_13) 38 x_10) 39 x_11) 48 x_12) (va_up (va_up mf 46 g_14) 47 g_15) mg 30) (gdV q_1694 q_1696 q_59 q_162 q_1697) hdV_X12_isWord ⟨rfl, rfl⟩ ⟨(Nat.le_of_ble_eq_true rfl), (Nat.le_of_ble_eq_true rfl)⟩ ⟨(Nat.le_of_ble_eq_true rfl), (Nat.le_of_ble_eq_true rfl)⟩ 12 rfl rfl rfl rfl hl21.1 rfl (Nat.le_of_ble_eq_true rfl) dX12_readSteps_54) (fun r_162 u_161 H1 locs hp hw163 => ?_)
          generalize H1 = H at hw163 ⊢
          have hw164 : WD D A s.heap (MW cI cJ M mr (upd (upd (upd (upd (upd (upd (upd (upd mi 22 x_6) 23 x_7) 24 x_8) 25 x_9) 35 x_13) 38 x_10) 39 x_11) 48 x_12) (va_up (va_up mf 46 g_14) 47 g_15) mg) H locs := hw163
          have hp_165 := hp
          rcases hp_165 with ⟨rfl, ha_166, ha_167⟩ | ⟨rfl, ha_168⟩ | ⟨rfl, ha_169⟩
          · skip
            have ha_166 : x_8.toInt = 2 := ha_166
            have ha_167 : x_9.toInt = (30 : Int32).toInt := ha_167
            rw [show (30 : Int32).toInt = 30 from by decide +kernel] at ha_167
            refine lv_if_eq (pc := 57) (tgt := 67) E.1 E.2.1 dX12_readSteps_57 (by decide) (fun c_170 => absurd c_170 (mneE (a := 1) (b := 0) (by decide +kernel) (by decide +kernel) (by decide +kernel))) (fun _ => ?_)
            refine lv_aload_n (pc := 60) E.1 E.2.1 dX12_readSteps_60 rfl (lv_at hl21 0 rfl) ?_
            refine cm_i (pc := 61) hw164 (rn_M (As := []) (rest := []) E hw164 (s_readAgain l D cI cJ _ M mr (upd (upd (upd (upd (upd (upd (upd (upd mi 22 x_6) 23 x_7) 24 x_8) 25 x_9) 35 x_13) 38 x_10) 39 x_11) 48 x_12) (va_up (va_up mf 46 g_14) 47 g_15) mg hi_15_0 hi_15_1 hi_15_2 h3 hi_15_3 hi_15_4 hi_15_5 h7 h8 hi_15_6 (ax73r33f_0 hi_15_7 hi_15_8) (ax73r33f_1 ha_166) (ax73r33f_6 ha_167) ⟨hi_15_8, hi_15_9⟩ (show (∀ j : Nat, j < 154 → (mf 26) j = w0 j) from lf_words) (show AGN x_8.toInt x_9.toInt x_7.toInt x_6.toInt from hj_19_1)) (gdV q_1750 q_1752 q_73 q_162 q_1753) hdV_X12_readAgain ⟨rfl, rfl⟩ ⟨(Nat.le_of_ble_eq_true rfl), (Nat.le_of_ble_eq_true rfl)⟩ ⟨(Nat.le_of_ble_eq_true rfl), (Nat.le_of_ble_eq_true rfl)⟩ 12 rfl rfl rfl rfl hl21.1 rfl (Nat.le_of_ble_eq_true rfl) dX12_readSteps_61) (fun r_172 u_171 H1 locs hp hw173 => ?_)
            obtain ⟨nspot_174, nfrom_175, ntoken_176, nvalue_177, nreadFault_178, nreadPlace_179, gstepOp_180, gstepHow_181, nsteps_182, nopen_183⟩ := u_171
            generalize H1 = H at hw173 ⊢
            have hw184 : WD D A s.heap (MW cI cJ M mr (upd (upd (upd (upd (upd (upd (upd (upd mi 22 nspot_174) 23 nfrom_175) 24 ntoken_176) 25 nvalue_177) 35 nopen_183) 38 nreadFault_178) 39 nreadPlace_179) 48 nsteps_182) (va_up (va_up mf 46 gstepOp_180) 47 gstepHow_181) mg) H locs := hw173
            obtain ⟨hp_185, hp_186, hp_187, hp_188, hp_189, hp_190, hp_191, hp_192, hp_193, hp_194, hp_195⟩ := hp
            have hp_185 : 0 ≤ nfrom_175.toInt := hp_185
            have hp_186 : nfrom_175.toInt ≤ nspot_174.toInt := hp_186
            have hp_187 : nspot_174.toInt ≤ (mi 21).toInt := hp_187
            have hp_188 : 0 ≤ ntoken_176.toInt := hp_188
            have hp_189 : ntoken_176.toInt ≤ 4 := hp_189
            have hp_190 : ntoken_176.toInt ≤ 4 * nspot_174.toInt - 4 * nfrom_175.toInt := hp_190
            have hp_191 : x_13.toInt ≤ nopen_183.toInt := hp_191
            have hp_192 : nopen_183.toInt ≤ 4 := hp_192
            have hp_193 : AGN ntoken_176.toInt nvalue_177.toInt nfrom_175.toInt nspot_174.toInt := hp_193
            have hp_194 : r_172 = 0 → (∀ t : Nat, t ≤ 3 → RSP g_14 g_15 (mi 6).toInt ((x_12.toInt).toNat) t → RSP gstepOp_180 gstepHow_181 (mi 6).toInt ((nsteps_182.toInt).toNat) (t + 1)) := hp_194
            rcases hp_195 with rfl | ⟨rfl, ha_196, ha_197, ha_198, ha_199⟩
            · skip
              refine lv_goto (pc := 64) (tgt := 71) E.1 E.2.1 dX12_readSteps_64 (by decide) ?_
              refine lv_istore_n (pc := 71) (lv' := [(1, .int (-1)), (0, .ref M)]) E.1 E.2.1 dX12_readSteps_71 rfl hl21 (by decide) rfl (fun ls hl200 => ?_)
              refine lv_iload_n (pc := 72) E.1 E.2.1 dX12_readSteps_72 rfl (lv_at hl200 0 rfl) ?_
              refine lv_iconst (pc := 73) (v := (-1)) E.1 E.2.1 dX12_readSteps_73 (by decide +kernel) ?_
              refine lv_icmp_ne (pc := 74) (tgt := 79) E.1 E.2.1 dX12_readSteps_74 (by decide) (fun c_201 => absurd (meqE (a := (-1)) (b := (-1)) (by decide +kernel) (by decide +kernel) (by decide +kernel)) c_201) (fun _ => ?_)
              refine lv_iconst (pc := 77) (v := (-1)) E.1 E.2.1 dX12_readSteps_77 (by decide +kernel) ?_
              exact em_i (w1 := (fun (u : Int32 × Int32 × Int32 × Int32 × Int32 × Int32 × (Nat → Int32) × (Nat → Int32) × Int32 × Int32) => (MW cI cJ M mr (upd (upd (upd (upd (upd (upd (upd (upd mi 22 u.1) 23 u.2.1) 24 u.2.2.1) 25 u.2.2.2.1) 38 u.2.2.2.2.1) 39 u.2.2.2.2.2.1) 48 u.2.2.2.2.2.2.2.2.1) 35 u.2.2.2.2.2.2.2.2.2) (va_up (va_up mf 46 u.2.2.2.2.2.2.1) 47 u.2.2.2.2.2.2.2.1) mg))) E hr hlk (nspot_174, nfrom_175, ntoken_176, nvalue_177, nreadFault_178, nreadPlace_179, gstepOp_180, gstepHow_181, nsteps_182, nopen_183) hw184 ⟨hp_185, hp_186, hp_187, hp_188, hp_189, hp_190, hp_193, (fun h => absurd h (by decide +kernel)), (Or.inl rfl)⟩ (Nat.le_of_ble_eq_true rfl) (Nat.le_of_ble_eq_true rfl) dX12_readSteps_78
            · skip
              have hp_194 := hp_194 rfl
              have ha_196 : x_7.toInt + 5 ≤ nfrom_175.toInt := ha_196
              have ha_197 : nsteps_182.toInt = x_12.toInt + 1 := ha_197
              have ha_198 : nopen_183.toInt = x_13.toInt + 1 := ha_198
              have ha_199 : nopen_183.toInt ≤ 4 := ha_199
              refine lv_goto (pc := 64) (tgt := 71) E.1 E.2.1 dX12_readSteps_64 (by decide) ?_
              refine lv_istore_n (pc := 71) (lv' := [(1, .int 0), (0, .ref M)]) E.1 E.2.1 dX12_readSteps_71 rfl hl21 (by decide) rfl (fun ls hl202 => ?_)
              refine lv_iload_n (pc := 72) E.1 E.2.1 dX12_readSteps_72 rfl (lv_at hl202 0 rfl) ?_
              refine lv_iconst (pc := 73) (v := (-1)) E.1 E.2.1 dX12_readSteps_73 (by decide +kernel) ?_
              refine lv_icmp_ne (pc := 74) (tgt := 79) E.1 E.2.1 dX12_readSteps_74 (by decide) (fun _ => ?_) (fun c_203 => absurd c_203 (mneE (a := 0) (b := (-1)) (by decide +kernel) (by decide +kernel) (by decide +kernel)))
              refine lv_goto (pc := 79) (tgt := 5) E.1 E.2.1 dX12_readSteps_79 (by decide) ?_
              exact ih_16 nspot_174 nfrom_175 ntoken_176 nvalue_177 nreadFault_178 nreadPlace_179 nsteps_182 nopen_183 gstepOp_180 gstepHow_181 _ _ _ ⟨hp_185, hp_186, hp_187, hp_188, hp_189, hp_190, (ax73r33f_2 ha_197 hi_15_6), (ax73r33f_7 ha_196 ha_197 ha_198 hi_15_7), (ax73r33f_8 hp_191 hi_15_8), hp_192, (RSP_n (hp_194 _ (by omega) hi_15_10) rfl (by omega)), (show AGN ntoken_176.toInt nvalue_177.toInt nfrom_175.toInt nspot_174.toInt from hp_193)⟩ (by omega) hw184 (lv_sub hl202 [1] rfl)
          · skip
            have ha_168 : ¬ x_8.toInt = 2 := ha_168
            refine lv_if_eq (pc := 57) (tgt := 67) E.1 E.2.1 dX12_readSteps_57 (by decide) (fun _ => ?_) (fun c_204 => absurd (meqE (a := 0) (b := 0) (by decide +kernel) (by decide +kernel) (by decide +kernel)) c_204)
            have hD : 1 ≤ x_13.toInt ∧ 1 ≤ x_8.toInt := by have q := hj_19_0; unfold RSD at q; omega
            refine lv_aload_n (pc := 67) E.1 E.2.1 dX12_readSteps_67 rfl (lv_at hl21 0 rfl) ?_
            refine cm_i (pc := 68) hw164 (rn_M (As := []) (rest := []) E hw164 (s_readAgainEnd l D cI cJ _ M mr (upd (upd (upd (upd (upd (upd (upd (upd mi 22 x_6) 23 x_7) 24 x_8) 25 x_9) 35 x_13) 38 x_10) 39 x_11) 48 x_12) (va_up (va_up mf 46 g_14) 47 g_15) mg hi_15_0 hi_15_1 hi_15_2 h3 hi_15_3 hi_15_4 hi_15_5 h7 h8 hi_15_6 (ax73r33f_0 hi_15_7 hi_15_8) (by show 1 ≤ x_8.toInt; omega) (by show 1 ≤ x_13.toInt ∧ x_13.toInt ≤ 4; omega) (show (∀ j : Nat, j < 154 → (mf 26) j = w0 j) from lf_words) (show AGN x_8.toInt x_9.toInt x_7.toInt x_6.toInt from hj_19_1)) (gdV q_1754 q_1756 q_74 q_162 q_1757) hdV_X12_readAgainEnd ⟨rfl, rfl⟩ ⟨(Nat.le_of_ble_eq_true rfl), (Nat.le_of_ble_eq_true rfl)⟩ ⟨(Nat.le_of_ble_eq_true rfl), (Nat.le_of_ble_eq_true rfl)⟩ 12 rfl rfl rfl rfl hl21.1 rfl (Nat.le_of_ble_eq_true rfl) dX12_readSteps_68) (fun r_206 u_205 H1 locs hp hw207 => ?_)
            obtain ⟨nspot_208, nfrom_209, ntoken_210, nvalue_211, nreadFault_212, nreadPlace_213, gstepOp_214, gstepHow_215, nsteps_216, nopen_217⟩ := u_205
            generalize H1 = H at hw207 ⊢
            have hw218 : WD D A s.heap (MW cI cJ M mr (upd (upd (upd (upd (upd (upd (upd (upd mi 22 nspot_208) 23 nfrom_209) 24 ntoken_210) 25 nvalue_211) 35 nopen_217) 38 nreadFault_212) 39 nreadPlace_213) 48 nsteps_216) (va_up (va_up mf 46 gstepOp_214) 47 gstepHow_215) mg) H locs := hw207
            obtain ⟨hp_219, hp_220, hp_221, hp_222, hp_223, hp_224, hp_225, hp_226, hp_227⟩ := hp
            have hp_219 : 0 ≤ nfrom_209.toInt := hp_219
            have hp_220 : nfrom_209.toInt ≤ nspot_208.toInt := hp_220
            have hp_221 : nspot_208.toInt ≤ (mi 21).toInt := hp_221
            have hp_222 : 0 ≤ ntoken_210.toInt := hp_222
            have hp_223 : ntoken_210.toInt ≤ 4 := hp_223
            have hp_224 : ntoken_210.toInt ≤ 4 * nspot_208.toInt - 4 * nfrom_209.toInt := hp_224
            have hp_225 : AGN ntoken_210.toInt nvalue_211.toInt nfrom_209.toInt nspot_208.toInt := hp_225
            have hp_226 : r_206 = 0 → (∀ t : Nat, RSP g_14 g_15 (mi 6).toInt ((x_12.toInt).toNat) (t + 1) → RSP gstepOp_214 gstepHow_215 (mi 6).toInt ((nsteps_216.toInt).toNat) t) := hp_226
            rcases hp_227 with ⟨rfl, ha_228, ha_229, ha_230⟩
            · skip
              have hp_226 := hp_226 rfl
              have ha_228 : x_7.toInt + 1 ≤ nfrom_209.toInt := ha_228
              have ha_229 : nsteps_216.toInt = x_12.toInt + 1 := ha_229
              have ha_230 : nopen_217.toInt = x_13.toInt - 1 := ha_230
              refine lv_istore_n (pc := 71) (lv' := [(1, .int 0), (0, .ref M)]) E.1 E.2.1 dX12_readSteps_71 rfl hl21 (by decide) rfl (fun ls hl231 => ?_)
              refine lv_iload_n (pc := 72) E.1 E.2.1 dX12_readSteps_72 rfl (lv_at hl231 0 rfl) ?_
              refine lv_iconst (pc := 73) (v := (-1)) E.1 E.2.1 dX12_readSteps_73 (by decide +kernel) ?_
              refine lv_icmp_ne (pc := 74) (tgt := 79) E.1 E.2.1 dX12_readSteps_74 (by decide) (fun _ => ?_) (fun c_232 => absurd c_232 (mneE (a := 0) (b := (-1)) (by decide +kernel) (by decide +kernel) (by decide +kernel)))
              refine lv_goto (pc := 79) (tgt := 5) E.1 E.2.1 dX12_readSteps_79 (by decide) ?_
              exact ih_16 nspot_208 nfrom_209 ntoken_210 nvalue_211 nreadFault_212 nreadPlace_213 nsteps_216 nopen_217 gstepOp_214 gstepHow_215 _ _ _ ⟨hp_219, hp_220, hp_221, hp_222, hp_223, hp_224, (ax73r33f_2 ha_229 hi_15_6), (ax73r33f_4 ha_228 ha_229 ha_230 hi_15_7), (by show 0 ≤ nopen_217.toInt; omega), (ax73r33f_5 ha_230 hi_15_9), (hp_226 _ (RSP_n hi_15_10 rfl (by omega))), (show AGN ntoken_210.toInt nvalue_211.toInt nfrom_209.toInt nspot_208.toInt from hp_225)⟩ (by omega) hw218 (lv_sub hl231 [1] rfl)
          · skip
            have ha_169 : ¬ x_9.toInt = (30 : Int32).toInt := ha_169
            rw [show (30 : Int32).toInt = 30 from by decide +kernel] at ha_169
            refine lv_if_eq (pc := 57) (tgt := 67) E.1 E.2.1 dX12_readSteps_57 (by decide) (fun _ => ?_) (fun c_233 => absurd (meqE (a := 0) (b := 0) (by decide +kernel) (by decide +kernel) (by decide +kernel)) c_233)
            have hD : 1 ≤ x_13.toInt ∧ 1 ≤ x_8.toInt := by have q := hj_19_0; unfold RSD at q; omega
            refine lv_aload_n (pc := 67) E.1 E.2.1 dX12_readSteps_67 rfl (lv_at hl21 0 rfl) ?_
            refine cm_i (pc := 68) hw164 (rn_M (As := []) (rest := []) E hw164 (s_readAgainEnd l D cI cJ _ M mr (upd (upd (upd (upd (upd (upd (upd (upd mi 22 x_6) 23 x_7) 24 x_8) 25 x_9) 35 x_13) 38 x_10) 39 x_11) 48 x_12) (va_up (va_up mf 46 g_14) 47 g_15) mg hi_15_0 hi_15_1 hi_15_2 h3 hi_15_3 hi_15_4 hi_15_5 h7 h8 hi_15_6 (ax73r33f_0 hi_15_7 hi_15_8) (by show 1 ≤ x_8.toInt; omega) (by show 1 ≤ x_13.toInt ∧ x_13.toInt ≤ 4; omega) (show (∀ j : Nat, j < 154 → (mf 26) j = w0 j) from lf_words) (show AGN x_8.toInt x_9.toInt x_7.toInt x_6.toInt from hj_19_1)) (gdV q_1754 q_1756 q_74 q_162 q_1757) hdV_X12_readAgainEnd ⟨rfl, rfl⟩ ⟨(Nat.le_of_ble_eq_true rfl), (Nat.le_of_ble_eq_true rfl)⟩ ⟨(Nat.le_of_ble_eq_true rfl), (Nat.le_of_ble_eq_true rfl)⟩ 12 rfl rfl rfl rfl hl21.1 rfl (Nat.le_of_ble_eq_true rfl) dX12_readSteps_68) (fun r_235 u_234 H1 locs hp hw236 => ?_)
            obtain ⟨nspot_237, nfrom_238, ntoken_239, nvalue_240, nreadFault_241, nreadPlace_242, gstepOp_243, gstepHow_244, nsteps_245, nopen_246⟩ := u_234
            generalize H1 = H at hw236 ⊢
            have hw247 : WD D A s.heap (MW cI cJ M mr (upd (upd (upd (upd (upd (upd (upd (upd mi 22 nspot_237) 23 nfrom_238) 24 ntoken_239) 25 nvalue_240) 35 nopen_246) 38 nreadFault_241) 39 nreadPlace_242) 48 nsteps_245) (va_up (va_up mf 46 gstepOp_243) 47 gstepHow_244) mg) H locs := hw236
            obtain ⟨hp_248, hp_249, hp_250, hp_251, hp_252, hp_253, hp_254, hp_255, hp_256⟩ := hp
            have hp_248 : 0 ≤ nfrom_238.toInt := hp_248
            have hp_249 : nfrom_238.toInt ≤ nspot_237.toInt := hp_249
            have hp_250 : nspot_237.toInt ≤ (mi 21).toInt := hp_250
            have hp_251 : 0 ≤ ntoken_239.toInt := hp_251
            have hp_252 : ntoken_239.toInt ≤ 4 := hp_252
            have hp_253 : ntoken_239.toInt ≤ 4 * nspot_237.toInt - 4 * nfrom_238.toInt := hp_253
            have hp_254 : AGN ntoken_239.toInt nvalue_240.toInt nfrom_238.toInt nspot_237.toInt := hp_254
            have hp_255 : r_235 = 0 → (∀ t : Nat, RSP g_14 g_15 (mi 6).toInt ((x_12.toInt).toNat) (t + 1) → RSP gstepOp_243 gstepHow_244 (mi 6).toInt ((nsteps_245.toInt).toNat) t) := hp_255
            rcases hp_256 with ⟨rfl, ha_257, ha_258, ha_259⟩
            · skip
              have hp_255 := hp_255 rfl
              have ha_257 : x_7.toInt + 1 ≤ nfrom_238.toInt := ha_257
              have ha_258 : nsteps_245.toInt = x_12.toInt + 1 := ha_258
              have ha_259 : nopen_246.toInt = x_13.toInt - 1 := ha_259
              refine lv_istore_n (pc := 71) (lv' := [(1, .int 0), (0, .ref M)]) E.1 E.2.1 dX12_readSteps_71 rfl hl21 (by decide) rfl (fun ls hl260 => ?_)
              refine lv_iload_n (pc := 72) E.1 E.2.1 dX12_readSteps_72 rfl (lv_at hl260 0 rfl) ?_
              refine lv_iconst (pc := 73) (v := (-1)) E.1 E.2.1 dX12_readSteps_73 (by decide +kernel) ?_
              refine lv_icmp_ne (pc := 74) (tgt := 79) E.1 E.2.1 dX12_readSteps_74 (by decide) (fun _ => ?_) (fun c_261 => absurd c_261 (mneE (a := 0) (b := (-1)) (by decide +kernel) (by decide +kernel) (by decide +kernel)))
              refine lv_goto (pc := 79) (tgt := 5) E.1 E.2.1 dX12_readSteps_79 (by decide) ?_
              exact ih_16 nspot_237 nfrom_238 ntoken_239 nvalue_240 nreadFault_241 nreadPlace_242 nsteps_245 nopen_246 gstepOp_243 gstepHow_244 _ _ _ ⟨hp_248, hp_249, hp_250, hp_251, hp_252, hp_253, (ax73r33f_2 ha_258 hi_15_6), (ax73r33f_4 ha_257 ha_258 ha_259 hi_15_7), (by show 0 ≤ nopen_246.toInt; omega), (ax73r33f_5 ha_259 hi_15_9), (hp_255 _ (RSP_n hi_15_10 rfl (by omega))), (show AGN ntoken_239.toInt nvalue_240.toInt nfrom_238.toInt nspot_237.toInt from hp_254)⟩ (by omega) hw247 (lv_sub hl260 [1] rfl)
      refine lv_aload_n (pc := 5) E.1 E.2.1 dX12_readSteps_5 rfl (lv_at hl18 0 rfl) ?_
      refine cm_i (pc := 6) hw17 (rn_M (As := []) (rest := []) E hw17 (s_isStep l D cI cJ _ M mr (upd (upd (upd (upd (upd (upd (upd (upd mi 22 x_6) 23 x_7) 24 x_8) 25 x_9) 35 x_13) 38 x_10) 39 x_11) 48 x_12) (va_up (va_up mf 46 g_14) 47 g_15) mg ) (gdV q_1738 q_1740 q_70 q_162 q_1741) hdV_X12_isStep ⟨rfl, rfl⟩ ⟨(Nat.le_of_ble_eq_true rfl), (Nat.le_of_ble_eq_true rfl)⟩ ⟨(Nat.le_of_ble_eq_true rfl), (Nat.le_of_ble_eq_true rfl)⟩ 12 rfl rfl rfl rfl hl18.1 rfl (Nat.le_of_ble_eq_true rfl) dX12_readSteps_6) (fun r_263 u_262 H1 locs hp hw264 => ?_)
      generalize H1 = H at hw264 ⊢
      have hw265 : WD D A s.heap (MW cI cJ M mr (upd (upd (upd (upd (upd (upd (upd (upd mi 22 x_6) 23 x_7) 24 x_8) 25 x_9) 35 x_13) 38 x_10) 39 x_11) 48 x_12) (va_up (va_up mf 46 g_14) 47 g_15) mg) H locs := hw264
      have hp_266 := hp
      rcases hp_266 with ⟨rfl, ha_267, ha_268⟩ | ⟨rfl, ha_269, ha_270⟩ | ⟨rfl, ha_271⟩ | ⟨rfl, ha_272, ha_273⟩
      · skip
        have ha_267 : x_8.toInt = 2 := ha_267
        have ha_268 : x_9.toInt = 28 := ha_268
        refine lv_if_ne (pc := 9) (tgt := 37) E.1 E.2.1 dX12_readSteps_9 (by decide) (fun _ => ?_) (fun c_274 => absurd c_274 (mneE (a := 1) (b := 0) (by decide +kernel) (by decide +kernel) (by decide +kernel)))
        exact join_19  _ _ _ ⟨(by unfold RSD; omega), (show AGN x_8.toInt x_9.toInt x_7.toInt x_6.toInt from hi_15_11)⟩ hw265 (lv_sub hl18 [0] rfl)
      · skip
        have ha_269 : x_8.toInt = 2 := ha_269
        have ha_270 : x_9.toInt = 29 := ha_270
        refine lv_if_ne (pc := 9) (tgt := 37) E.1 E.2.1 dX12_readSteps_9 (by decide) (fun _ => ?_) (fun c_275 => absurd c_275 (mneE (a := 1) (b := 0) (by decide +kernel) (by decide +kernel) (by decide +kernel)))
        exact join_19  _ _ _ ⟨(by unfold RSD; omega), (show AGN x_8.toInt x_9.toInt x_7.toInt x_6.toInt from hi_15_11)⟩ hw265 (lv_sub hl18 [0] rfl)
      · skip
        have ha_271 : ¬ x_8.toInt = 2 := ha_271
        refine lv_if_ne (pc := 9) (tgt := 37) E.1 E.2.1 dX12_readSteps_9 (by decide) (fun c_276 => absurd (meqE (a := 0) (b := 0) (by decide +kernel) (by decide +kernel) (by decide +kernel)) c_276) (fun _ => ?_)
        refine lv_aload_n (pc := 12) E.1 E.2.1 dX12_readSteps_12 rfl (lv_at hl18 0 rfl) ?_
        refine lv_bipush (pc := 13) (v := 30) E.1 E.2.1 dX12_readSteps_13 (by decide +kernel) ?_
        refine cm_i (pc := 15) hw265 (rn_M (As := [.int 30]) (rest := []) E hw265 (s_isWord3 l D cI cJ _ M mr (upd (upd (upd (upd (upd (upd (upd (upd mi 22 x_6) 23 x_7) 24 x_8) 25 x_9) 35 x_13) 38 x_10) 39 x_11) 48 x_12) (va_up (va_up mf 46 g_14) 47 g_15) mg 30) (gdV q_1694 q_1696 q_59 q_162 q_1697) hdV_X12_isWord ⟨rfl, rfl⟩ ⟨(Nat.le_of_ble_eq_true rfl), (Nat.le_of_ble_eq_true rfl)⟩ ⟨(Nat.le_of_ble_eq_true rfl), (Nat.le_of_ble_eq_true rfl)⟩ 12 rfl rfl rfl rfl hl18.1 rfl (Nat.le_of_ble_eq_true rfl) dX12_readSteps_15) (fun r_278 u_277 H1 locs hp hw279 => ?_)
        generalize H1 = H at hw279 ⊢
        have hw280 : WD D A s.heap (MW cI cJ M mr (upd (upd (upd (upd (upd (upd (upd (upd mi 22 x_6) 23 x_7) 24 x_8) 25 x_9) 35 x_13) 38 x_10) 39 x_11) 48 x_12) (va_up (va_up mf 46 g_14) 47 g_15) mg) H locs := hw279
        have hp_281 := hp
        rcases hp_281 with ⟨rfl, ha_282, ha_283⟩ | ⟨rfl, ha_284⟩ | ⟨rfl, ha_285⟩
        · skip
          have ha_282 : x_8.toInt = 2 := ha_282
          have ha_283 : x_9.toInt = (30 : Int32).toInt := ha_283
          rw [show (30 : Int32).toInt = 30 from by decide +kernel] at ha_283
          exfalso; omega
        · skip
          have ha_284 : ¬ x_8.toInt = 2 := ha_284
          refine lv_if_ne (pc := 18) (tgt := 37) E.1 E.2.1 dX12_readSteps_18 (by decide) (fun c_286 => absurd (meqE (a := 0) (b := 0) (by decide +kernel) (by decide +kernel) (by decide +kernel)) c_286) (fun _ => ?_)
          refine lv_aload_n (pc := 21) E.1 E.2.1 dX12_readSteps_21 rfl (lv_at hl18 0 rfl) ?_
          refine x_get (pc := 22) (T := TX12) (N := 70) (ci := 12) (v := .int x_13) E hw280 inX12 0 35 q_1434 rfl rfl (by decide) rfl rfl dX12_readSteps_22 ?_
          refine lv_if_le (pc := 25) (tgt := 82) E.1 E.2.1 dX12_readSteps_25 (by decide) (fun c_287 => ?_) (fun c_287 => ?_)
          · skip
            have hc_287 := leE (a := x_13.toInt) (b := 0) rfl (by decide +kernel) c_287
            refine lv_aload_n (pc := 82) E.1 E.2.1 dX12_readSteps_82 rfl (lv_at hl18 0 rfl) ?_
            refine x_get (pc := 83) (T := TX12) (N := 70) (ci := 12) (v := .int x_13) E hw280 inX12 0 35 q_1434 rfl rfl (by decide) rfl rfl dX12_readSteps_83 ?_
            refine lv_if_ne (pc := 86) (tgt := 100) E.1 E.2.1 dX12_readSteps_86 (by decide) (fun c_288 => absurd (meqE (a := x_13.toInt) (b := 0) rfl (by decide +kernel) (ax73r33f_9 hi_15_8 hc_287)) c_288) (fun _ => ?_)
            refine lv_aload_n (pc := 89) E.1 E.2.1 dX12_readSteps_89 rfl (lv_at hl18 0 rfl) ?_
            refine x_get (pc := 90) (T := TX12) (N := 70) (ci := 12) (v := .int x_8) E hw280 inX12 0 24 q_1423 rfl rfl (by decide) rfl rfl dX12_readSteps_90 ?_
            refine lv_if_ne (pc := 93) (tgt := 100) E.1 E.2.1 dX12_readSteps_93 (by decide) (fun c_289 => ?_) (fun c_289 => ?_)
            · skip
              have hc_289 := neE (a := x_8.toInt) (b := 0) rfl (by decide +kernel) c_289
              refine lv_aload_n (pc := 100) E.1 E.2.1 dX12_readSteps_100 rfl (lv_at hl18 0 rfl) ?_
              refine lv_iconst (pc := 101) (v := 1) E.1 E.2.1 dX12_readSteps_101 (by decide +kernel) ?_
              refine cm_i (pc := 102) hw280 (rn_M (As := [.int 1]) (rest := []) E hw280 (s_errs2 l D cI cJ _ M mr (upd (upd (upd (upd (upd (upd (upd (upd mi 22 x_6) 23 x_7) 24 x_8) 25 x_9) 35 x_13) 38 x_10) 39 x_11) 48 x_12) (va_up (va_up mf 46 g_14) 47 g_15) mg 1) (gdV q_1698 q_1700 q_60 q_162 q_1701) hdV_X12_errs ⟨rfl, rfl⟩ ⟨(Nat.le_of_ble_eq_true rfl), (Nat.le_of_ble_eq_true rfl)⟩ ⟨(Nat.le_of_ble_eq_true rfl), (Nat.le_of_ble_eq_true rfl)⟩ 12 rfl rfl rfl rfl hl18.1 rfl (Nat.le_of_ble_eq_true rfl) dX12_readSteps_102) (fun r_291 u_290 H1 locs hp hw292 => ?_)
              obtain ⟨nreadFault_293, nreadPlace_294⟩ := u_290
              generalize H1 = H at hw292 ⊢
              have hw295 : WD D A s.heap (MW cI cJ M mr (upd (upd (upd (upd (upd (upd (upd (upd mi 22 x_6) 23 x_7) 24 x_8) 25 x_9) 35 x_13) 38 nreadFault_293) 39 nreadPlace_294) 48 x_12) (va_up (va_up mf 46 g_14) 47 g_15) mg) H locs := hw292
              have hp_296 := hp
              rcases hp_296 with rfl
              · skip
                exact em_i (w1 := (fun (u : Int32 × Int32 × Int32 × Int32 × Int32 × Int32 × (Nat → Int32) × (Nat → Int32) × Int32 × Int32) => (MW cI cJ M mr (upd (upd (upd (upd (upd (upd (upd (upd mi 22 u.1) 23 u.2.1) 24 u.2.2.1) 25 u.2.2.2.1) 38 u.2.2.2.2.1) 39 u.2.2.2.2.2.1) 48 u.2.2.2.2.2.2.2.2.1) 35 u.2.2.2.2.2.2.2.2.2) (va_up (va_up mf 46 u.2.2.2.2.2.2.1) 47 u.2.2.2.2.2.2.2.1) mg))) E hr hlk (x_6, x_7, x_8, x_9, nreadFault_293, nreadPlace_294, g_14, g_15, x_12, x_13) hw295 ⟨hi_15_0, hi_15_1, hi_15_2, hi_15_3, hi_15_4, hi_15_5, hi_15_11, (fun h => absurd h (by decide +kernel)), (Or.inl rfl)⟩ (Nat.le_of_ble_eq_true rfl) (Nat.le_of_ble_eq_true rfl) dX12_readSteps_105
            · skip
              have hc_289 := eqE (a := x_8.toInt) (b := 0) rfl (by decide +kernel) c_289
              refine lv_iconst (pc := 96) (v := 0) E.1 E.2.1 dX12_readSteps_96 (by decide +kernel) ?_
              refine lv_goto (pc := 97) (tgt := 105) E.1 E.2.1 dX12_readSteps_97 (by decide) ?_
              exact em_i (w1 := (fun (u : Int32 × Int32 × Int32 × Int32 × Int32 × Int32 × (Nat → Int32) × (Nat → Int32) × Int32 × Int32) => (MW cI cJ M mr (upd (upd (upd (upd (upd (upd (upd (upd mi 22 u.1) 23 u.2.1) 24 u.2.2.1) 25 u.2.2.2.1) 38 u.2.2.2.2.1) 39 u.2.2.2.2.2.1) 48 u.2.2.2.2.2.2.2.2.1) 35 u.2.2.2.2.2.2.2.2.2) (va_up (va_up mf 46 u.2.2.2.2.2.2.1) 47 u.2.2.2.2.2.2.2.1) mg))) E hr hlk (x_6, x_7, x_8, x_9, x_10, x_11, g_14, g_15, x_12, x_13) hw280 ⟨hi_15_0, hi_15_1, hi_15_2, hi_15_3, hi_15_4, hi_15_5, hi_15_11, (fun _ => (show (∃ t : Nat, RSP g_14 g_15 (mi 6).toInt ((x_12.toInt).toNat) t) from ⟨_, hi_15_10⟩)), (Or.inr (⟨rfl, hi_15_6, (ax73r33f_10 hi_15_7 hi_15_1 hi_15_8 hi_15_2 h3)⟩))⟩ (Nat.le_of_ble_eq_true rfl) (Nat.le_of_ble_eq_true rfl) dX12_readSteps_105
          · skip
            have hc_287 := nleE (a := x_13.toInt) (b := 0) rfl (by decide +kernel) c_287
            refine lv_aload_n (pc := 28) E.1 E.2.1 dX12_readSteps_28 rfl (lv_at hl18 0 rfl) ?_
            refine lv_bipush (pc := 29) (v := 41) E.1 E.2.1 dX12_readSteps_29 (by decide +kernel) ?_
            refine cm_i (pc := 31) hw280 (rn_M (As := [.int 41]) (rest := []) E hw280 (s_isSign3 l D cI cJ _ M mr (upd (upd (upd (upd (upd (upd (upd (upd mi 22 x_6) 23 x_7) 24 x_8) 25 x_9) 35 x_13) 38 x_10) 39 x_11) 48 x_12) (va_up (va_up mf 46 g_14) 47 g_15) mg 41) (gdV q_1718 q_1720 q_65 q_162 q_1721) hdV_X12_isSign ⟨rfl, rfl⟩ ⟨(Nat.le_of_ble_eq_true rfl), (Nat.le_of_ble_eq_true rfl)⟩ ⟨(Nat.le_of_ble_eq_true rfl), (Nat.le_of_ble_eq_true rfl)⟩ 12 rfl rfl rfl rfl hl18.1 rfl (Nat.le_of_ble_eq_true rfl) dX12_readSteps_31) (fun r_298 u_297 H1 locs hp hw299 => ?_)
            generalize H1 = H at hw299 ⊢
            have hw300 : WD D A s.heap (MW cI cJ M mr (upd (upd (upd (upd (upd (upd (upd (upd mi 22 x_6) 23 x_7) 24 x_8) 25 x_9) 35 x_13) 38 x_10) 39 x_11) 48 x_12) (va_up (va_up mf 46 g_14) 47 g_15) mg) H locs := hw299
            have hp_301 := hp
            rcases hp_301 with ⟨rfl, ha_302, ha_303⟩ | ⟨rfl, ha_304⟩ | ⟨rfl, ha_305⟩
            · skip
              have ha_302 : x_8.toInt = 4 := ha_302
              have ha_303 : x_9.toInt = (41 : Int32).toInt := ha_303
              rw [show (41 : Int32).toInt = 41 from by decide +kernel] at ha_303
              refine lv_if_eq (pc := 34) (tgt := 82) E.1 E.2.1 dX12_readSteps_34 (by decide) (fun c_306 => absurd c_306 (mneE (a := 1) (b := 0) (by decide +kernel) (by decide +kernel) (by decide +kernel))) (fun _ => ?_)
              exact join_19  _ _ _ ⟨(by unfold RSD; omega), (show AGN x_8.toInt x_9.toInt x_7.toInt x_6.toInt from hi_15_11)⟩ hw300 (lv_sub hl18 [0] rfl)
            · skip
              have ha_304 : ¬ x_8.toInt = 4 := ha_304
              refine lv_if_eq (pc := 34) (tgt := 82) E.1 E.2.1 dX12_readSteps_34 (by decide) (fun _ => ?_) (fun c_307 => absurd (meqE (a := 0) (b := 0) (by decide +kernel) (by decide +kernel) (by decide +kernel)) c_307)
              refine lv_aload_n (pc := 82) E.1 E.2.1 dX12_readSteps_82 rfl (lv_at hl18 0 rfl) ?_
              refine x_get (pc := 83) (T := TX12) (N := 70) (ci := 12) (v := .int x_13) E hw300 inX12 0 35 q_1434 rfl rfl (by decide) rfl rfl dX12_readSteps_83 ?_
              refine lv_if_ne (pc := 86) (tgt := 100) E.1 E.2.1 dX12_readSteps_86 (by decide) (fun _ => ?_) (fun c_308 => absurd c_308 (mneE (a := x_13.toInt) (b := 0) rfl (by decide +kernel) (ax73r33f_11 hc_287)))
              refine lv_aload_n (pc := 100) E.1 E.2.1 dX12_readSteps_100 rfl (lv_at hl18 0 rfl) ?_
              refine lv_iconst (pc := 101) (v := 1) E.1 E.2.1 dX12_readSteps_101 (by decide +kernel) ?_
              refine cm_i (pc := 102) hw300 (rn_M (As := [.int 1]) (rest := []) E hw300 (s_errs2 l D cI cJ _ M mr (upd (upd (upd (upd (upd (upd (upd (upd mi 22 x_6) 23 x_7) 24 x_8) 25 x_9) 35 x_13) 38 x_10) 39 x_11) 48 x_12) (va_up (va_up mf 46 g_14) 47 g_15) mg 1) (gdV q_1698 q_1700 q_60 q_162 q_1701) hdV_X12_errs ⟨rfl, rfl⟩ ⟨(Nat.le_of_ble_eq_true rfl), (Nat.le_of_ble_eq_true rfl)⟩ ⟨(Nat.le_of_ble_eq_true rfl), (Nat.le_of_ble_eq_true rfl)⟩ 12 rfl rfl rfl rfl hl18.1 rfl (Nat.le_of_ble_eq_true rfl) dX12_readSteps_102) (fun r_310 u_309 H1 locs hp hw311 => ?_)
              obtain ⟨nreadFault_312, nreadPlace_313⟩ := u_309
              generalize H1 = H at hw311 ⊢
              have hw314 : WD D A s.heap (MW cI cJ M mr (upd (upd (upd (upd (upd (upd (upd (upd mi 22 x_6) 23 x_7) 24 x_8) 25 x_9) 35 x_13) 38 nreadFault_312) 39 nreadPlace_313) 48 x_12) (va_up (va_up mf 46 g_14) 47 g_15) mg) H locs := hw311
              have hp_315 := hp
              rcases hp_315 with rfl
              · skip
                exact em_i (w1 := (fun (u : Int32 × Int32 × Int32 × Int32 × Int32 × Int32 × (Nat → Int32) × (Nat → Int32) × Int32 × Int32) => (MW cI cJ M mr (upd (upd (upd (upd (upd (upd (upd (upd mi 22 u.1) 23 u.2.1) 24 u.2.2.1) 25 u.2.2.2.1) 38 u.2.2.2.2.1) 39 u.2.2.2.2.2.1) 48 u.2.2.2.2.2.2.2.2.1) 35 u.2.2.2.2.2.2.2.2.2) (va_up (va_up mf 46 u.2.2.2.2.2.2.1) 47 u.2.2.2.2.2.2.2.1) mg))) E hr hlk (x_6, x_7, x_8, x_9, nreadFault_312, nreadPlace_313, g_14, g_15, x_12, x_13) hw314 ⟨hi_15_0, hi_15_1, hi_15_2, hi_15_3, hi_15_4, hi_15_5, hi_15_11, (fun h => absurd h (by decide +kernel)), (Or.inl rfl)⟩ (Nat.le_of_ble_eq_true rfl) (Nat.le_of_ble_eq_true rfl) dX12_readSteps_105
            · skip
              have ha_305 : ¬ x_9.toInt = (41 : Int32).toInt := ha_305
              rw [show (41 : Int32).toInt = 41 from by decide +kernel] at ha_305
              refine lv_if_eq (pc := 34) (tgt := 82) E.1 E.2.1 dX12_readSteps_34 (by decide) (fun _ => ?_) (fun c_316 => absurd (meqE (a := 0) (b := 0) (by decide +kernel) (by decide +kernel) (by decide +kernel)) c_316)
              refine lv_aload_n (pc := 82) E.1 E.2.1 dX12_readSteps_82 rfl (lv_at hl18 0 rfl) ?_
              refine x_get (pc := 83) (T := TX12) (N := 70) (ci := 12) (v := .int x_13) E hw300 inX12 0 35 q_1434 rfl rfl (by decide) rfl rfl dX12_readSteps_83 ?_
              refine lv_if_ne (pc := 86) (tgt := 100) E.1 E.2.1 dX12_readSteps_86 (by decide) (fun _ => ?_) (fun c_317 => absurd c_317 (mneE (a := x_13.toInt) (b := 0) rfl (by decide +kernel) (ax73r33f_11 hc_287)))
              refine lv_aload_n (pc := 100) E.1 E.2.1 dX12_readSteps_100 rfl (lv_at hl18 0 rfl) ?_
              refine lv_iconst (pc := 101) (v := 1) E.1 E.2.1 dX12_readSteps_101 (by decide +kernel) ?_
              refine cm_i (pc := 102) hw300 (rn_M (As := [.int 1]) (rest := []) E hw300 (s_errs2 l D cI cJ _ M mr (upd (upd (upd (upd (upd (upd (upd (upd mi 22 x_6) 23 x_7) 24 x_8) 25 x_9) 35 x_13) 38 x_10) 39 x_11) 48 x_12) (va_up (va_up mf 46 g_14) 47 g_15) mg 1) (gdV q_1698 q_1700 q_60 q_162 q_1701) hdV_X12_errs ⟨rfl, rfl⟩ ⟨(Nat.le_of_ble_eq_true rfl), (Nat.le_of_ble_eq_true rfl)⟩ ⟨(Nat.le_of_ble_eq_true rfl), (Nat.le_of_ble_eq_true rfl)⟩ 12 rfl rfl rfl rfl hl18.1 rfl (Nat.le_of_ble_eq_true rfl) dX12_readSteps_102) (fun r_319 u_318 H1 locs hp hw320 => ?_)
              obtain ⟨nreadFault_321, nreadPlace_322⟩ := u_318
              generalize H1 = H at hw320 ⊢
              have hw323 : WD D A s.heap (MW cI cJ M mr (upd (upd (upd (upd (upd (upd (upd (upd mi 22 x_6) 23 x_7) 24 x_8) 25 x_9) 35 x_13) 38 nreadFault_321) 39 nreadPlace_322) 48 x_12) (va_up (va_up mf 46 g_14) 47 g_15) mg) H locs := hw320
              have hp_324 := hp
              rcases hp_324 with rfl
              · skip
                exact em_i (w1 := (fun (u : Int32 × Int32 × Int32 × Int32 × Int32 × Int32 × (Nat → Int32) × (Nat → Int32) × Int32 × Int32) => (MW cI cJ M mr (upd (upd (upd (upd (upd (upd (upd (upd mi 22 u.1) 23 u.2.1) 24 u.2.2.1) 25 u.2.2.2.1) 38 u.2.2.2.2.1) 39 u.2.2.2.2.2.1) 48 u.2.2.2.2.2.2.2.2.1) 35 u.2.2.2.2.2.2.2.2.2) (va_up (va_up mf 46 u.2.2.2.2.2.2.1) 47 u.2.2.2.2.2.2.2.1) mg))) E hr hlk (x_6, x_7, x_8, x_9, nreadFault_321, nreadPlace_322, g_14, g_15, x_12, x_13) hw323 ⟨hi_15_0, hi_15_1, hi_15_2, hi_15_3, hi_15_4, hi_15_5, hi_15_11, (fun h => absurd h (by decide +kernel)), (Or.inl rfl)⟩ (Nat.le_of_ble_eq_true rfl) (Nat.le_of_ble_eq_true rfl) dX12_readSteps_105
        · skip
          have ha_285 : ¬ x_9.toInt = (30 : Int32).toInt := ha_285
          rw [show (30 : Int32).toInt = 30 from by decide +kernel] at ha_285
          refine lv_if_ne (pc := 18) (tgt := 37) E.1 E.2.1 dX12_readSteps_18 (by decide) (fun c_325 => absurd (meqE (a := 0) (b := 0) (by decide +kernel) (by decide +kernel) (by decide +kernel)) c_325) (fun _ => ?_)
          refine lv_aload_n (pc := 21) E.1 E.2.1 dX12_readSteps_21 rfl (lv_at hl18 0 rfl) ?_
          refine x_get (pc := 22) (T := TX12) (N := 70) (ci := 12) (v := .int x_13) E hw280 inX12 0 35 q_1434 rfl rfl (by decide) rfl rfl dX12_readSteps_22 ?_
          refine lv_if_le (pc := 25) (tgt := 82) E.1 E.2.1 dX12_readSteps_25 (by decide) (fun c_326 => ?_) (fun c_326 => ?_)
          · skip
            have hc_326 := leE (a := x_13.toInt) (b := 0) rfl (by decide +kernel) c_326
            refine lv_aload_n (pc := 82) E.1 E.2.1 dX12_readSteps_82 rfl (lv_at hl18 0 rfl) ?_
            refine x_get (pc := 83) (T := TX12) (N := 70) (ci := 12) (v := .int x_13) E hw280 inX12 0 35 q_1434 rfl rfl (by decide) rfl rfl dX12_readSteps_83 ?_
            refine lv_if_ne (pc := 86) (tgt := 100) E.1 E.2.1 dX12_readSteps_86 (by decide) (fun c_327 => absurd (meqE (a := x_13.toInt) (b := 0) rfl (by decide +kernel) (ax73r33f_9 hi_15_8 hc_326)) c_327) (fun _ => ?_)
            refine lv_aload_n (pc := 89) E.1 E.2.1 dX12_readSteps_89 rfl (lv_at hl18 0 rfl) ?_
            refine x_get (pc := 90) (T := TX12) (N := 70) (ci := 12) (v := .int x_8) E hw280 inX12 0 24 q_1423 rfl rfl (by decide) rfl rfl dX12_readSteps_90 ?_
            refine lv_if_ne (pc := 93) (tgt := 100) E.1 E.2.1 dX12_readSteps_93 (by decide) (fun c_328 => ?_) (fun c_328 => ?_)
            · skip
              have hc_328 := neE (a := x_8.toInt) (b := 0) rfl (by decide +kernel) c_328
              refine lv_aload_n (pc := 100) E.1 E.2.1 dX12_readSteps_100 rfl (lv_at hl18 0 rfl) ?_
              refine lv_iconst (pc := 101) (v := 1) E.1 E.2.1 dX12_readSteps_101 (by decide +kernel) ?_
              refine cm_i (pc := 102) hw280 (rn_M (As := [.int 1]) (rest := []) E hw280 (s_errs2 l D cI cJ _ M mr (upd (upd (upd (upd (upd (upd (upd (upd mi 22 x_6) 23 x_7) 24 x_8) 25 x_9) 35 x_13) 38 x_10) 39 x_11) 48 x_12) (va_up (va_up mf 46 g_14) 47 g_15) mg 1) (gdV q_1698 q_1700 q_60 q_162 q_1701) hdV_X12_errs ⟨rfl, rfl⟩ ⟨(Nat.le_of_ble_eq_true rfl), (Nat.le_of_ble_eq_true rfl)⟩ ⟨(Nat.le_of_ble_eq_true rfl), (Nat.le_of_ble_eq_true rfl)⟩ 12 rfl rfl rfl rfl hl18.1 rfl (Nat.le_of_ble_eq_true rfl) dX12_readSteps_102) (fun r_330 u_329 H1 locs hp hw331 => ?_)
              obtain ⟨nreadFault_332, nreadPlace_333⟩ := u_329
              generalize H1 = H at hw331 ⊢
              have hw334 : WD D A s.heap (MW cI cJ M mr (upd (upd (upd (upd (upd (upd (upd (upd mi 22 x_6) 23 x_7) 24 x_8) 25 x_9) 35 x_13) 38 nreadFault_332) 39 nreadPlace_333) 48 x_12) (va_up (va_up mf 46 g_14) 47 g_15) mg) H locs := hw331
              have hp_335 := hp
              rcases hp_335 with rfl
              · skip
                exact em_i (w1 := (fun (u : Int32 × Int32 × Int32 × Int32 × Int32 × Int32 × (Nat → Int32) × (Nat → Int32) × Int32 × Int32) => (MW cI cJ M mr (upd (upd (upd (upd (upd (upd (upd (upd mi 22 u.1) 23 u.2.1) 24 u.2.2.1) 25 u.2.2.2.1) 38 u.2.2.2.2.1) 39 u.2.2.2.2.2.1) 48 u.2.2.2.2.2.2.2.2.1) 35 u.2.2.2.2.2.2.2.2.2) (va_up (va_up mf 46 u.2.2.2.2.2.2.1) 47 u.2.2.2.2.2.2.2.1) mg))) E hr hlk (x_6, x_7, x_8, x_9, nreadFault_332, nreadPlace_333, g_14, g_15, x_12, x_13) hw334 ⟨hi_15_0, hi_15_1, hi_15_2, hi_15_3, hi_15_4, hi_15_5, hi_15_11, (fun h => absurd h (by decide +kernel)), (Or.inl rfl)⟩ (Nat.le_of_ble_eq_true rfl) (Nat.le_of_ble_eq_true rfl) dX12_readSteps_105
            · skip
              have hc_328 := eqE (a := x_8.toInt) (b := 0) rfl (by decide +kernel) c_328
              refine lv_iconst (pc := 96) (v := 0) E.1 E.2.1 dX12_readSteps_96 (by decide +kernel) ?_
              refine lv_goto (pc := 97) (tgt := 105) E.1 E.2.1 dX12_readSteps_97 (by decide) ?_
              exact em_i (w1 := (fun (u : Int32 × Int32 × Int32 × Int32 × Int32 × Int32 × (Nat → Int32) × (Nat → Int32) × Int32 × Int32) => (MW cI cJ M mr (upd (upd (upd (upd (upd (upd (upd (upd mi 22 u.1) 23 u.2.1) 24 u.2.2.1) 25 u.2.2.2.1) 38 u.2.2.2.2.1) 39 u.2.2.2.2.2.1) 48 u.2.2.2.2.2.2.2.2.1) 35 u.2.2.2.2.2.2.2.2.2) (va_up (va_up mf 46 u.2.2.2.2.2.2.1) 47 u.2.2.2.2.2.2.2.1) mg))) E hr hlk (x_6, x_7, x_8, x_9, x_10, x_11, g_14, g_15, x_12, x_13) hw280 ⟨hi_15_0, hi_15_1, hi_15_2, hi_15_3, hi_15_4, hi_15_5, hi_15_11, (fun _ => (show (∃ t : Nat, RSP g_14 g_15 (mi 6).toInt ((x_12.toInt).toNat) t) from ⟨_, hi_15_10⟩)), (Or.inr (⟨rfl, hi_15_6, (ax73r33f_10 hi_15_7 hi_15_1 hi_15_8 hi_15_2 h3)⟩))⟩ (Nat.le_of_ble_eq_true rfl) (Nat.le_of_ble_eq_true rfl) dX12_readSteps_105
          · skip
            have hc_326 := nleE (a := x_13.toInt) (b := 0) rfl (by decide +kernel) c_326
            refine lv_aload_n (pc := 28) E.1 E.2.1 dX12_readSteps_28 rfl (lv_at hl18 0 rfl) ?_
            refine lv_bipush (pc := 29) (v := 41) E.1 E.2.1 dX12_readSteps_29 (by decide +kernel) ?_
            refine cm_i (pc := 31) hw280 (rn_M (As := [.int 41]) (rest := []) E hw280 (s_isSign3 l D cI cJ _ M mr (upd (upd (upd (upd (upd (upd (upd (upd mi 22 x_6) 23 x_7) 24 x_8) 25 x_9) 35 x_13) 38 x_10) 39 x_11) 48 x_12) (va_up (va_up mf 46 g_14) 47 g_15) mg 41) (gdV q_1718 q_1720 q_65 q_162 q_1721) hdV_X12_isSign ⟨rfl, rfl⟩ ⟨(Nat.le_of_ble_eq_true rfl), (Nat.le_of_ble_eq_true rfl)⟩ ⟨(Nat.le_of_ble_eq_true rfl), (Nat.le_of_ble_eq_true rfl)⟩ 12 rfl rfl rfl rfl hl18.1 rfl (Nat.le_of_ble_eq_true rfl) dX12_readSteps_31) (fun r_337 u_336 H1 locs hp hw338 => ?_)
            generalize H1 = H at hw338 ⊢
            have hw339 : WD D A s.heap (MW cI cJ M mr (upd (upd (upd (upd (upd (upd (upd (upd mi 22 x_6) 23 x_7) 24 x_8) 25 x_9) 35 x_13) 38 x_10) 39 x_11) 48 x_12) (va_up (va_up mf 46 g_14) 47 g_15) mg) H locs := hw338
            have hp_340 := hp
            rcases hp_340 with ⟨rfl, ha_341, ha_342⟩ | ⟨rfl, ha_343⟩ | ⟨rfl, ha_344⟩
            · skip
              have ha_341 : x_8.toInt = 4 := ha_341
              have ha_342 : x_9.toInt = (41 : Int32).toInt := ha_342
              rw [show (41 : Int32).toInt = 41 from by decide +kernel] at ha_342
              refine lv_if_eq (pc := 34) (tgt := 82) E.1 E.2.1 dX12_readSteps_34 (by decide) (fun c_345 => absurd c_345 (mneE (a := 1) (b := 0) (by decide +kernel) (by decide +kernel) (by decide +kernel))) (fun _ => ?_)
              exact join_19  _ _ _ ⟨(by unfold RSD; omega), (show AGN x_8.toInt x_9.toInt x_7.toInt x_6.toInt from hi_15_11)⟩ hw339 (lv_sub hl18 [0] rfl)
            · skip
              have ha_343 : ¬ x_8.toInt = 4 := ha_343
              refine lv_if_eq (pc := 34) (tgt := 82) E.1 E.2.1 dX12_readSteps_34 (by decide) (fun _ => ?_) (fun c_346 => absurd (meqE (a := 0) (b := 0) (by decide +kernel) (by decide +kernel) (by decide +kernel)) c_346)
              refine lv_aload_n (pc := 82) E.1 E.2.1 dX12_readSteps_82 rfl (lv_at hl18 0 rfl) ?_
              refine x_get (pc := 83) (T := TX12) (N := 70) (ci := 12) (v := .int x_13) E hw339 inX12 0 35 q_1434 rfl rfl (by decide) rfl rfl dX12_readSteps_83 ?_
              refine lv_if_ne (pc := 86) (tgt := 100) E.1 E.2.1 dX12_readSteps_86 (by decide) (fun _ => ?_) (fun c_347 => absurd c_347 (mneE (a := x_13.toInt) (b := 0) rfl (by decide +kernel) (ax73r33f_11 hc_326)))
              refine lv_aload_n (pc := 100) E.1 E.2.1 dX12_readSteps_100 rfl (lv_at hl18 0 rfl) ?_
              refine lv_iconst (pc := 101) (v := 1) E.1 E.2.1 dX12_readSteps_101 (by decide +kernel) ?_
              refine cm_i (pc := 102) hw339 (rn_M (As := [.int 1]) (rest := []) E hw339 (s_errs2 l D cI cJ _ M mr (upd (upd (upd (upd (upd (upd (upd (upd mi 22 x_6) 23 x_7) 24 x_8) 25 x_9) 35 x_13) 38 x_10) 39 x_11) 48 x_12) (va_up (va_up mf 46 g_14) 47 g_15) mg 1) (gdV q_1698 q_1700 q_60 q_162 q_1701) hdV_X12_errs ⟨rfl, rfl⟩ ⟨(Nat.le_of_ble_eq_true rfl), (Nat.le_of_ble_eq_true rfl)⟩ ⟨(Nat.le_of_ble_eq_true rfl), (Nat.le_of_ble_eq_true rfl)⟩ 12 rfl rfl rfl rfl hl18.1 rfl (Nat.le_of_ble_eq_true rfl) dX12_readSteps_102) (fun r_349 u_348 H1 locs hp hw350 => ?_)
              obtain ⟨nreadFault_351, nreadPlace_352⟩ := u_348
              generalize H1 = H at hw350 ⊢
              have hw353 : WD D A s.heap (MW cI cJ M mr (upd (upd (upd (upd (upd (upd (upd (upd mi 22 x_6) 23 x_7) 24 x_8) 25 x_9) 35 x_13) 38 nreadFault_351) 39 nreadPlace_352) 48 x_12) (va_up (va_up mf 46 g_14) 47 g_15) mg) H locs := hw350
              have hp_354 := hp
              rcases hp_354 with rfl
              · skip
                exact em_i (w1 := (fun (u : Int32 × Int32 × Int32 × Int32 × Int32 × Int32 × (Nat → Int32) × (Nat → Int32) × Int32 × Int32) => (MW cI cJ M mr (upd (upd (upd (upd (upd (upd (upd (upd mi 22 u.1) 23 u.2.1) 24 u.2.2.1) 25 u.2.2.2.1) 38 u.2.2.2.2.1) 39 u.2.2.2.2.2.1) 48 u.2.2.2.2.2.2.2.2.1) 35 u.2.2.2.2.2.2.2.2.2) (va_up (va_up mf 46 u.2.2.2.2.2.2.1) 47 u.2.2.2.2.2.2.2.1) mg))) E hr hlk (x_6, x_7, x_8, x_9, nreadFault_351, nreadPlace_352, g_14, g_15, x_12, x_13) hw353 ⟨hi_15_0, hi_15_1, hi_15_2, hi_15_3, hi_15_4, hi_15_5, hi_15_11, (fun h => absurd h (by decide +kernel)), (Or.inl rfl)⟩ (Nat.le_of_ble_eq_true rfl) (Nat.le_of_ble_eq_true rfl) dX12_readSteps_105
            · skip
              have ha_344 : ¬ x_9.toInt = (41 : Int32).toInt := ha_344
              rw [show (41 : Int32).toInt = 41 from by decide +kernel] at ha_344
              refine lv_if_eq (pc := 34) (tgt := 82) E.1 E.2.1 dX12_readSteps_34 (by decide) (fun _ => ?_) (fun c_355 => absurd (meqE (a := 0) (b := 0) (by decide +kernel) (by decide +kernel) (by decide +kernel)) c_355)
              refine lv_aload_n (pc := 82) E.1 E.2.1 dX12_readSteps_82 rfl (lv_at hl18 0 rfl) ?_
              refine x_get (pc := 83) (T := TX12) (N := 70) (ci := 12) (v := .int x_13) E hw339 inX12 0 35 q_1434 rfl rfl (by decide) rfl rfl dX12_readSteps_83 ?_
              refine lv_if_ne (pc := 86) (tgt := 100) E.1 E.2.1 dX12_readSteps_86 (by decide) (fun _ => ?_) (fun c_356 => absurd c_356 (mneE (a := x_13.toInt) (b := 0) rfl (by decide +kernel) (ax73r33f_11 hc_326)))
              refine lv_aload_n (pc := 100) E.1 E.2.1 dX12_readSteps_100 rfl (lv_at hl18 0 rfl) ?_
              refine lv_iconst (pc := 101) (v := 1) E.1 E.2.1 dX12_readSteps_101 (by decide +kernel) ?_
              refine cm_i (pc := 102) hw339 (rn_M (As := [.int 1]) (rest := []) E hw339 (s_errs2 l D cI cJ _ M mr (upd (upd (upd (upd (upd (upd (upd (upd mi 22 x_6) 23 x_7) 24 x_8) 25 x_9) 35 x_13) 38 x_10) 39 x_11) 48 x_12) (va_up (va_up mf 46 g_14) 47 g_15) mg 1) (gdV q_1698 q_1700 q_60 q_162 q_1701) hdV_X12_errs ⟨rfl, rfl⟩ ⟨(Nat.le_of_ble_eq_true rfl), (Nat.le_of_ble_eq_true rfl)⟩ ⟨(Nat.le_of_ble_eq_true rfl), (Nat.le_of_ble_eq_true rfl)⟩ 12 rfl rfl rfl rfl hl18.1 rfl (Nat.le_of_ble_eq_true rfl) dX12_readSteps_102) (fun r_358 u_357 H1 locs hp hw359 => ?_)
              obtain ⟨nreadFault_360, nreadPlace_361⟩ := u_357
              generalize H1 = H at hw359 ⊢
              have hw362 : WD D A s.heap (MW cI cJ M mr (upd (upd (upd (upd (upd (upd (upd (upd mi 22 x_6) 23 x_7) 24 x_8) 25 x_9) 35 x_13) 38 nreadFault_360) 39 nreadPlace_361) 48 x_12) (va_up (va_up mf 46 g_14) 47 g_15) mg) H locs := hw359
              have hp_363 := hp
              rcases hp_363 with rfl
              · skip
                exact em_i (w1 := (fun (u : Int32 × Int32 × Int32 × Int32 × Int32 × Int32 × (Nat → Int32) × (Nat → Int32) × Int32 × Int32) => (MW cI cJ M mr (upd (upd (upd (upd (upd (upd (upd (upd mi 22 u.1) 23 u.2.1) 24 u.2.2.1) 25 u.2.2.2.1) 38 u.2.2.2.2.1) 39 u.2.2.2.2.2.1) 48 u.2.2.2.2.2.2.2.2.1) 35 u.2.2.2.2.2.2.2.2.2) (va_up (va_up mf 46 u.2.2.2.2.2.2.1) 47 u.2.2.2.2.2.2.2.1) mg))) E hr hlk (x_6, x_7, x_8, x_9, nreadFault_360, nreadPlace_361, g_14, g_15, x_12, x_13) hw362 ⟨hi_15_0, hi_15_1, hi_15_2, hi_15_3, hi_15_4, hi_15_5, hi_15_11, (fun h => absurd h (by decide +kernel)), (Or.inl rfl)⟩ (Nat.le_of_ble_eq_true rfl) (Nat.le_of_ble_eq_true rfl) dX12_readSteps_105
      · skip
        have ha_272 : ¬ x_9.toInt = 28 := ha_272
        have ha_273 : ¬ x_9.toInt = 29 := ha_273
        refine lv_if_ne (pc := 9) (tgt := 37) E.1 E.2.1 dX12_readSteps_9 (by decide) (fun c_364 => absurd (meqE (a := 0) (b := 0) (by decide +kernel) (by decide +kernel) (by decide +kernel)) c_364) (fun _ => ?_)
        refine lv_aload_n (pc := 12) E.1 E.2.1 dX12_readSteps_12 rfl (lv_at hl18 0 rfl) ?_
        refine lv_bipush (pc := 13) (v := 30) E.1 E.2.1 dX12_readSteps_13 (by decide +kernel) ?_
        refine cm_i (pc := 15) hw265 (rn_M (As := [.int 30]) (rest := []) E hw265 (s_isWord3 l D cI cJ _ M mr (upd (upd (upd (upd (upd (upd (upd (upd mi 22 x_6) 23 x_7) 24 x_8) 25 x_9) 35 x_13) 38 x_10) 39 x_11) 48 x_12) (va_up (va_up mf 46 g_14) 47 g_15) mg 30) (gdV q_1694 q_1696 q_59 q_162 q_1697) hdV_X12_isWord ⟨rfl, rfl⟩ ⟨(Nat.le_of_ble_eq_true rfl), (Nat.le_of_ble_eq_true rfl)⟩ ⟨(Nat.le_of_ble_eq_true rfl), (Nat.le_of_ble_eq_true rfl)⟩ 12 rfl rfl rfl rfl hl18.1 rfl (Nat.le_of_ble_eq_true rfl) dX12_readSteps_15) (fun r_366 u_365 H1 locs hp hw367 => ?_)
        generalize H1 = H at hw367 ⊢
        have hw368 : WD D A s.heap (MW cI cJ M mr (upd (upd (upd (upd (upd (upd (upd (upd mi 22 x_6) 23 x_7) 24 x_8) 25 x_9) 35 x_13) 38 x_10) 39 x_11) 48 x_12) (va_up (va_up mf 46 g_14) 47 g_15) mg) H locs := hw367
        have hp_369 := hp
        rcases hp_369 with ⟨rfl, ha_370, ha_371⟩ | ⟨rfl, ha_372⟩ | ⟨rfl, ha_373⟩
        · skip
          have ha_370 : x_8.toInt = 2 := ha_370
          have ha_371 : x_9.toInt = (30 : Int32).toInt := ha_371
          rw [show (30 : Int32).toInt = 30 from by decide +kernel] at ha_371
          refine lv_if_ne (pc := 18) (tgt := 37) E.1 E.2.1 dX12_readSteps_18 (by decide) (fun _ => ?_) (fun c_374 => absurd c_374 (mneE (a := 1) (b := 0) (by decide +kernel) (by decide +kernel) (by decide +kernel)))
          exact join_19  _ _ _ ⟨(by unfold RSD; omega), (show AGN x_8.toInt x_9.toInt x_7.toInt x_6.toInt from hi_15_11)⟩ hw368 (lv_sub hl18 [0] rfl)
        · skip
          have ha_372 : ¬ x_8.toInt = 2 := ha_372
          refine lv_if_ne (pc := 18) (tgt := 37) E.1 E.2.1 dX12_readSteps_18 (by decide) (fun c_375 => absurd (meqE (a := 0) (b := 0) (by decide +kernel) (by decide +kernel) (by decide +kernel)) c_375) (fun _ => ?_)
          refine lv_aload_n (pc := 21) E.1 E.2.1 dX12_readSteps_21 rfl (lv_at hl18 0 rfl) ?_
          refine x_get (pc := 22) (T := TX12) (N := 70) (ci := 12) (v := .int x_13) E hw368 inX12 0 35 q_1434 rfl rfl (by decide) rfl rfl dX12_readSteps_22 ?_
          refine lv_if_le (pc := 25) (tgt := 82) E.1 E.2.1 dX12_readSteps_25 (by decide) (fun c_376 => ?_) (fun c_376 => ?_)
          · skip
            have hc_376 := leE (a := x_13.toInt) (b := 0) rfl (by decide +kernel) c_376
            refine lv_aload_n (pc := 82) E.1 E.2.1 dX12_readSteps_82 rfl (lv_at hl18 0 rfl) ?_
            refine x_get (pc := 83) (T := TX12) (N := 70) (ci := 12) (v := .int x_13) E hw368 inX12 0 35 q_1434 rfl rfl (by decide) rfl rfl dX12_readSteps_83 ?_
            refine lv_if_ne (pc := 86) (tgt := 100) E.1 E.2.1 dX12_readSteps_86 (by decide) (fun c_377 => absurd (meqE (a := x_13.toInt) (b := 0) rfl (by decide +kernel) (ax73r33f_9 hi_15_8 hc_376)) c_377) (fun _ => ?_)
            refine lv_aload_n (pc := 89) E.1 E.2.1 dX12_readSteps_89 rfl (lv_at hl18 0 rfl) ?_
            refine x_get (pc := 90) (T := TX12) (N := 70) (ci := 12) (v := .int x_8) E hw368 inX12 0 24 q_1423 rfl rfl (by decide) rfl rfl dX12_readSteps_90 ?_
            refine lv_if_ne (pc := 93) (tgt := 100) E.1 E.2.1 dX12_readSteps_93 (by decide) (fun c_378 => ?_) (fun c_378 => ?_)
            · skip
              have hc_378 := neE (a := x_8.toInt) (b := 0) rfl (by decide +kernel) c_378
              refine lv_aload_n (pc := 100) E.1 E.2.1 dX12_readSteps_100 rfl (lv_at hl18 0 rfl) ?_
              refine lv_iconst (pc := 101) (v := 1) E.1 E.2.1 dX12_readSteps_101 (by decide +kernel) ?_
              refine cm_i (pc := 102) hw368 (rn_M (As := [.int 1]) (rest := []) E hw368 (s_errs2 l D cI cJ _ M mr (upd (upd (upd (upd (upd (upd (upd (upd mi 22 x_6) 23 x_7) 24 x_8) 25 x_9) 35 x_13) 38 x_10) 39 x_11) 48 x_12) (va_up (va_up mf 46 g_14) 47 g_15) mg 1) (gdV q_1698 q_1700 q_60 q_162 q_1701) hdV_X12_errs ⟨rfl, rfl⟩ ⟨(Nat.le_of_ble_eq_true rfl), (Nat.le_of_ble_eq_true rfl)⟩ ⟨(Nat.le_of_ble_eq_true rfl), (Nat.le_of_ble_eq_true rfl)⟩ 12 rfl rfl rfl rfl hl18.1 rfl (Nat.le_of_ble_eq_true rfl) dX12_readSteps_102) (fun r_380 u_379 H1 locs hp hw381 => ?_)
              obtain ⟨nreadFault_382, nreadPlace_383⟩ := u_379
              generalize H1 = H at hw381 ⊢
              have hw384 : WD D A s.heap (MW cI cJ M mr (upd (upd (upd (upd (upd (upd (upd (upd mi 22 x_6) 23 x_7) 24 x_8) 25 x_9) 35 x_13) 38 nreadFault_382) 39 nreadPlace_383) 48 x_12) (va_up (va_up mf 46 g_14) 47 g_15) mg) H locs := hw381
              have hp_385 := hp
              rcases hp_385 with rfl
              · skip
                exact em_i (w1 := (fun (u : Int32 × Int32 × Int32 × Int32 × Int32 × Int32 × (Nat → Int32) × (Nat → Int32) × Int32 × Int32) => (MW cI cJ M mr (upd (upd (upd (upd (upd (upd (upd (upd mi 22 u.1) 23 u.2.1) 24 u.2.2.1) 25 u.2.2.2.1) 38 u.2.2.2.2.1) 39 u.2.2.2.2.2.1) 48 u.2.2.2.2.2.2.2.2.1) 35 u.2.2.2.2.2.2.2.2.2) (va_up (va_up mf 46 u.2.2.2.2.2.2.1) 47 u.2.2.2.2.2.2.2.1) mg))) E hr hlk (x_6, x_7, x_8, x_9, nreadFault_382, nreadPlace_383, g_14, g_15, x_12, x_13) hw384 ⟨hi_15_0, hi_15_1, hi_15_2, hi_15_3, hi_15_4, hi_15_5, hi_15_11, (fun h => absurd h (by decide +kernel)), (Or.inl rfl)⟩ (Nat.le_of_ble_eq_true rfl) (Nat.le_of_ble_eq_true rfl) dX12_readSteps_105
            · skip
              have hc_378 := eqE (a := x_8.toInt) (b := 0) rfl (by decide +kernel) c_378
              refine lv_iconst (pc := 96) (v := 0) E.1 E.2.1 dX12_readSteps_96 (by decide +kernel) ?_
              refine lv_goto (pc := 97) (tgt := 105) E.1 E.2.1 dX12_readSteps_97 (by decide) ?_
              exact em_i (w1 := (fun (u : Int32 × Int32 × Int32 × Int32 × Int32 × Int32 × (Nat → Int32) × (Nat → Int32) × Int32 × Int32) => (MW cI cJ M mr (upd (upd (upd (upd (upd (upd (upd (upd mi 22 u.1) 23 u.2.1) 24 u.2.2.1) 25 u.2.2.2.1) 38 u.2.2.2.2.1) 39 u.2.2.2.2.2.1) 48 u.2.2.2.2.2.2.2.2.1) 35 u.2.2.2.2.2.2.2.2.2) (va_up (va_up mf 46 u.2.2.2.2.2.2.1) 47 u.2.2.2.2.2.2.2.1) mg))) E hr hlk (x_6, x_7, x_8, x_9, x_10, x_11, g_14, g_15, x_12, x_13) hw368 ⟨hi_15_0, hi_15_1, hi_15_2, hi_15_3, hi_15_4, hi_15_5, hi_15_11, (fun _ => (show (∃ t : Nat, RSP g_14 g_15 (mi 6).toInt ((x_12.toInt).toNat) t) from ⟨_, hi_15_10⟩)), (Or.inr (⟨rfl, hi_15_6, (ax73r33f_10 hi_15_7 hi_15_1 hi_15_8 hi_15_2 h3)⟩))⟩ (Nat.le_of_ble_eq_true rfl) (Nat.le_of_ble_eq_true rfl) dX12_readSteps_105
          · skip
            have hc_376 := nleE (a := x_13.toInt) (b := 0) rfl (by decide +kernel) c_376
            refine lv_aload_n (pc := 28) E.1 E.2.1 dX12_readSteps_28 rfl (lv_at hl18 0 rfl) ?_
            refine lv_bipush (pc := 29) (v := 41) E.1 E.2.1 dX12_readSteps_29 (by decide +kernel) ?_
            refine cm_i (pc := 31) hw368 (rn_M (As := [.int 41]) (rest := []) E hw368 (s_isSign3 l D cI cJ _ M mr (upd (upd (upd (upd (upd (upd (upd (upd mi 22 x_6) 23 x_7) 24 x_8) 25 x_9) 35 x_13) 38 x_10) 39 x_11) 48 x_12) (va_up (va_up mf 46 g_14) 47 g_15) mg 41) (gdV q_1718 q_1720 q_65 q_162 q_1721) hdV_X12_isSign ⟨rfl, rfl⟩ ⟨(Nat.le_of_ble_eq_true rfl), (Nat.le_of_ble_eq_true rfl)⟩ ⟨(Nat.le_of_ble_eq_true rfl), (Nat.le_of_ble_eq_true rfl)⟩ 12 rfl rfl rfl rfl hl18.1 rfl (Nat.le_of_ble_eq_true rfl) dX12_readSteps_31) (fun r_387 u_386 H1 locs hp hw388 => ?_)
            generalize H1 = H at hw388 ⊢
            have hw389 : WD D A s.heap (MW cI cJ M mr (upd (upd (upd (upd (upd (upd (upd (upd mi 22 x_6) 23 x_7) 24 x_8) 25 x_9) 35 x_13) 38 x_10) 39 x_11) 48 x_12) (va_up (va_up mf 46 g_14) 47 g_15) mg) H locs := hw388
            have hp_390 := hp
            rcases hp_390 with ⟨rfl, ha_391, ha_392⟩ | ⟨rfl, ha_393⟩ | ⟨rfl, ha_394⟩
            · skip
              have ha_391 : x_8.toInt = 4 := ha_391
              have ha_392 : x_9.toInt = (41 : Int32).toInt := ha_392
              rw [show (41 : Int32).toInt = 41 from by decide +kernel] at ha_392
              refine lv_if_eq (pc := 34) (tgt := 82) E.1 E.2.1 dX12_readSteps_34 (by decide) (fun c_395 => absurd c_395 (mneE (a := 1) (b := 0) (by decide +kernel) (by decide +kernel) (by decide +kernel))) (fun _ => ?_)
              exact join_19  _ _ _ ⟨(by unfold RSD; omega), (show AGN x_8.toInt x_9.toInt x_7.toInt x_6.toInt from hi_15_11)⟩ hw389 (lv_sub hl18 [0] rfl)
            · skip
              have ha_393 : ¬ x_8.toInt = 4 := ha_393
              refine lv_if_eq (pc := 34) (tgt := 82) E.1 E.2.1 dX12_readSteps_34 (by decide) (fun _ => ?_) (fun c_396 => absurd (meqE (a := 0) (b := 0) (by decide +kernel) (by decide +kernel) (by decide +kernel)) c_396)
              refine lv_aload_n (pc := 82) E.1 E.2.1 dX12_readSteps_82 rfl (lv_at hl18 0 rfl) ?_
              refine x_get (pc := 83) (T := TX12) (N := 70) (ci := 12) (v := .int x_13) E hw389 inX12 0 35 q_1434 rfl rfl (by decide) rfl rfl dX12_readSteps_83 ?_
              refine lv_if_ne (pc := 86) (tgt := 100) E.1 E.2.1 dX12_readSteps_86 (by decide) (fun _ => ?_) (fun c_397 => absurd c_397 (mneE (a := x_13.toInt) (b := 0) rfl (by decide +kernel) (ax73r33f_11 hc_376)))
              refine lv_aload_n (pc := 100) E.1 E.2.1 dX12_readSteps_100 rfl (lv_at hl18 0 rfl) ?_
              refine lv_iconst (pc := 101) (v := 1) E.1 E.2.1 dX12_readSteps_101 (by decide +kernel) ?_
              refine cm_i (pc := 102) hw389 (rn_M (As := [.int 1]) (rest := []) E hw389 (s_errs2 l D cI cJ _ M mr (upd (upd (upd (upd (upd (upd (upd (upd mi 22 x_6) 23 x_7) 24 x_8) 25 x_9) 35 x_13) 38 x_10) 39 x_11) 48 x_12) (va_up (va_up mf 46 g_14) 47 g_15) mg 1) (gdV q_1698 q_1700 q_60 q_162 q_1701) hdV_X12_errs ⟨rfl, rfl⟩ ⟨(Nat.le_of_ble_eq_true rfl), (Nat.le_of_ble_eq_true rfl)⟩ ⟨(Nat.le_of_ble_eq_true rfl), (Nat.le_of_ble_eq_true rfl)⟩ 12 rfl rfl rfl rfl hl18.1 rfl (Nat.le_of_ble_eq_true rfl) dX12_readSteps_102) (fun r_399 u_398 H1 locs hp hw400 => ?_)
              obtain ⟨nreadFault_401, nreadPlace_402⟩ := u_398
              generalize H1 = H at hw400 ⊢
              have hw403 : WD D A s.heap (MW cI cJ M mr (upd (upd (upd (upd (upd (upd (upd (upd mi 22 x_6) 23 x_7) 24 x_8) 25 x_9) 35 x_13) 38 nreadFault_401) 39 nreadPlace_402) 48 x_12) (va_up (va_up mf 46 g_14) 47 g_15) mg) H locs := hw400
              have hp_404 := hp
              rcases hp_404 with rfl
              · skip
                exact em_i (w1 := (fun (u : Int32 × Int32 × Int32 × Int32 × Int32 × Int32 × (Nat → Int32) × (Nat → Int32) × Int32 × Int32) => (MW cI cJ M mr (upd (upd (upd (upd (upd (upd (upd (upd mi 22 u.1) 23 u.2.1) 24 u.2.2.1) 25 u.2.2.2.1) 38 u.2.2.2.2.1) 39 u.2.2.2.2.2.1) 48 u.2.2.2.2.2.2.2.2.1) 35 u.2.2.2.2.2.2.2.2.2) (va_up (va_up mf 46 u.2.2.2.2.2.2.1) 47 u.2.2.2.2.2.2.2.1) mg))) E hr hlk (x_6, x_7, x_8, x_9, nreadFault_401, nreadPlace_402, g_14, g_15, x_12, x_13) hw403 ⟨hi_15_0, hi_15_1, hi_15_2, hi_15_3, hi_15_4, hi_15_5, hi_15_11, (fun h => absurd h (by decide +kernel)), (Or.inl rfl)⟩ (Nat.le_of_ble_eq_true rfl) (Nat.le_of_ble_eq_true rfl) dX12_readSteps_105
            · skip
              have ha_394 : ¬ x_9.toInt = (41 : Int32).toInt := ha_394
              rw [show (41 : Int32).toInt = 41 from by decide +kernel] at ha_394
              refine lv_if_eq (pc := 34) (tgt := 82) E.1 E.2.1 dX12_readSteps_34 (by decide) (fun _ => ?_) (fun c_405 => absurd (meqE (a := 0) (b := 0) (by decide +kernel) (by decide +kernel) (by decide +kernel)) c_405)
              refine lv_aload_n (pc := 82) E.1 E.2.1 dX12_readSteps_82 rfl (lv_at hl18 0 rfl) ?_
              refine x_get (pc := 83) (T := TX12) (N := 70) (ci := 12) (v := .int x_13) E hw389 inX12 0 35 q_1434 rfl rfl (by decide) rfl rfl dX12_readSteps_83 ?_
              refine lv_if_ne (pc := 86) (tgt := 100) E.1 E.2.1 dX12_readSteps_86 (by decide) (fun _ => ?_) (fun c_406 => absurd c_406 (mneE (a := x_13.toInt) (b := 0) rfl (by decide +kernel) (ax73r33f_11 hc_376)))
              refine lv_aload_n (pc := 100) E.1 E.2.1 dX12_readSteps_100 rfl (lv_at hl18 0 rfl) ?_
              refine lv_iconst (pc := 101) (v := 1) E.1 E.2.1 dX12_readSteps_101 (by decide +kernel) ?_
              refine cm_i (pc := 102) hw389 (rn_M (As := [.int 1]) (rest := []) E hw389 (s_errs2 l D cI cJ _ M mr (upd (upd (upd (upd (upd (upd (upd (upd mi 22 x_6) 23 x_7) 24 x_8) 25 x_9) 35 x_13) 38 x_10) 39 x_11) 48 x_12) (va_up (va_up mf 46 g_14) 47 g_15) mg 1) (gdV q_1698 q_1700 q_60 q_162 q_1701) hdV_X12_errs ⟨rfl, rfl⟩ ⟨(Nat.le_of_ble_eq_true rfl), (Nat.le_of_ble_eq_true rfl)⟩ ⟨(Nat.le_of_ble_eq_true rfl), (Nat.le_of_ble_eq_true rfl)⟩ 12 rfl rfl rfl rfl hl18.1 rfl (Nat.le_of_ble_eq_true rfl) dX12_readSteps_102) (fun r_408 u_407 H1 locs hp hw409 => ?_)
              obtain ⟨nreadFault_410, nreadPlace_411⟩ := u_407
              generalize H1 = H at hw409 ⊢
              have hw412 : WD D A s.heap (MW cI cJ M mr (upd (upd (upd (upd (upd (upd (upd (upd mi 22 x_6) 23 x_7) 24 x_8) 25 x_9) 35 x_13) 38 nreadFault_410) 39 nreadPlace_411) 48 x_12) (va_up (va_up mf 46 g_14) 47 g_15) mg) H locs := hw409
              have hp_413 := hp
              rcases hp_413 with rfl
              · skip
                exact em_i (w1 := (fun (u : Int32 × Int32 × Int32 × Int32 × Int32 × Int32 × (Nat → Int32) × (Nat → Int32) × Int32 × Int32) => (MW cI cJ M mr (upd (upd (upd (upd (upd (upd (upd (upd mi 22 u.1) 23 u.2.1) 24 u.2.2.1) 25 u.2.2.2.1) 38 u.2.2.2.2.1) 39 u.2.2.2.2.2.1) 48 u.2.2.2.2.2.2.2.2.1) 35 u.2.2.2.2.2.2.2.2.2) (va_up (va_up mf 46 u.2.2.2.2.2.2.1) 47 u.2.2.2.2.2.2.2.1) mg))) E hr hlk (x_6, x_7, x_8, x_9, nreadFault_410, nreadPlace_411, g_14, g_15, x_12, x_13) hw412 ⟨hi_15_0, hi_15_1, hi_15_2, hi_15_3, hi_15_4, hi_15_5, hi_15_11, (fun h => absurd h (by decide +kernel)), (Or.inl rfl)⟩ (Nat.le_of_ble_eq_true rfl) (Nat.le_of_ble_eq_true rfl) dX12_readSteps_105
        · skip
          have ha_373 : ¬ x_9.toInt = (30 : Int32).toInt := ha_373
          rw [show (30 : Int32).toInt = 30 from by decide +kernel] at ha_373
          refine lv_if_ne (pc := 18) (tgt := 37) E.1 E.2.1 dX12_readSteps_18 (by decide) (fun c_414 => absurd (meqE (a := 0) (b := 0) (by decide +kernel) (by decide +kernel) (by decide +kernel)) c_414) (fun _ => ?_)
          refine lv_aload_n (pc := 21) E.1 E.2.1 dX12_readSteps_21 rfl (lv_at hl18 0 rfl) ?_
          refine x_get (pc := 22) (T := TX12) (N := 70) (ci := 12) (v := .int x_13) E hw368 inX12 0 35 q_1434 rfl rfl (by decide) rfl rfl dX12_readSteps_22 ?_
          refine lv_if_le (pc := 25) (tgt := 82) E.1 E.2.1 dX12_readSteps_25 (by decide) (fun c_415 => ?_) (fun c_415 => ?_)
          · skip
            have hc_415 := leE (a := x_13.toInt) (b := 0) rfl (by decide +kernel) c_415
            refine lv_aload_n (pc := 82) E.1 E.2.1 dX12_readSteps_82 rfl (lv_at hl18 0 rfl) ?_
            refine x_get (pc := 83) (T := TX12) (N := 70) (ci := 12) (v := .int x_13) E hw368 inX12 0 35 q_1434 rfl rfl (by decide) rfl rfl dX12_readSteps_83 ?_
            refine lv_if_ne (pc := 86) (tgt := 100) E.1 E.2.1 dX12_readSteps_86 (by decide) (fun c_416 => absurd (meqE (a := x_13.toInt) (b := 0) rfl (by decide +kernel) (ax73r33f_9 hi_15_8 hc_415)) c_416) (fun _ => ?_)
            refine lv_aload_n (pc := 89) E.1 E.2.1 dX12_readSteps_89 rfl (lv_at hl18 0 rfl) ?_
            refine x_get (pc := 90) (T := TX12) (N := 70) (ci := 12) (v := .int x_8) E hw368 inX12 0 24 q_1423 rfl rfl (by decide) rfl rfl dX12_readSteps_90 ?_
            refine lv_if_ne (pc := 93) (tgt := 100) E.1 E.2.1 dX12_readSteps_93 (by decide) (fun c_417 => ?_) (fun c_417 => ?_)
            · skip
              have hc_417 := neE (a := x_8.toInt) (b := 0) rfl (by decide +kernel) c_417
              refine lv_aload_n (pc := 100) E.1 E.2.1 dX12_readSteps_100 rfl (lv_at hl18 0 rfl) ?_
              refine lv_iconst (pc := 101) (v := 1) E.1 E.2.1 dX12_readSteps_101 (by decide +kernel) ?_
              refine cm_i (pc := 102) hw368 (rn_M (As := [.int 1]) (rest := []) E hw368 (s_errs2 l D cI cJ _ M mr (upd (upd (upd (upd (upd (upd (upd (upd mi 22 x_6) 23 x_7) 24 x_8) 25 x_9) 35 x_13) 38 x_10) 39 x_11) 48 x_12) (va_up (va_up mf 46 g_14) 47 g_15) mg 1) (gdV q_1698 q_1700 q_60 q_162 q_1701) hdV_X12_errs ⟨rfl, rfl⟩ ⟨(Nat.le_of_ble_eq_true rfl), (Nat.le_of_ble_eq_true rfl)⟩ ⟨(Nat.le_of_ble_eq_true rfl), (Nat.le_of_ble_eq_true rfl)⟩ 12 rfl rfl rfl rfl hl18.1 rfl (Nat.le_of_ble_eq_true rfl) dX12_readSteps_102) (fun r_419 u_418 H1 locs hp hw420 => ?_)
              obtain ⟨nreadFault_421, nreadPlace_422⟩ := u_418
              generalize H1 = H at hw420 ⊢
              have hw423 : WD D A s.heap (MW cI cJ M mr (upd (upd (upd (upd (upd (upd (upd (upd mi 22 x_6) 23 x_7) 24 x_8) 25 x_9) 35 x_13) 38 nreadFault_421) 39 nreadPlace_422) 48 x_12) (va_up (va_up mf 46 g_14) 47 g_15) mg) H locs := hw420
              have hp_424 := hp
              rcases hp_424 with rfl
              · skip
                exact em_i (w1 := (fun (u : Int32 × Int32 × Int32 × Int32 × Int32 × Int32 × (Nat → Int32) × (Nat → Int32) × Int32 × Int32) => (MW cI cJ M mr (upd (upd (upd (upd (upd (upd (upd (upd mi 22 u.1) 23 u.2.1) 24 u.2.2.1) 25 u.2.2.2.1) 38 u.2.2.2.2.1) 39 u.2.2.2.2.2.1) 48 u.2.2.2.2.2.2.2.2.1) 35 u.2.2.2.2.2.2.2.2.2) (va_up (va_up mf 46 u.2.2.2.2.2.2.1) 47 u.2.2.2.2.2.2.2.1) mg))) E hr hlk (x_6, x_7, x_8, x_9, nreadFault_421, nreadPlace_422, g_14, g_15, x_12, x_13) hw423 ⟨hi_15_0, hi_15_1, hi_15_2, hi_15_3, hi_15_4, hi_15_5, hi_15_11, (fun h => absurd h (by decide +kernel)), (Or.inl rfl)⟩ (Nat.le_of_ble_eq_true rfl) (Nat.le_of_ble_eq_true rfl) dX12_readSteps_105
            · skip
              have hc_417 := eqE (a := x_8.toInt) (b := 0) rfl (by decide +kernel) c_417
              refine lv_iconst (pc := 96) (v := 0) E.1 E.2.1 dX12_readSteps_96 (by decide +kernel) ?_
              refine lv_goto (pc := 97) (tgt := 105) E.1 E.2.1 dX12_readSteps_97 (by decide) ?_
              exact em_i (w1 := (fun (u : Int32 × Int32 × Int32 × Int32 × Int32 × Int32 × (Nat → Int32) × (Nat → Int32) × Int32 × Int32) => (MW cI cJ M mr (upd (upd (upd (upd (upd (upd (upd (upd mi 22 u.1) 23 u.2.1) 24 u.2.2.1) 25 u.2.2.2.1) 38 u.2.2.2.2.1) 39 u.2.2.2.2.2.1) 48 u.2.2.2.2.2.2.2.2.1) 35 u.2.2.2.2.2.2.2.2.2) (va_up (va_up mf 46 u.2.2.2.2.2.2.1) 47 u.2.2.2.2.2.2.2.1) mg))) E hr hlk (x_6, x_7, x_8, x_9, x_10, x_11, g_14, g_15, x_12, x_13) hw368 ⟨hi_15_0, hi_15_1, hi_15_2, hi_15_3, hi_15_4, hi_15_5, hi_15_11, (fun _ => (show (∃ t : Nat, RSP g_14 g_15 (mi 6).toInt ((x_12.toInt).toNat) t) from ⟨_, hi_15_10⟩)), (Or.inr (⟨rfl, hi_15_6, (ax73r33f_10 hi_15_7 hi_15_1 hi_15_8 hi_15_2 h3)⟩))⟩ (Nat.le_of_ble_eq_true rfl) (Nat.le_of_ble_eq_true rfl) dX12_readSteps_105
          · skip
            have hc_415 := nleE (a := x_13.toInt) (b := 0) rfl (by decide +kernel) c_415
            refine lv_aload_n (pc := 28) E.1 E.2.1 dX12_readSteps_28 rfl (lv_at hl18 0 rfl) ?_
            refine lv_bipush (pc := 29) (v := 41) E.1 E.2.1 dX12_readSteps_29 (by decide +kernel) ?_
            refine cm_i (pc := 31) hw368 (rn_M (As := [.int 41]) (rest := []) E hw368 (s_isSign3 l D cI cJ _ M mr (upd (upd (upd (upd (upd (upd (upd (upd mi 22 x_6) 23 x_7) 24 x_8) 25 x_9) 35 x_13) 38 x_10) 39 x_11) 48 x_12) (va_up (va_up mf 46 g_14) 47 g_15) mg 41) (gdV q_1718 q_1720 q_65 q_162 q_1721) hdV_X12_isSign ⟨rfl, rfl⟩ ⟨(Nat.le_of_ble_eq_true rfl), (Nat.le_of_ble_eq_true rfl)⟩ ⟨(Nat.le_of_ble_eq_true rfl), (Nat.le_of_ble_eq_true rfl)⟩ 12 rfl rfl rfl rfl hl18.1 rfl (Nat.le_of_ble_eq_true rfl) dX12_readSteps_31) (fun r_426 u_425 H1 locs hp hw427 => ?_)
            generalize H1 = H at hw427 ⊢
            have hw428 : WD D A s.heap (MW cI cJ M mr (upd (upd (upd (upd (upd (upd (upd (upd mi 22 x_6) 23 x_7) 24 x_8) 25 x_9) 35 x_13) 38 x_10) 39 x_11) 48 x_12) (va_up (va_up mf 46 g_14) 47 g_15) mg) H locs := hw427
            have hp_429 := hp
            rcases hp_429 with ⟨rfl, ha_430, ha_431⟩ | ⟨rfl, ha_432⟩ | ⟨rfl, ha_433⟩
            · skip
              have ha_430 : x_8.toInt = 4 := ha_430
              have ha_431 : x_9.toInt = (41 : Int32).toInt := ha_431
              rw [show (41 : Int32).toInt = 41 from by decide +kernel] at ha_431
              refine lv_if_eq (pc := 34) (tgt := 82) E.1 E.2.1 dX12_readSteps_34 (by decide) (fun c_434 => absurd c_434 (mneE (a := 1) (b := 0) (by decide +kernel) (by decide +kernel) (by decide +kernel))) (fun _ => ?_)
              exact join_19  _ _ _ ⟨(by unfold RSD; omega), (show AGN x_8.toInt x_9.toInt x_7.toInt x_6.toInt from hi_15_11)⟩ hw428 (lv_sub hl18 [0] rfl)
            · skip
              have ha_432 : ¬ x_8.toInt = 4 := ha_432
              refine lv_if_eq (pc := 34) (tgt := 82) E.1 E.2.1 dX12_readSteps_34 (by decide) (fun _ => ?_) (fun c_435 => absurd (meqE (a := 0) (b := 0) (by decide +kernel) (by decide +kernel) (by decide +kernel)) c_435)
              refine lv_aload_n (pc := 82) E.1 E.2.1 dX12_readSteps_82 rfl (lv_at hl18 0 rfl) ?_
              refine x_get (pc := 83) (T := TX12) (N := 70) (ci := 12) (v := .int x_13) E hw428 inX12 0 35 q_1434 rfl rfl (by decide) rfl rfl dX12_readSteps_83 ?_
              refine lv_if_ne (pc := 86) (tgt := 100) E.1 E.2.1 dX12_readSteps_86 (by decide) (fun _ => ?_) (fun c_436 => absurd c_436 (mneE (a := x_13.toInt) (b := 0) rfl (by decide +kernel) (ax73r33f_11 hc_415)))
              refine lv_aload_n (pc := 100) E.1 E.2.1 dX12_readSteps_100 rfl (lv_at hl18 0 rfl) ?_
              refine lv_iconst (pc := 101) (v := 1) E.1 E.2.1 dX12_readSteps_101 (by decide +kernel) ?_
              refine cm_i (pc := 102) hw428 (rn_M (As := [.int 1]) (rest := []) E hw428 (s_errs2 l D cI cJ _ M mr (upd (upd (upd (upd (upd (upd (upd (upd mi 22 x_6) 23 x_7) 24 x_8) 25 x_9) 35 x_13) 38 x_10) 39 x_11) 48 x_12) (va_up (va_up mf 46 g_14) 47 g_15) mg 1) (gdV q_1698 q_1700 q_60 q_162 q_1701) hdV_X12_errs ⟨rfl, rfl⟩ ⟨(Nat.le_of_ble_eq_true rfl), (Nat.le_of_ble_eq_true rfl)⟩ ⟨(Nat.le_of_ble_eq_true rfl), (Nat.le_of_ble_eq_true rfl)⟩ 12 rfl rfl rfl rfl hl18.1 rfl (Nat.le_of_ble_eq_true rfl) dX12_readSteps_102) (fun r_438 u_437 H1 locs hp hw439 => ?_)
              obtain ⟨nreadFault_440, nreadPlace_441⟩ := u_437
              generalize H1 = H at hw439 ⊢
              have hw442 : WD D A s.heap (MW cI cJ M mr (upd (upd (upd (upd (upd (upd (upd (upd mi 22 x_6) 23 x_7) 24 x_8) 25 x_9) 35 x_13) 38 nreadFault_440) 39 nreadPlace_441) 48 x_12) (va_up (va_up mf 46 g_14) 47 g_15) mg) H locs := hw439
              have hp_443 := hp
              rcases hp_443 with rfl
              · skip
                exact em_i (w1 := (fun (u : Int32 × Int32 × Int32 × Int32 × Int32 × Int32 × (Nat → Int32) × (Nat → Int32) × Int32 × Int32) => (MW cI cJ M mr (upd (upd (upd (upd (upd (upd (upd (upd mi 22 u.1) 23 u.2.1) 24 u.2.2.1) 25 u.2.2.2.1) 38 u.2.2.2.2.1) 39 u.2.2.2.2.2.1) 48 u.2.2.2.2.2.2.2.2.1) 35 u.2.2.2.2.2.2.2.2.2) (va_up (va_up mf 46 u.2.2.2.2.2.2.1) 47 u.2.2.2.2.2.2.2.1) mg))) E hr hlk (x_6, x_7, x_8, x_9, nreadFault_440, nreadPlace_441, g_14, g_15, x_12, x_13) hw442 ⟨hi_15_0, hi_15_1, hi_15_2, hi_15_3, hi_15_4, hi_15_5, hi_15_11, (fun h => absurd h (by decide +kernel)), (Or.inl rfl)⟩ (Nat.le_of_ble_eq_true rfl) (Nat.le_of_ble_eq_true rfl) dX12_readSteps_105
            · skip
              have ha_433 : ¬ x_9.toInt = (41 : Int32).toInt := ha_433
              rw [show (41 : Int32).toInt = 41 from by decide +kernel] at ha_433
              refine lv_if_eq (pc := 34) (tgt := 82) E.1 E.2.1 dX12_readSteps_34 (by decide) (fun _ => ?_) (fun c_444 => absurd (meqE (a := 0) (b := 0) (by decide +kernel) (by decide +kernel) (by decide +kernel)) c_444)
              refine lv_aload_n (pc := 82) E.1 E.2.1 dX12_readSteps_82 rfl (lv_at hl18 0 rfl) ?_
              refine x_get (pc := 83) (T := TX12) (N := 70) (ci := 12) (v := .int x_13) E hw428 inX12 0 35 q_1434 rfl rfl (by decide) rfl rfl dX12_readSteps_83 ?_
              refine lv_if_ne (pc := 86) (tgt := 100) E.1 E.2.1 dX12_readSteps_86 (by decide) (fun _ => ?_) (fun c_445 => absurd c_445 (mneE (a := x_13.toInt) (b := 0) rfl (by decide +kernel) (ax73r33f_11 hc_415)))
              refine lv_aload_n (pc := 100) E.1 E.2.1 dX12_readSteps_100 rfl (lv_at hl18 0 rfl) ?_
              refine lv_iconst (pc := 101) (v := 1) E.1 E.2.1 dX12_readSteps_101 (by decide +kernel) ?_
              refine cm_i (pc := 102) hw428 (rn_M (As := [.int 1]) (rest := []) E hw428 (s_errs2 l D cI cJ _ M mr (upd (upd (upd (upd (upd (upd (upd (upd mi 22 x_6) 23 x_7) 24 x_8) 25 x_9) 35 x_13) 38 x_10) 39 x_11) 48 x_12) (va_up (va_up mf 46 g_14) 47 g_15) mg 1) (gdV q_1698 q_1700 q_60 q_162 q_1701) hdV_X12_errs ⟨rfl, rfl⟩ ⟨(Nat.le_of_ble_eq_true rfl), (Nat.le_of_ble_eq_true rfl)⟩ ⟨(Nat.le_of_ble_eq_true rfl), (Nat.le_of_ble_eq_true rfl)⟩ 12 rfl rfl rfl rfl hl18.1 rfl (Nat.le_of_ble_eq_true rfl) dX12_readSteps_102) (fun r_447 u_446 H1 locs hp hw448 => ?_)
              obtain ⟨nreadFault_449, nreadPlace_450⟩ := u_446
              generalize H1 = H at hw448 ⊢
              have hw451 : WD D A s.heap (MW cI cJ M mr (upd (upd (upd (upd (upd (upd (upd (upd mi 22 x_6) 23 x_7) 24 x_8) 25 x_9) 35 x_13) 38 nreadFault_449) 39 nreadPlace_450) 48 x_12) (va_up (va_up mf 46 g_14) 47 g_15) mg) H locs := hw448
              have hp_452 := hp
              rcases hp_452 with rfl
              · skip
                exact em_i (w1 := (fun (u : Int32 × Int32 × Int32 × Int32 × Int32 × Int32 × (Nat → Int32) × (Nat → Int32) × Int32 × Int32) => (MW cI cJ M mr (upd (upd (upd (upd (upd (upd (upd (upd mi 22 u.1) 23 u.2.1) 24 u.2.2.1) 25 u.2.2.2.1) 38 u.2.2.2.2.1) 39 u.2.2.2.2.2.1) 48 u.2.2.2.2.2.2.2.2.1) 35 u.2.2.2.2.2.2.2.2.2) (va_up (va_up mf 46 u.2.2.2.2.2.2.1) 47 u.2.2.2.2.2.2.2.1) mg))) E hr hlk (x_6, x_7, x_8, x_9, nreadFault_449, nreadPlace_450, g_14, g_15, x_12, x_13) hw451 ⟨hi_15_0, hi_15_1, hi_15_2, hi_15_3, hi_15_4, hi_15_5, hi_15_11, (fun h => absurd h (by decide +kernel)), (Or.inl rfl)⟩ (Nat.le_of_ble_eq_true rfl) (Nat.le_of_ble_eq_true rfl) dX12_readSteps_105
  exact loop_5 (Int.toNat ((mi 21).toInt - (mi 23).toInt) + 1) (mi 22) (mi 23) (mi 24) (mi 25) (mi 38) (mi 39) 0 (mi 35) (mf 46) (mf 47) _ _ _ ⟨h0, h1, h2, h4, h5, h6, (by show 0 ≤ (0 : Int32).toInt; have k_0 : (0 : Int32).toInt = 0 := (by decide +kernel); omega), (by show 3 * (0 : Int32).toInt + 2 * (mi 35).toInt ≤ (mi 23).toInt; have k_0 : (0 : Int32).toInt = 0 := (by decide +kernel); omega), (by show 0 ≤ (mi 35).toInt; omega), (by show (mi 35).toInt ≤ 4; omega), (RSP_n RSP_nil (by first | rfl | decide +kernel | omega) (by first | rfl | decide +kernel | omega)), (show AGN ((mi 24).toInt) ((mi 25).toInt) ((mi 23).toInt) ((mi 22).toInt) from lf_again)⟩ (by have k_6 : (0 : Int32).toInt = 0 := (by decide +kernel); omega) hw4 (lv_sub hl3 [0] rfl)
