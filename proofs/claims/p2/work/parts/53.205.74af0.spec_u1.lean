set_option maxHeartbeats 4000000 in
set_option maxRecDepth 100000 in
theorem s_keepsAheadU (l : Launch) (D : va_G) (cI cJ : ClassId) (sz M : Nat) (mr : Nat → Nat) (mi : Nat → Int32) (mf : Nat → Nat → Int32) (mg : Nat → Nat → Int64)  (h0 : 0 ≤ (mi 3).toInt ∧ (mi 3).toInt ≤ 6) (h1 : 0 ≤ ((mf 1) 2).toInt ∧ ((mf 1) 2).toInt ≤ 150) (h2 : 0 ≤ ((mf 1) 3).toInt) (h3 : ((mf 1) 3).toInt + 1 ≤ (mi 6).toInt) (h4 : 0 ≤ ((mf 1) 5).toInt ∧ ((mf 1) 5).toInt ≤ 200) (lf_rows : rowsOK (mi 3).toInt (mi 6).toInt (mf 2)) (lf_kept : RKN (mi 3).toInt (((mf 1) 0).toInt) (mf 2)) (lf_keptD : RKD (mi 3).toInt ((mf 1) 1) (mi 12).toInt (mf 2)) : Met l yX12_keepsAhead (Cond.code yX12_keepsAhead cX12_keepsAhead 2 none :: GW) ({ frames := 1, cells := 0, slots := 0, locals := 40 } : Room) (va_Pc [.ref M] (PW D cI cJ sz (MW cI cJ M mr mi mf mg) xT)) (va_Qv (fun (u : Int32 × (Nat → Int32)) => (1 ≤ u.1.toInt ∧ u.1.toInt ≤ 6) ∧ (rowsOK u.1.toInt (mi 6).toInt u.2) ∧ (((u.1.toInt = 6 ∧ (mi 3).toInt = 6) ∨ (u.1.toInt = (mi 3).toInt + 1 ∧ (mi 3).toInt ≤ 5))) ∧ ((∀ k : Nat, (k : Int) < u.1.toInt → (u.2 (66 * k)).toInt = ((mf 1) 0).toInt - (u.1.toInt - 1 - (k : Int)))) ∧ ((∀ k : Nat, (k : Int) < u.1.toInt → u.2 (66 * k + 1) = bkD (mi 12).toInt ((u.1.toInt).toNat - 1 - k) ((mf 1) 1)))) (fun u => QW D cI cJ (va_A (MW cI cJ M mr mi mf mg) sz) ((fun (u : Int32 × (Nat → Int32)) => (MW cI cJ M mr (upd mi 3 u.1) (va_up mf 2 u.2) mg)) u)) (va_A (MW cI cJ M mr mi mf mg) sz)) 0 0 (va_A (MW cI cJ M mr mi mf mg) sz) := by
  refine mk_met (y := yX12_keepsAhead) (bytes := cX12_keepsAhead) (maxL := 2) (avs := [.ref M]) (WS := (MW cI cJ M mr mi mf mg)) (Qf := fun A => va_Qv (fun (u : Int32 × (Nat → Int32)) => (1 ≤ u.1.toInt ∧ u.1.toInt ≤ 6) ∧ (rowsOK u.1.toInt (mi 6).toInt u.2) ∧ (((u.1.toInt = 6 ∧ (mi 3).toInt = 6) ∨ (u.1.toInt = (mi 3).toInt + 1 ∧ (mi 3).toInt ≤ 5))) ∧ ((∀ k : Nat, (k : Int) < u.1.toInt → (u.2 (66 * k)).toInt = ((mf 1) 0).toInt - (u.1.toInt - 1 - (k : Int)))) ∧ ((∀ k : Nat, (k : Int) < u.1.toInt → u.2 (66 * k + 1) = bkD (mi 12).toInt ((u.1.toInt).toNat - 1 - k) ((mf 1) 1)))) (fun u => QW D cI cJ A ((fun (u : Int32 × (Nat → Int32)) => (MW cI cJ M mr (upd mi 3 u.1) (va_up mf 2 u.2) mg)) u)) A) (by decide) (Nat.le_of_ble_eq_true rfl) ?_
  intro p e s m below meth c A ls E hr hlk hnm hX hw1 hl2
  have hl3 : lv_has ls 2 [(0, .ref M)] := hl2
  refine lv_aload_n (pc := 0) E.1 E.2.1 dX12_keepsAhead_0 rfl (lv_at hl3 0 rfl) ?_
  refine x_get (pc := 1) (T := TX12) (N := 70) (ci := 12) (v := .int (mi 3)) E hw1 inX12 0 3 q_1402 rfl rfl (by decide) rfl rfl dX12_keepsAhead_1 ?_
  refine lv_bipush (pc := 4) (v := 6) E.1 E.2.1 dX12_keepsAhead_4 (by decide +kernel) ?_
  refine lv_icmp_ne (pc := 6) (tgt := 53) E.1 E.2.1 dX12_keepsAhead_6 (by decide) (fun c_4 => ?_) (fun c_4 => ?_)
  · skip
    have hc_4 := neE (a := (mi 3).toInt) (b := 6) rfl (by decide +kernel) c_4
    have hrk : rowsOK (mi 3).toInt (mi 6).toInt (mf 2) := lf_rows
    have hnk : ∀ k : Nat, (k : Int) < (mi 3).toInt → ((mf 2) (66 * k)).toInt = ((mf 1) 0).toInt - ((mi 3).toInt - (k : Int)) := lf_kept
    have hdk : ∀ k : Nat, (k : Int) < (mi 3).toInt → (mf 2) (66 * k + 1) = bkD (mi 12).toInt ((mi 3).toInt.toNat - k) ((mf 1) 1) := lf_keptD
    refine lv_iconst (pc := 53) (v := 0) E.1 E.2.1 dX12_keepsAhead_53 (by decide +kernel) ?_
    refine lv_istore_n (pc := 54) (lv' := [(1, .int 0), (0, .ref M)]) E.1 E.2.1 dX12_keepsAhead_54 rfl hl3 (by decide) rfl (fun ls hl5 => ?_)
    have loop_6 : ∀ (k : Nat) (x_7 : Int32) (g_8 : Nat → Int32) (H : Heap) (locs : List Loc) (ls : Array Slot), (0 ≤ x_7.toInt ∧ x_7.toInt ≤ 66) ∧ (KP g_8 (mf 2) (mf 1) (66 * (mi 3).toNatClampNeg) x_7.toInt) → 66 - x_7.toInt < (k : Int) → WD D A s.heap (MW cI cJ M mr mi (va_up mf 2 g_8) mg) H locs → lv_has ls 2 [(1, .int x_7), (0, .ref M)] → W p l e ({ frames := 1, cells := 0, slots := 0, locals := 40 } : Room) s m ([.ref M] : List Value).toArray below meth c H locs 0 0 (MQ below (va_Qv (fun (u : Int32 × (Nat → Int32)) => (1 ≤ u.1.toInt ∧ u.1.toInt ≤ 6) ∧ (rowsOK u.1.toInt (mi 6).toInt u.2) ∧ (((u.1.toInt = 6 ∧ (mi 3).toInt = 6) ∨ (u.1.toInt = (mi 3).toInt + 1 ∧ (mi 3).toInt ≤ 5))) ∧ ((∀ k : Nat, (k : Int) < u.1.toInt → (u.2 (66 * k)).toInt = ((mf 1) 0).toInt - (u.1.toInt - 1 - (k : Int)))) ∧ ((∀ k : Nat, (k : Int) < u.1.toInt → u.2 (66 * k + 1) = bkD (mi 12).toInt ((u.1.toInt).toNat - 1 - k) ((mf 1) 1)))) (fun u => QW D cI cJ A ((fun (u : Int32 × (Nat → Int32)) => (MW cI cJ M mr (upd mi 3 u.1) (va_up mf 2 u.2) mg)) u)) A) ([.ref M] : List Value).toArray s 0 0 A) (F0 m 55 ls []) := by
      intro k
      induction k with
      | zero =>
        intro x_7 g_8 _ _ _ hinv hm
        obtain ⟨hi_8_0, hi_8_1⟩ := hinv
        exact absurd hm (by omega)
      | succ k ih_9 =>
        intro x_7 g_8 H locs ls hinv hm hw10 hl11
        obtain ⟨hi_8_0, hi_8_1⟩ := hinv
        refine lv_iload_n (pc := 55) E.1 E.2.1 dX12_keepsAhead_55 rfl (lv_at hl11 0 rfl) ?_
        refine lv_bipush (pc := 56) (v := 66) E.1 E.2.1 dX12_keepsAhead_56 (by decide +kernel) ?_
        refine lv_icmp_ge (pc := 58) (tgt := 87) E.1 E.2.1 dX12_keepsAhead_58 (by decide) (fun c_12 => ?_) (fun c_12 => ?_)
        · skip
          have hc_12 := leE (a := 66) (b := x_7.toInt) (by decide +kernel) rfl c_12
          have q9 := idxI (x := (mi 3)) (by omega)
          have hrz := rowsOK_KP hi_8_1 hrk (by omega) (by omega) (by omega) (by omega) (by omega)
          have hnz := RKN_KP (u := (mi 3).toInt + 1) hi_8_1 hnk (by omega) (by omega) rfl (by omega) rfl
          have hdz := RKD_KP (u := (mi 3).toInt + 1) hi_8_1 hdk (by omega) (by omega) rfl (by omega) rfl
          refine lv_aload_n (pc := 87) E.1 E.2.1 dX12_keepsAhead_87 rfl (lv_at hl11 1 rfl) ?_
          refine lv_aload_n (pc := 88) E.1 E.2.1 dX12_keepsAhead_88 rfl (lv_at hl11 1 rfl) ?_
          refine x_get (pc := 89) (T := TX12) (N := 70) (ci := 12) (v := .int (mi 3)) E hw10 inX12 0 3 q_1402 rfl rfl (by decide) rfl rfl dX12_keepsAhead_89 ?_
          refine lv_iconst (pc := 92) (v := 1) E.1 E.2.1 dX12_keepsAhead_92 (by decide +kernel) ?_
          refine lv_iadd (pc := 93) E.1 E.2.1 dX12_keepsAhead_93 ?_
          refine lv_topi (fun v_13 ev_13 => ?_)
          have hv_13 : v_13.toInt = (mi 3).toInt + 1 := by rw [ev_13]; exact addE rfl (by decide +kernel) (by omega)
          refine x_put (pc := 94) (T := TX12) (N := 70) (ci := 12) (ws' := (MW cI cJ M mr (upd mi 3 v_13) (va_up mf 2 g_8) mg)) E hw10 inX12 tyX12_ok nmX12 0 3 q_1402 rfl rfl (by decide) rfl rfl rfl rfl (Nat.le_of_ble_eq_true rfl) rfl dX12_keepsAhead_94 (fun H locs hw14 => ?_)
          exact em_v (w1 := (fun (u : Int32 × (Nat → Int32)) => (MW cI cJ M mr (upd mi 3 u.1) (va_up mf 2 u.2) mg))) E hr hlk (v_13, g_8) hw14 ⟨(by show 1 ≤ v_13.toInt ∧ v_13.toInt ≤ 6; omega), (show rowsOK v_13.toInt (mi 6).toInt g_8 from (by have q8 := hrz; rwa [show (mi 3).toInt + 1 = v_13.toInt from by omega] at q8)), (show ((v_13.toInt = 6 ∧ (mi 3).toInt = 6) ∨ (v_13.toInt = (mi 3).toInt + 1 ∧ (mi 3).toInt ≤ 5)) from (by omega)), (show (∀ k : Nat, (k : Int) < v_13.toInt → (g_8 (66 * k)).toInt = ((mf 1) 0).toInt - (v_13.toInt - 1 - (k : Int))) from (by have q8 := hnz; rwa [show (mi 3).toInt + 1 = v_13.toInt from by omega] at q8)), (show (∀ k : Nat, (k : Int) < v_13.toInt → g_8 (66 * k + 1) = bkD (mi 12).toInt ((v_13.toInt).toNat - 1 - k) ((mf 1) 1)) from (by have q8 := hdz; rwa [show (mi 3).toInt + 1 = v_13.toInt from by omega] at q8))⟩ (Nat.le_of_ble_eq_true rfl) (Nat.le_of_ble_eq_true rfl) dX12_keepsAhead_97
        · skip
          have hc_12 := nleE (a := 66) (b := x_7.toInt) (by decide +kernel) rfl c_12
          refine lv_aload_n (pc := 61) E.1 E.2.1 dX12_keepsAhead_61 rfl (lv_at hl11 1 rfl) ?_
          refine x_get (pc := 62) (T := TX12) (N := 70) (ci := 12) (v := .ref (mr 2)) E hw10 inX12 0 2 q_1401 rfl rfl (by decide) rfl rfl dX12_keepsAhead_62 ?_
          refine lv_bipush (pc := 65) (v := 66) E.1 E.2.1 dX12_keepsAhead_65 (by decide +kernel) ?_
          refine lv_aload_n (pc := 67) E.1 E.2.1 dX12_keepsAhead_67 rfl (lv_at hl11 1 rfl) ?_
          refine x_get (pc := 68) (T := TX12) (N := 70) (ci := 12) (v := .int (mi 3)) E hw10 inX12 0 3 q_1402 rfl rfl (by decide) rfl rfl dX12_keepsAhead_68 ?_
          refine lv_imul (pc := 71) E.1 E.2.1 dX12_keepsAhead_71 ?_
          refine lv_topi (fun v_15 ev_15 => ?_)
          have hv_15 : v_15.toInt = 66 * (mi 3).toInt := by rw [ev_15]; exact mulE (by decide +kernel) rfl (by omega)
          refine lv_iload_n (pc := 72) E.1 E.2.1 dX12_keepsAhead_72 rfl (lv_at hl11 0 rfl) ?_
          refine lv_iadd (pc := 73) E.1 E.2.1 dX12_keepsAhead_73 ?_
          refine lv_topi (fun v_16 ev_16 => ?_)
          have hv_16 : v_16.toInt = v_15.toInt + x_7.toInt := by rw [ev_16]; exact addE rfl rfl (by omega)
          refine lv_aload_n (pc := 74) E.1 E.2.1 dX12_keepsAhead_74 rfl (lv_at hl11 1 rfl) ?_
          refine x_get (pc := 75) (T := TX12) (N := 70) (ci := 12) (v := .ref (mr 1)) E hw10 inX12 0 1 q_1400 rfl rfl (by decide) rfl rfl dX12_keepsAhead_75 ?_
          refine lv_iload_n (pc := 78) E.1 E.2.1 dX12_keepsAhead_78 rfl (lv_at hl11 0 rfl) ?_
          refine x_iald (pc := 79) (f := (mf 1)) E hw10 1 rfl (inbE (a := x_7.toInt) rfl (by omega)) dX12_keepsAhead_79 ?_
          refine lv_topi (fun v_17 ev_17 => ?_)
          refine x_iastG (pc := 80) (f := g_8) (wf := fun g => (MW cI cJ M mr mi (va_up mf 2 g) mg)) E hw10 2 rfl (inbE (a := v_16.toInt) rfl (by omega)) (fun _ => rfl) dX12_keepsAhead_80 (fun g_18 H locs eg_18 hw19 => ?_)
          obtain ⟨v_20, ev_20⟩ : ∃ z : Int32, x_7 + Int32.ofInt (1) = z := ⟨_, rfl⟩
          have hv_20 : v_20.toInt = x_7.toInt + (1) := by rw [← ev_20]; exact incE rfl (by decide) (by omega)
          refine lv_iinc (pc := 81) (v := v_20) (lv' := [(1, .int v_20), (0, .ref M)]) E.1 E.2.1 dX12_keepsAhead_81 hl11 (k := 0) rfl ev_20 (by decide) rfl (fun ls hl21 => ?_)
          refine lv_goto (pc := 84) (tgt := 55) E.1 E.2.1 dX12_keepsAhead_84 (by decide) ?_
          exact ih_9 v_20 g_18 _ _ _ ⟨(by show 0 ≤ v_20.toInt ∧ v_20.toInt ≤ 66; omega), (KP_step (i := x_7) (j := v_20) hi_8_1 eg_18 ev_17 (by have q9 := idxI (x := (mi 3)) (by omega); omega) (by omega) (by omega) (by omega))⟩ (by omega) hw19 (lv_sub hl21 [0, 1] rfl)
    exact loop_6 (Int.toNat (66 - 0) + 1) 0 (mf 2) _ _ _ ⟨(by show 0 ≤ (0 : Int32).toInt ∧ (0 : Int32).toInt ≤ 66; have k_0 : (0 : Int32).toInt = 0 := (by decide +kernel); omega), (KP_nil (by decide +kernel))⟩ (by have k_0 : (0 : Int32).toInt = 0 := (by decide +kernel); omega) hw1 (lv_sub hl5 [0, 1] rfl)
  · skip
    have hc_4 := eqE (a := (mi 3).toInt) (b := 6) rfl (by decide +kernel) c_4
    refine lv_aload_n (pc := 9) E.1 E.2.1 dX12_keepsAhead_9 rfl (lv_at hl3 0 rfl) ?_
    refine lv_aload_n (pc := 10) E.1 E.2.1 dX12_keepsAhead_10 rfl (lv_at hl3 0 rfl) ?_
    refine x_get (pc := 11) (T := TX12) (N := 70) (ci := 12) (v := .int (mi 3)) E hw1 inX12 0 3 q_1402 rfl rfl (by decide) rfl rfl dX12_keepsAhead_11 ?_
    refine lv_iconst (pc := 14) (v := 1) E.1 E.2.1 dX12_keepsAhead_14 (by decide +kernel) ?_
    refine lv_isub (pc := 15) E.1 E.2.1 dX12_keepsAhead_15 ?_
    refine lv_topi (fun v_22 ev_22 => ?_)
    have hv_22 : v_22.toInt = (mi 3).toInt - 1 := by rw [ev_22]; exact subE rfl (by decide +kernel) (by omega)
    refine x_put (pc := 16) (T := TX12) (N := 70) (ci := 12) (ws' := (MW cI cJ M mr (upd mi 3 v_22) mf mg)) E hw1 inX12 tyX12_ok nmX12 0 3 q_1402 rfl rfl (by decide) rfl rfl rfl rfl (Nat.le_of_ble_eq_true rfl) rfl dX12_keepsAhead_16 (fun H locs hw23 => ?_)
    refine lv_iconst (pc := 19) (v := 0) E.1 E.2.1 dX12_keepsAhead_19 (by decide +kernel) ?_
    refine lv_istore_n (pc := 20) (lv' := [(1, .int 0), (0, .ref M)]) E.1 E.2.1 dX12_keepsAhead_20 rfl hl3 (by decide) rfl (fun ls hl24 => ?_)
    have loop_25 : ∀ (k : Nat) (x_26 : Int32) (g_27 : Nat → Int32) (H : Heap) (locs : List Loc) (ls : Array Slot), (0 ≤ x_26.toInt ∧ x_26.toInt ≤ 330) ∧ (SH g_27 (mf 2) x_26.toInt) → 330 - x_26.toInt < (k : Int) → WD D A s.heap (MW cI cJ M mr (upd mi 3 v_22) (va_up mf 2 g_27) mg) H locs → lv_has ls 2 [(1, .int x_26), (0, .ref M)] → W p l e ({ frames := 1, cells := 0, slots := 0, locals := 40 } : Room) s m ([.ref M] : List Value).toArray below meth c H locs 0 0 (MQ below (va_Qv (fun (u : Int32 × (Nat → Int32)) => (1 ≤ u.1.toInt ∧ u.1.toInt ≤ 6) ∧ (rowsOK u.1.toInt (mi 6).toInt u.2) ∧ (((u.1.toInt = 6 ∧ (mi 3).toInt = 6) ∨ (u.1.toInt = (mi 3).toInt + 1 ∧ (mi 3).toInt ≤ 5))) ∧ ((∀ k : Nat, (k : Int) < u.1.toInt → (u.2 (66 * k)).toInt = ((mf 1) 0).toInt - (u.1.toInt - 1 - (k : Int)))) ∧ ((∀ k : Nat, (k : Int) < u.1.toInt → u.2 (66 * k + 1) = bkD (mi 12).toInt ((u.1.toInt).toNat - 1 - k) ((mf 1) 1)))) (fun u => QW D cI cJ A ((fun (u : Int32 × (Nat → Int32)) => (MW cI cJ M mr (upd mi 3 u.1) (va_up mf 2 u.2) mg)) u)) A) ([.ref M] : List Value).toArray s 0 0 A) (F0 m 21 ls []) := by
      intro k
      induction k with
      | zero =>
        intro x_26 g_27 _ _ _ hinv hm
        obtain ⟨hi_27_0, hi_27_1⟩ := hinv
        exact absurd hm (by omega)
      | succ k ih_28 =>
        intro x_26 g_27 H locs ls hinv hm hw29 hl30
        obtain ⟨hi_27_0, hi_27_1⟩ := hinv
        refine lv_iload_n (pc := 21) E.1 E.2.1 dX12_keepsAhead_21 rfl (lv_at hl30 0 rfl) ?_
        refine lv_bipush (pc := 22) (v := 66) E.1 E.2.1 dX12_keepsAhead_22 (by decide +kernel) ?_
        refine lv_aload_n (pc := 24) E.1 E.2.1 dX12_keepsAhead_24 rfl (lv_at hl30 1 rfl) ?_
        refine x_get (pc := 25) (T := TX12) (N := 70) (ci := 12) (v := .int v_22) E hw29 inX12 0 3 q_1402 rfl rfl (by decide) rfl rfl dX12_keepsAhead_25 ?_
        refine lv_imul (pc := 28) E.1 E.2.1 dX12_keepsAhead_28 ?_
        refine lv_topi (fun v_31 ev_31 => ?_)
        have hv_31 : v_31.toInt = 66 * v_22.toInt := by rw [ev_31]; exact mulE (by decide +kernel) rfl (by omega)
        refine lv_icmp_ge (pc := 29) (tgt := 53) E.1 E.2.1 dX12_keepsAhead_29 (by decide) (fun c_32 => ?_) (fun c_32 => ?_)
        · skip
          have hc_32 := leE (a := v_31.toInt) (b := x_26.toInt) rfl rfl c_32
          have hrk : rowsOK v_22.toInt (mi 6).toInt g_27 := rowsOK_SH (n := x_26.toInt) (b := v_22.toInt) hi_27_1 lf_rows (by omega) (by omega)
          have hnk : ∀ k : Nat, (k : Int) < v_22.toInt → (g_27 (66 * k)).toInt = ((mf 1) 0).toInt - (v_22.toInt - (k : Int)) := RKN_SH (m := x_26.toInt) hi_27_1 lf_kept (by omega) (by omega)
          have hdk : ∀ k : Nat, (k : Int) < v_22.toInt → g_27 (66 * k + 1) = bkD (mi 12).toInt (v_22.toInt.toNat - k) ((mf 1) 1) := RKD_SH (m := x_26.toInt) hi_27_1 lf_keptD (by omega) (by omega)
          refine lv_iconst (pc := 53) (v := 0) E.1 E.2.1 dX12_keepsAhead_53 (by decide +kernel) ?_
          refine lv_istore_n (pc := 54) (lv' := [(1, .int 0), (0, .ref M)]) E.1 E.2.1 dX12_keepsAhead_54 rfl hl30 (by decide) rfl (fun ls hl33 => ?_)
          have loop_34 : ∀ (k : Nat) (x_35 : Int32) (g_36 : Nat → Int32) (H : Heap) (locs : List Loc) (ls : Array Slot), (0 ≤ x_35.toInt ∧ x_35.toInt ≤ 66) ∧ (KP g_36 g_27 (mf 1) (66 * v_22.toNatClampNeg) x_35.toInt) → 66 - x_35.toInt < (k : Int) → WD D A s.heap (MW cI cJ M mr (upd mi 3 v_22) (va_up mf 2 g_36) mg) H locs → lv_has ls 2 [(1, .int x_35), (0, .ref M)] → W p l e ({ frames := 1, cells := 0, slots := 0, locals := 40 } : Room) s m ([.ref M] : List Value).toArray below meth c H locs 0 0 (MQ below (va_Qv (fun (u : Int32 × (Nat → Int32)) => (1 ≤ u.1.toInt ∧ u.1.toInt ≤ 6) ∧ (rowsOK u.1.toInt (mi 6).toInt u.2) ∧ (((u.1.toInt = 6 ∧ (mi 3).toInt = 6) ∨ (u.1.toInt = (mi 3).toInt + 1 ∧ (mi 3).toInt ≤ 5))) ∧ ((∀ k : Nat, (k : Int) < u.1.toInt → (u.2 (66 * k)).toInt = ((mf 1) 0).toInt - (u.1.toInt - 1 - (k : Int)))) ∧ ((∀ k : Nat, (k : Int) < u.1.toInt → u.2 (66 * k + 1) = bkD (mi 12).toInt ((u.1.toInt).toNat - 1 - k) ((mf 1) 1)))) (fun u => QW D cI cJ A ((fun (u : Int32 × (Nat → Int32)) => (MW cI cJ M mr (upd mi 3 u.1) (va_up mf 2 u.2) mg)) u)) A) ([.ref M] : List Value).toArray s 0 0 A) (F0 m 55 ls []) := by
            intro k
            induction k with
            | zero =>
              intro x_35 g_36 _ _ _ hinv hm
              obtain ⟨hi_36_0, hi_36_1⟩ := hinv
              exact absurd hm (by omega)
            | succ k ih_37 =>
              intro x_35 g_36 H locs ls hinv hm hw38 hl39
              obtain ⟨hi_36_0, hi_36_1⟩ := hinv
              refine lv_iload_n (pc := 55) E.1 E.2.1 dX12_keepsAhead_55 rfl (lv_at hl39 0 rfl) ?_
              refine lv_bipush (pc := 56) (v := 66) E.1 E.2.1 dX12_keepsAhead_56 (by decide +kernel) ?_
              refine lv_icmp_ge (pc := 58) (tgt := 87) E.1 E.2.1 dX12_keepsAhead_58 (by decide) (fun c_40 => ?_) (fun c_40 => ?_)
              · skip
                have hc_40 := leE (a := 66) (b := x_35.toInt) (by decide +kernel) rfl c_40
                have q9 := idxI (x := v_22) (by omega)
                have hrz := rowsOK_KP hi_36_1 hrk (by omega) (by omega) (by omega) (by omega) (by omega)
                have hnz := RKN_KP (u := v_22.toInt + 1) hi_36_1 hnk (by omega) (by omega) rfl (by omega) rfl
                have hdz := RKD_KP (u := v_22.toInt + 1) hi_36_1 hdk (by omega) (by omega) rfl (by omega) rfl
                refine lv_aload_n (pc := 87) E.1 E.2.1 dX12_keepsAhead_87 rfl (lv_at hl39 1 rfl) ?_
                refine lv_aload_n (pc := 88) E.1 E.2.1 dX12_keepsAhead_88 rfl (lv_at hl39 1 rfl) ?_
                refine x_get (pc := 89) (T := TX12) (N := 70) (ci := 12) (v := .int v_22) E hw38 inX12 0 3 q_1402 rfl rfl (by decide) rfl rfl dX12_keepsAhead_89 ?_
                refine lv_iconst (pc := 92) (v := 1) E.1 E.2.1 dX12_keepsAhead_92 (by decide +kernel) ?_
                refine lv_iadd (pc := 93) E.1 E.2.1 dX12_keepsAhead_93 ?_
                refine lv_topi (fun v_41 ev_41 => ?_)
                have hv_41 : v_41.toInt = v_22.toInt + 1 := by rw [ev_41]; exact addE rfl (by decide +kernel) (by omega)
                refine x_put (pc := 94) (T := TX12) (N := 70) (ci := 12) (ws' := (MW cI cJ M mr (upd mi 3 v_41) (va_up mf 2 g_36) mg)) E hw38 inX12 tyX12_ok nmX12 0 3 q_1402 rfl rfl (by decide) rfl rfl rfl rfl (Nat.le_of_ble_eq_true rfl) rfl dX12_keepsAhead_94 (fun H locs hw42 => ?_)
                exact em_v (w1 := (fun (u : Int32 × (Nat → Int32)) => (MW cI cJ M mr (upd mi 3 u.1) (va_up mf 2 u.2) mg))) E hr hlk (v_41, g_36) hw42 ⟨(by show 1 ≤ v_41.toInt ∧ v_41.toInt ≤ 6; omega), (show rowsOK v_41.toInt (mi 6).toInt g_36 from (by have q8 := hrz; rwa [show v_22.toInt + 1 = v_41.toInt from by omega] at q8)), (show ((v_41.toInt = 6 ∧ (mi 3).toInt = 6) ∨ (v_41.toInt = (mi 3).toInt + 1 ∧ (mi 3).toInt ≤ 5)) from (by omega)), (show (∀ k : Nat, (k : Int) < v_41.toInt → (g_36 (66 * k)).toInt = ((mf 1) 0).toInt - (v_41.toInt - 1 - (k : Int))) from (by have q8 := hnz; rwa [show v_22.toInt + 1 = v_41.toInt from by omega] at q8)), (show (∀ k : Nat, (k : Int) < v_41.toInt → g_36 (66 * k + 1) = bkD (mi 12).toInt ((v_41.toInt).toNat - 1 - k) ((mf 1) 1)) from (by have q8 := hdz; rwa [show v_22.toInt + 1 = v_41.toInt from by omega] at q8))⟩ (Nat.le_of_ble_eq_true rfl) (Nat.le_of_ble_eq_true rfl) dX12_keepsAhead_97
              · skip
                have hc_40 := nleE (a := 66) (b := x_35.toInt) (by decide +kernel) rfl c_40
                refine lv_aload_n (pc := 61) E.1 E.2.1 dX12_keepsAhead_61 rfl (lv_at hl39 1 rfl) ?_
                refine x_get (pc := 62) (T := TX12) (N := 70) (ci := 12) (v := .ref (mr 2)) E hw38 inX12 0 2 q_1401 rfl rfl (by decide) rfl rfl dX12_keepsAhead_62 ?_
                refine lv_bipush (pc := 65) (v := 66) E.1 E.2.1 dX12_keepsAhead_65 (by decide +kernel) ?_
                refine lv_aload_n (pc := 67) E.1 E.2.1 dX12_keepsAhead_67 rfl (lv_at hl39 1 rfl) ?_
                refine x_get (pc := 68) (T := TX12) (N := 70) (ci := 12) (v := .int v_22) E hw38 inX12 0 3 q_1402 rfl rfl (by decide) rfl rfl dX12_keepsAhead_68 ?_
                refine lv_imul (pc := 71) E.1 E.2.1 dX12_keepsAhead_71 ?_
                refine lv_topi (fun v_43 ev_43 => ?_)
                have hv_43 : v_43.toInt = 66 * v_22.toInt := by rw [ev_43]; exact mulE (by decide +kernel) rfl (by omega)
                refine lv_iload_n (pc := 72) E.1 E.2.1 dX12_keepsAhead_72 rfl (lv_at hl39 0 rfl) ?_
                refine lv_iadd (pc := 73) E.1 E.2.1 dX12_keepsAhead_73 ?_
                refine lv_topi (fun v_44 ev_44 => ?_)
                have hv_44 : v_44.toInt = v_43.toInt + x_35.toInt := by rw [ev_44]; exact addE rfl rfl (by omega)
                refine lv_aload_n (pc := 74) E.1 E.2.1 dX12_keepsAhead_74 rfl (lv_at hl39 1 rfl) ?_
                refine x_get (pc := 75) (T := TX12) (N := 70) (ci := 12) (v := .ref (mr 1)) E hw38 inX12 0 1 q_1400 rfl rfl (by decide) rfl rfl dX12_keepsAhead_75 ?_
                refine lv_iload_n (pc := 78) E.1 E.2.1 dX12_keepsAhead_78 rfl (lv_at hl39 0 rfl) ?_
                refine x_iald (pc := 79) (f := (mf 1)) E hw38 1 rfl (inbE (a := x_35.toInt) rfl (by omega)) dX12_keepsAhead_79 ?_
                refine lv_topi (fun v_45 ev_45 => ?_)
                refine x_iastG (pc := 80) (f := g_36) (wf := fun g => (MW cI cJ M mr (upd mi 3 v_22) (va_up mf 2 g) mg)) E hw38 2 rfl (inbE (a := v_44.toInt) rfl (by omega)) (fun _ => rfl) dX12_keepsAhead_80 (fun g_46 H locs eg_46 hw47 => ?_)
                obtain ⟨v_48, ev_48⟩ : ∃ z : Int32, x_35 + Int32.ofInt (1) = z := ⟨_, rfl⟩
                have hv_48 : v_48.toInt = x_35.toInt + (1) := by rw [← ev_48]; exact incE rfl (by decide) (by omega)
                refine lv_iinc (pc := 81) (v := v_48) (lv' := [(1, .int v_48), (0, .ref M)]) E.1 E.2.1 dX12_keepsAhead_81 hl39 (k := 0) rfl ev_48 (by decide) rfl (fun ls hl49 => ?_)
                refine lv_goto (pc := 84) (tgt := 55) E.1 E.2.1 dX12_keepsAhead_84 (by decide) ?_
                exact ih_37 v_48 g_46 _ _ _ ⟨(by show 0 ≤ v_48.toInt ∧ v_48.toInt ≤ 66; omega), (KP_step (i := x_35) (j := v_48) hi_36_1 eg_46 ev_45 (by have q9 := idxI (x := v_22) (by omega); omega) (by omega) (by omega) (by omega))⟩ (by omega) hw47 (lv_sub hl49 [0, 1] rfl)
          exact loop_34 (Int.toNat (66 - 0) + 1) 0 g_27 _ _ _ ⟨(by show 0 ≤ (0 : Int32).toInt ∧ (0 : Int32).toInt ≤ 66; have k_0 : (0 : Int32).toInt = 0 := (by decide +kernel); omega), (KP_nil (by decide +kernel))⟩ (by have k_0 : (0 : Int32).toInt = 0 := (by decide +kernel); omega) hw29 (lv_sub hl33 [0, 1] rfl)
        · skip
          have hc_32 := nleE (a := v_31.toInt) (b := x_26.toInt) rfl rfl c_32
          refine lv_aload_n (pc := 32) E.1 E.2.1 dX12_keepsAhead_32 rfl (lv_at hl30 1 rfl) ?_
          refine x_get (pc := 33) (T := TX12) (N := 70) (ci := 12) (v := .ref (mr 2)) E hw29 inX12 0 2 q_1401 rfl rfl (by decide) rfl rfl dX12_keepsAhead_33 ?_
          refine lv_iload_n (pc := 36) E.1 E.2.1 dX12_keepsAhead_36 rfl (lv_at hl30 0 rfl) ?_
          refine lv_aload_n (pc := 37) E.1 E.2.1 dX12_keepsAhead_37 rfl (lv_at hl30 1 rfl) ?_
          refine x_get (pc := 38) (T := TX12) (N := 70) (ci := 12) (v := .ref (mr 2)) E hw29 inX12 0 2 q_1401 rfl rfl (by decide) rfl rfl dX12_keepsAhead_38 ?_
          refine lv_iload_n (pc := 41) E.1 E.2.1 dX12_keepsAhead_41 rfl (lv_at hl30 0 rfl) ?_
          refine lv_bipush (pc := 42) (v := 66) E.1 E.2.1 dX12_keepsAhead_42 (by decide +kernel) ?_
          refine lv_iadd (pc := 44) E.1 E.2.1 dX12_keepsAhead_44 ?_
          refine lv_topi (fun v_50 ev_50 => ?_)
          have hv_50 : v_50.toInt = x_26.toInt + 66 := by rw [ev_50]; exact addE rfl (by decide +kernel) (by omega)
          refine x_iald (pc := 45) (f := g_27) E hw29 2 rfl (inbE (a := v_50.toInt) rfl (by omega)) dX12_keepsAhead_45 ?_
          refine lv_topi (fun v_51 ev_51 => ?_)
          refine x_iastG (pc := 46) (f := g_27) (wf := fun g => (MW cI cJ M mr (upd mi 3 v_22) (va_up mf 2 g) mg)) E hw29 2 rfl (inbE (a := x_26.toInt) rfl (by omega)) (fun _ => rfl) dX12_keepsAhead_46 (fun g_52 H locs eg_52 hw53 => ?_)
          obtain ⟨v_54, ev_54⟩ : ∃ z : Int32, x_26 + Int32.ofInt (1) = z := ⟨_, rfl⟩
          have hv_54 : v_54.toInt = x_26.toInt + (1) := by rw [← ev_54]; exact incE rfl (by decide) (by omega)
          refine lv_iinc (pc := 47) (v := v_54) (lv' := [(1, .int v_54), (0, .ref M)]) E.1 E.2.1 dX12_keepsAhead_47 hl30 (k := 0) rfl ev_54 (by decide) rfl (fun ls hl55 => ?_)
          refine lv_goto (pc := 50) (tgt := 21) E.1 E.2.1 dX12_keepsAhead_50 (by decide) ?_
          exact ih_28 v_54 g_52 _ _ _ ⟨(by show 0 ≤ v_54.toInt ∧ v_54.toInt ≤ 330; omega), (SH_step (i := x_26) (j := v_54) hi_27_1 eg_52 ev_51 (by omega) (by omega) (by omega) (by omega))⟩ (by omega) hw53 (lv_sub hl55 [0, 1] rfl)
    exact loop_25 (Int.toNat (330 - 0) + 1) 0 (mf 2) _ _ _ ⟨(by show 0 ≤ (0 : Int32).toInt ∧ (0 : Int32).toInt ≤ 330; have k_0 : (0 : Int32).toInt = 0 := (by decide +kernel); omega), (SH_nil (by decide +kernel))⟩ (by have k_0 : (0 : Int32).toInt = 0 := (by decide +kernel); omega) hw23 (lv_sub hl24 [0, 1] rfl)

set_option maxHeartbeats 4000000 in
set_option maxRecDepth 100000 in
theorem s_nightsU (l : Launch) (D : va_G) (cI cJ : ClassId) (sz M : Nat) (mr : Nat → Nat) (mi : Nat → Int32) (mf : Nat → Nat → Int32) (mg : Nat → Nat → Int64) (z_n : Int32) (h0 : 0 ≤ (mi 6).toInt ∧ (mi 6).toInt ≤ 10) (h1 : 0 ≤ ((mf 1) 2).toInt ∧ ((mf 1) 2).toInt ≤ 150) (h2 : 0 ≤ ((mf 1) 3).toInt ∧ ((mf 1) 3).toInt ≤ 9) (h3 : 0 ≤ ((mf 1) 5).toInt ∧ ((mf 1) 5).toInt ≤ 200) (h4 : 0 ≤ (mi 44).toInt ∧ (mi 44).toInt ≤ 10) (h5 : 0 ≤ (mi 42).toInt ∧ (mi 42).toInt ≤ 40) (h6 : 0 ≤ ((mf 27) 0).toInt) (h7 : ((mf 27) 0).toInt ≤ 16) (h8 : 0 ≤ ((mf 27) 1).toInt) (h9 : ((mf 27) 1).toInt ≤ 16) (h10 : 0 ≤ (mi 49).toInt ∧ (mi 49).toInt ≤ 200) (h11 : (-29) ≤ (mi 15).toInt ∧ (mi 15).toInt ≤ 69) (h12 : 0 ≤ (mi 3).toInt ∧ (mi 3).toInt ≤ 6) (h13 : 0 ≤ ((mf 1) 0).toInt) (h14 : ((mf 1) 0).toInt ≤ 9999) (h15 : (mi 5).toInt = 0) (a_paths : pathsOK (mf 43)) (lf_law0 : LW 0 0 (mf 31) (mf 32) (mf 28) (mf 29) (mf 30) ((mf 27) 0).toInt 400) (lf_law1 : LW 16 400 (mf 31) (mf 32) (mf 28) (mf 29) (mf 30) ((mf 27) 1).toInt 400) (lf_round : rndOK (mi 49).toInt (mi 6).toInt (mf 50)) (lf_rows : rowsOK (mi 3).toInt (mi 6).toInt (mf 2)) (lf_lamp : (((mi 6).toInt = 0 ∧ ((mf 1) 3).toInt = 0) ∨ ((mf 1) 3).toInt < (mi 6).toInt)) (lf_kept : RKN (mi 3).toInt (((mf 1) 0).toInt) (mf 2)) (lf_keptD : RKD (mi 3).toInt ((mf 1) 1) (mi 12).toInt (mf 2)) : Met l yX12_nights (Cond.code yX12_nights cX12_nights 4 (some .int) :: GW) ({ frames := 8, cells := 0, slots := 0, locals := 201 } : Room) (va_Pc [.ref M, .int z_n] (PW D cI cJ sz (MW cI cJ M mr mi mf mg) xT)) (va_Qi (fun (r : Int32) (u : Int32 × (Nat → Int32) × (Nat → Int32) × Int32 × (Nat → Int32) × (Nat → Int32) × (Nat → Int32) × (Nat → Int32)) => (0 ≤ (u.2.1 2).toInt) ∧ ((u.2.1 2).toInt ≤ 150) ∧ (0 ≤ (u.2.1 5).toInt) ∧ ((u.2.1 5).toInt ≤ 200) ∧ (0 ≤ (u.2.1 3).toInt) ∧ ((u.2.1 3).toInt ≤ 9) ∧ (0 ≤ u.2.2.2.1.toInt) ∧ (u.2.2.2.1.toInt ≤ 6) ∧ (0 ≤ (u.2.1 0).toInt) ∧ ((u.2.1 0).toInt ≤ 9999) ∧ (rowsOK u.2.2.2.1.toInt (mi 6).toInt u.2.2.1) ∧ ((((mi 6).toInt = 0 ∧ (u.2.1 3).toInt = 0) ∨ (u.2.1 3).toInt < (mi 6).toInt)) ∧ (RKN u.2.2.2.1.toInt ((u.2.1 0).toInt) u.2.2.1) ∧ (RKD u.2.2.2.1.toInt (u.2.1 1) (mi 12).toInt u.2.2.1) ∧ ((((r : Int32).toInt ≠ -1 ∧ u.2.1 1 = fwD (mi 12).toInt ((mf 1) 1) (z_n.toInt).toNat) ∨ ((r : Int32).toInt = -1 ∧ u.2.1 1 = (mf 1) 1))) ∧ (((NGC (mi 6).toInt ((mf 1) 0).toInt z_n.toInt ∧ (r : Int32).toInt ≠ -1 ∧ (u.2.1 0).toInt = ((mf 1) 0).toInt + z_n.toInt ∧ ((u.2.2.2.1.toInt = 6 ∧ 6 ≤ (mi 3).toInt + z_n.toInt) ∨ u.2.2.2.1.toInt = (mi 3).toInt + z_n.toInt)) ∨ (¬ NGC (mi 6).toInt ((mf 1) 0).toInt z_n.toInt ∧ (r : Int32).toInt = -1 ∧ (u.2.1 0).toInt = ((mf 1) 0).toInt ∧ u.2.2.2.1.toInt = (mi 3).toInt)))) (fun u => QW D cI cJ (va_A (MW cI cJ M mr mi mf mg) sz) ((fun (u : Int32 × (Nat → Int32) × (Nat → Int32) × Int32 × (Nat → Int32) × (Nat → Int32) × (Nat → Int32) × (Nat → Int32)) => (MW cI cJ M mr (upd (upd mi 0 u.1) 3 u.2.2.2.1) (va_up (va_up (va_up (va_up (va_up (va_up mf 1 u.2.1) 2 u.2.2.1) 55 u.2.2.2.2.1) 53 u.2.2.2.2.2.1) 54 u.2.2.2.2.2.2.1) 16 u.2.2.2.2.2.2.2) mg)) u)) (va_A (MW cI cJ M mr mi mf mg) sz)) 0 0 (va_A (MW cI cJ M mr mi mf mg) sz) := by
  refine mk_met (y := yX12_nights) (bytes := cX12_nights) (maxL := 4) (avs := [.ref M, .int z_n]) (WS := (MW cI cJ M mr mi mf mg)) (Qf := fun A => va_Qi (fun (r : Int32) (u : Int32 × (Nat → Int32) × (Nat → Int32) × Int32 × (Nat → Int32) × (Nat → Int32) × (Nat → Int32) × (Nat → Int32)) => (0 ≤ (u.2.1 2).toInt) ∧ ((u.2.1 2).toInt ≤ 150) ∧ (0 ≤ (u.2.1 5).toInt) ∧ ((u.2.1 5).toInt ≤ 200) ∧ (0 ≤ (u.2.1 3).toInt) ∧ ((u.2.1 3).toInt ≤ 9) ∧ (0 ≤ u.2.2.2.1.toInt) ∧ (u.2.2.2.1.toInt ≤ 6) ∧ (0 ≤ (u.2.1 0).toInt) ∧ ((u.2.1 0).toInt ≤ 9999) ∧ (rowsOK u.2.2.2.1.toInt (mi 6).toInt u.2.2.1) ∧ ((((mi 6).toInt = 0 ∧ (u.2.1 3).toInt = 0) ∨ (u.2.1 3).toInt < (mi 6).toInt)) ∧ (RKN u.2.2.2.1.toInt ((u.2.1 0).toInt) u.2.2.1) ∧ (RKD u.2.2.2.1.toInt (u.2.1 1) (mi 12).toInt u.2.2.1) ∧ ((((r : Int32).toInt ≠ -1 ∧ u.2.1 1 = fwD (mi 12).toInt ((mf 1) 1) (z_n.toInt).toNat) ∨ ((r : Int32).toInt = -1 ∧ u.2.1 1 = (mf 1) 1))) ∧ (((NGC (mi 6).toInt ((mf 1) 0).toInt z_n.toInt ∧ (r : Int32).toInt ≠ -1 ∧ (u.2.1 0).toInt = ((mf 1) 0).toInt + z_n.toInt ∧ ((u.2.2.2.1.toInt = 6 ∧ 6 ≤ (mi 3).toInt + z_n.toInt) ∨ u.2.2.2.1.toInt = (mi 3).toInt + z_n.toInt)) ∨ (¬ NGC (mi 6).toInt ((mf 1) 0).toInt z_n.toInt ∧ (r : Int32).toInt = -1 ∧ (u.2.1 0).toInt = ((mf 1) 0).toInt ∧ u.2.2.2.1.toInt = (mi 3).toInt)))) (fun u => QW D cI cJ A ((fun (u : Int32 × (Nat → Int32) × (Nat → Int32) × Int32 × (Nat → Int32) × (Nat → Int32) × (Nat → Int32) × (Nat → Int32)) => (MW cI cJ M mr (upd (upd mi 0 u.1) 3 u.2.2.2.1) (va_up (va_up (va_up (va_up (va_up (va_up mf 1 u.2.1) 2 u.2.2.1) 55 u.2.2.2.2.1) 53 u.2.2.2.2.2.1) 54 u.2.2.2.2.2.2.1) 16 u.2.2.2.2.2.2.2) mg)) u)) A) (by decide) (Nat.le_of_ble_eq_true rfl) ?_
  intro p e s m below meth c A ls E hr hlk hnm hX hw1 hl2
  have hl3 : lv_has ls 4 [(0, .ref M), (1, .int z_n)] := hl2
  refine lv_aload_n (pc := 0) E.1 E.2.1 dX12_nights_0 rfl (lv_at hl3 0 rfl) ?_
  refine lv_iconst (pc := 1) (v := 0) E.1 E.2.1 dX12_nights_1 (by decide +kernel) ?_
  refine x_put (pc := 2) (T := TX12) (N := 70) (ci := 12) (ws' := (MW cI cJ M mr (upd mi 0 0) mf mg)) E hw1 inX12 tyX12_ok nmX12 0 0 q_1399 rfl rfl (by decide) rfl rfl rfl rfl (Nat.le_of_ble_eq_true rfl) rfl dX12_nights_2 (fun H locs hw4 => ?_)
  refine lv_aload_n (pc := 5) E.1 E.2.1 dX12_nights_5 rfl (lv_at hl3 0 rfl) ?_
  refine lv_iload_n (pc := 6) E.1 E.2.1 dX12_nights_6 rfl (lv_at hl3 1 rfl) ?_
  refine lv_iconst (pc := 7) (v := 1) E.1 E.2.1 dX12_nights_7 (by decide +kernel) ?_
  refine lv_bipush (pc := 8) (v := 60) E.1 E.2.1 dX12_nights_8 (by decide +kernel) ?_
  refine cm_i (pc := 10) hw4 (rn_M (As := [.int z_n, .int 1, .int 60]) (rest := []) E hw4 (s_isIn l D cI cJ _ M mr (upd mi 0 0) mf mg z_n 1 60) (gdV q_1622 q_1624 q_46 q_162 q_1625) hdV_X12_isIn ⟨rfl, rfl⟩ ⟨(Nat.le_of_ble_eq_true rfl), (Nat.le_of_ble_eq_true rfl)⟩ ⟨(Nat.le_of_ble_eq_true rfl), (Nat.le_of_ble_eq_true rfl)⟩ 12 rfl rfl rfl rfl hl3.1 rfl (Nat.le_of_ble_eq_true rfl) dX12_nights_10) (fun r_6 u_5 H1 locs hp hw7 => ?_)
  generalize H1 = H at hw7 ⊢
  have hw8 : WD D A s.heap (MW cI cJ M mr (upd mi 0 0) mf mg) H locs := hw7
  have hp_9 := hp
  rcases hp_9 with ⟨rfl, ha_10⟩ | ⟨rfl, ha_11⟩ | ⟨rfl, ha_12, ha_13⟩
  · skip
    have ha_10 : z_n.toInt < (1 : Int32).toInt := ha_10
    rw [show (1 : Int32).toInt = 1 from by decide +kernel] at ha_10
    refine lv_if_eq (pc := 13) (tgt := 37) E.1 E.2.1 dX12_nights_13 (by decide) (fun _ => ?_) (fun c_14 => absurd (meqE (a := 0) (b := 0) (by decide +kernel) (by decide +kernel) (by omega)) c_14)
    refine lv_iconst (pc := 37) (v := (-1)) E.1 E.2.1 dX12_nights_37 (by decide +kernel) ?_
    exact em_i (w1 := (fun (u : Int32 × (Nat → Int32) × (Nat → Int32) × Int32 × (Nat → Int32) × (Nat → Int32) × (Nat → Int32) × (Nat → Int32)) => (MW cI cJ M mr (upd (upd mi 0 u.1) 3 u.2.2.2.1) (va_up (va_up (va_up (va_up (va_up (va_up mf 1 u.2.1) 2 u.2.2.1) 55 u.2.2.2.2.1) 53 u.2.2.2.2.2.1) 54 u.2.2.2.2.2.2.1) 16 u.2.2.2.2.2.2.2) mg))) E hr hlk (0, (mf 1), (mf 2), (mi 3), (mf 55), (mf 53), (mf 54), (mf 16)) hw8 ⟨h1.1, h1.2, h3.1, h3.2, h2.1, h2.2, h12.1, h12.2, h13, h14, lf_rows, (show (((mi 6).toInt = 0 ∧ ((mf 1) 3).toInt = 0) ∨ ((mf 1) 3).toInt < (mi 6).toInt) from lf_lamp), (show RKN (mi 3).toInt (((mf 1) 0).toInt) (mf 2) from lf_kept), (show RKD (mi 3).toInt ((mf 1) 1) (mi 12).toInt (mf 2) from lf_keptD), (show ((((-1) : Int32).toInt ≠ -1 ∧ (mf 1) 1 = fwD (mi 12).toInt ((mf 1) 1) (z_n.toInt).toNat) ∨ (((-1) : Int32).toInt = -1 ∧ (mf 1) 1 = (mf 1) 1)) from (Or.inr ⟨by decide +kernel, rfl⟩)), (show ((NGC (mi 6).toInt ((mf 1) 0).toInt z_n.toInt ∧ ((-1) : Int32).toInt ≠ -1 ∧ ((mf 1) 0).toInt = ((mf 1) 0).toInt + z_n.toInt ∧ (((mi 3).toInt = 6 ∧ 6 ≤ (mi 3).toInt + z_n.toInt) ∨ (mi 3).toInt = (mi 3).toInt + z_n.toInt)) ∨ (¬ NGC (mi 6).toInt ((mf 1) 0).toInt z_n.toInt ∧ ((-1) : Int32).toInt = -1 ∧ ((mf 1) 0).toInt = ((mf 1) 0).toInt ∧ (mi 3).toInt = (mi 3).toInt)) from (Or.inr ⟨fun h => by obtain ⟨⟨h1, h2⟩, h3, h4⟩ := h; omega, by decide +kernel, by omega, by omega⟩))⟩ (Nat.le_of_ble_eq_true rfl) (Nat.le_of_ble_eq_true rfl) dX12_nights_38
  · skip
    have ha_11 : (60 : Int32).toInt < z_n.toInt := ha_11
    rw [show (60 : Int32).toInt = 60 from by decide +kernel] at ha_11
    refine lv_if_eq (pc := 13) (tgt := 37) E.1 E.2.1 dX12_nights_13 (by decide) (fun _ => ?_) (fun c_15 => absurd (meqE (a := 0) (b := 0) (by decide +kernel) (by decide +kernel) (by omega)) c_15)
    refine lv_iconst (pc := 37) (v := (-1)) E.1 E.2.1 dX12_nights_37 (by decide +kernel) ?_
    exact em_i (w1 := (fun (u : Int32 × (Nat → Int32) × (Nat → Int32) × Int32 × (Nat → Int32) × (Nat → Int32) × (Nat → Int32) × (Nat → Int32)) => (MW cI cJ M mr (upd (upd mi 0 u.1) 3 u.2.2.2.1) (va_up (va_up (va_up (va_up (va_up (va_up mf 1 u.2.1) 2 u.2.2.1) 55 u.2.2.2.2.1) 53 u.2.2.2.2.2.1) 54 u.2.2.2.2.2.2.1) 16 u.2.2.2.2.2.2.2) mg))) E hr hlk (0, (mf 1), (mf 2), (mi 3), (mf 55), (mf 53), (mf 54), (mf 16)) hw8 ⟨h1.1, h1.2, h3.1, h3.2, h2.1, h2.2, h12.1, h12.2, h13, h14, lf_rows, (show (((mi 6).toInt = 0 ∧ ((mf 1) 3).toInt = 0) ∨ ((mf 1) 3).toInt < (mi 6).toInt) from lf_lamp), (show RKN (mi 3).toInt (((mf 1) 0).toInt) (mf 2) from lf_kept), (show RKD (mi 3).toInt ((mf 1) 1) (mi 12).toInt (mf 2) from lf_keptD), (show ((((-1) : Int32).toInt ≠ -1 ∧ (mf 1) 1 = fwD (mi 12).toInt ((mf 1) 1) (z_n.toInt).toNat) ∨ (((-1) : Int32).toInt = -1 ∧ (mf 1) 1 = (mf 1) 1)) from (Or.inr ⟨by decide +kernel, rfl⟩)), (show ((NGC (mi 6).toInt ((mf 1) 0).toInt z_n.toInt ∧ ((-1) : Int32).toInt ≠ -1 ∧ ((mf 1) 0).toInt = ((mf 1) 0).toInt + z_n.toInt ∧ (((mi 3).toInt = 6 ∧ 6 ≤ (mi 3).toInt + z_n.toInt) ∨ (mi 3).toInt = (mi 3).toInt + z_n.toInt)) ∨ (¬ NGC (mi 6).toInt ((mf 1) 0).toInt z_n.toInt ∧ ((-1) : Int32).toInt = -1 ∧ ((mf 1) 0).toInt = ((mf 1) 0).toInt ∧ (mi 3).toInt = (mi 3).toInt)) from (Or.inr ⟨fun h => by obtain ⟨⟨h1, h2⟩, h3, h4⟩ := h; omega, by decide +kernel, by omega, by omega⟩))⟩ (Nat.le_of_ble_eq_true rfl) (Nat.le_of_ble_eq_true rfl) dX12_nights_38
  · skip
    have ha_12 : (1 : Int32).toInt ≤ z_n.toInt := ha_12
    rw [show (1 : Int32).toInt = 1 from by decide +kernel] at ha_12
    have ha_13 : z_n.toInt ≤ (60 : Int32).toInt := ha_13
    rw [show (60 : Int32).toInt = 60 from by decide +kernel] at ha_13
    refine lv_if_eq (pc := 13) (tgt := 37) E.1 E.2.1 dX12_nights_13 (by decide) (fun c_16 => absurd c_16 (mneE (a := 1) (b := 0) (by decide +kernel) (by decide +kernel) (by omega))) (fun _ => ?_)
    refine lv_aload_n (pc := 16) E.1 E.2.1 dX12_nights_16 rfl (lv_at hl3 0 rfl) ?_
    refine x_get (pc := 17) (T := TX12) (N := 70) (ci := 12) (v := .int (mi 6)) E hw8 inX12 0 6 q_1405 rfl rfl (by decide) rfl rfl dX12_nights_17 ?_
    refine lv_if_eq (pc := 20) (tgt := 37) E.1 E.2.1 dX12_nights_20 (by decide) (fun c_17 => ?_) (fun c_17 => ?_)
    · skip
      have hc_17 := eqE (a := (mi 6).toInt) (b := 0) rfl (by decide +kernel) c_17
      refine lv_iconst (pc := 37) (v := (-1)) E.1 E.2.1 dX12_nights_37 (by decide +kernel) ?_
      exact em_i (w1 := (fun (u : Int32 × (Nat → Int32) × (Nat → Int32) × Int32 × (Nat → Int32) × (Nat → Int32) × (Nat → Int32) × (Nat → Int32)) => (MW cI cJ M mr (upd (upd mi 0 u.1) 3 u.2.2.2.1) (va_up (va_up (va_up (va_up (va_up (va_up mf 1 u.2.1) 2 u.2.2.1) 55 u.2.2.2.2.1) 53 u.2.2.2.2.2.1) 54 u.2.2.2.2.2.2.1) 16 u.2.2.2.2.2.2.2) mg))) E hr hlk (0, (mf 1), (mf 2), (mi 3), (mf 55), (mf 53), (mf 54), (mf 16)) hw8 ⟨h1.1, h1.2, h3.1, h3.2, h2.1, h2.2, h12.1, h12.2, h13, h14, lf_rows, (show (((mi 6).toInt = 0 ∧ ((mf 1) 3).toInt = 0) ∨ ((mf 1) 3).toInt < (mi 6).toInt) from lf_lamp), (show RKN (mi 3).toInt (((mf 1) 0).toInt) (mf 2) from lf_kept), (show RKD (mi 3).toInt ((mf 1) 1) (mi 12).toInt (mf 2) from lf_keptD), (show ((((-1) : Int32).toInt ≠ -1 ∧ (mf 1) 1 = fwD (mi 12).toInt ((mf 1) 1) (z_n.toInt).toNat) ∨ (((-1) : Int32).toInt = -1 ∧ (mf 1) 1 = (mf 1) 1)) from (Or.inr ⟨by decide +kernel, rfl⟩)), (show ((NGC (mi 6).toInt ((mf 1) 0).toInt z_n.toInt ∧ ((-1) : Int32).toInt ≠ -1 ∧ ((mf 1) 0).toInt = ((mf 1) 0).toInt + z_n.toInt ∧ (((mi 3).toInt = 6 ∧ 6 ≤ (mi 3).toInt + z_n.toInt) ∨ (mi 3).toInt = (mi 3).toInt + z_n.toInt)) ∨ (¬ NGC (mi 6).toInt ((mf 1) 0).toInt z_n.toInt ∧ ((-1) : Int32).toInt = -1 ∧ ((mf 1) 0).toInt = ((mf 1) 0).toInt ∧ (mi 3).toInt = (mi 3).toInt)) from (Or.inr ⟨fun h => by obtain ⟨⟨h1, h2⟩, h3, h4⟩ := h; omega, by decide +kernel, by omega, by omega⟩))⟩ (Nat.le_of_ble_eq_true rfl) (Nat.le_of_ble_eq_true rfl) dX12_nights_38
    · skip
      have hc_17 := neE (a := (mi 6).toInt) (b := 0) rfl (by decide +kernel) c_17
      refine lv_aload_n (pc := 23) E.1 E.2.1 dX12_nights_23 rfl (lv_at hl3 0 rfl) ?_
      refine x_get (pc := 24) (T := TX12) (N := 70) (ci := 12) (v := .ref (mr 1)) E hw8 inX12 0 1 q_1400 rfl rfl (by decide) rfl rfl dX12_nights_24 ?_
      refine lv_iconst (pc := 27) (v := 0) E.1 E.2.1 dX12_nights_27 (by decide +kernel) ?_
      refine x_iald (pc := 28) (f := (mf 1)) E hw8 1 rfl (inbE (a := 0) (by decide +kernel) (by omega)) dX12_nights_28 ?_
      refine lv_topi (fun v_18 ev_18 => ?_)
      have hv_18 : v_18.toInt = ((mf 1) 0).toInt := by rw [ev_18]; rfl
      refine lv_iload_n (pc := 29) E.1 E.2.1 dX12_nights_29 rfl (lv_at hl3 1 rfl) ?_
      refine lv_iadd (pc := 30) E.1 E.2.1 dX12_nights_30 ?_
      refine lv_topi (fun v_19 ev_19 => ?_)
      have hv_19 : v_19.toInt = v_18.toInt + z_n.toInt := by rw [ev_19]; exact addE rfl rfl (by omega)
      refine lv_sipush (pc := 31) (v := 9999) E.1 E.2.1 dX12_nights_31 (by decide +kernel) ?_
      refine lv_icmp_le (pc := 34) (tgt := 39) E.1 E.2.1 dX12_nights_34 (by decide) (fun c_20 => ?_) (fun c_20 => ?_)
      · skip
        have hc_20 := leE (a := v_19.toInt) (b := 9999) rfl (by decide +kernel) c_20
        have hlamp_21 : ((mf 1) 3).toInt + 1 ≤ (mi 6).toInt := by have q := lf_lamp; omega
        refine lv_iconst (pc := 39) (v := 0) E.1 E.2.1 dX12_nights_39 (by decide +kernel) ?_
        refine lv_istore_n (pc := 40) (lv' := [(2, .int 0), (0, .ref M), (1, .int z_n)]) E.1 E.2.1 dX12_nights_40 rfl hl3 (by decide) rfl (fun ls hl22 => ?_)
        refine lv_iconst (pc := 41) (v := 0) E.1 E.2.1 dX12_nights_41 (by decide +kernel) ?_
        refine lv_istore_n (pc := 42) (lv' := [(3, .int 0), (2, .int 0), (0, .ref M), (1, .int z_n)]) E.1 E.2.1 dX12_nights_42 rfl hl22 (by decide) rfl (fun ls hl23 => ?_)
        have loop_24 : ∀ (k : Nat) (x_25 : Int32) (x_26 : Int32) (x_27 : Int32) (g_28 : Nat → Int32) (g_29 : Nat → Int32) (g_30 : Nat → Int32) (g_31 : Nat → Int32) (g_32 : Nat → Int32) (g_33 : Nat → Int32) (H : Heap) (locs : List Loc) (ls : Array Slot), (0 ≤ x_25.toInt) ∧ (x_25.toInt ≤ z_n.toInt) ∧ (0 ≤ x_26.toInt) ∧ (x_26.toInt ≤ x_25.toInt) ∧ (0 ≤ x_27.toInt) ∧ (x_27.toInt ≤ 6) ∧ (0 ≤ (g_28 2).toInt) ∧ ((g_28 2).toInt ≤ 150) ∧ (0 ≤ (g_28 3).toInt) ∧ ((g_28 3).toInt + 1 ≤ (mi 6).toInt) ∧ (0 ≤ (g_28 5).toInt) ∧ ((g_28 5).toInt ≤ 200) ∧ ((g_28 0).toInt = ((mf 1) 0).toInt + x_25.toInt) ∧ (g_28 1 = fwD (mi 12).toInt ((mf 1) 1) (x_25.toInt).toNat) ∧ (((x_27.toInt = 6 ∧ 6 ≤ (mi 3).toInt + x_25.toInt) ∨ x_27.toInt = (mi 3).toInt + x_25.toInt)) ∧ (rowsOK x_27.toInt (mi 6).toInt g_29) ∧ (RKN x_27.toInt ((g_28 0).toInt) g_29) ∧ (RKD x_27.toInt (g_28 1) (mi 12).toInt g_29) → z_n.toInt - x_25.toInt < (k : Int) → WD D A s.heap (MW cI cJ M mr (upd (upd mi 0 0) 3 x_27) (va_up (va_up (va_up (va_up (va_up (va_up mf 1 g_28) 2 g_29) 16 g_33) 53 g_31) 54 g_32) 55 g_30) mg) H locs → lv_has ls 4 [(3, .int x_25), (2, .int x_26), (0, .ref M), (1, .int z_n)] → W p l e ({ frames := 8, cells := 0, slots := 0, locals := 201 } : Room) s m ([.ref M, .int z_n] : List Value).toArray below meth c H locs 0 0 (MQ below (va_Qi (fun (r : Int32) (u : Int32 × (Nat → Int32) × (Nat → Int32) × Int32 × (Nat → Int32) × (Nat → Int32) × (Nat → Int32) × (Nat → Int32)) => (0 ≤ (u.2.1 2).toInt) ∧ ((u.2.1 2).toInt ≤ 150) ∧ (0 ≤ (u.2.1 5).toInt) ∧ ((u.2.1 5).toInt ≤ 200) ∧ (0 ≤ (u.2.1 3).toInt) ∧ ((u.2.1 3).toInt ≤ 9) ∧ (0 ≤ u.2.2.2.1.toInt) ∧ (u.2.2.2.1.toInt ≤ 6) ∧ (0 ≤ (u.2.1 0).toInt) ∧ ((u.2.1 0).toInt ≤ 9999) ∧ (rowsOK u.2.2.2.1.toInt (mi 6).toInt u.2.2.1) ∧ ((((mi 6).toInt = 0 ∧ (u.2.1 3).toInt = 0) ∨ (u.2.1 3).toInt < (mi 6).toInt)) ∧ (RKN u.2.2.2.1.toInt ((u.2.1 0).toInt) u.2.2.1) ∧ (RKD u.2.2.2.1.toInt (u.2.1 1) (mi 12).toInt u.2.2.1) ∧ ((((r : Int32).toInt ≠ -1 ∧ u.2.1 1 = fwD (mi 12).toInt ((mf 1) 1) (z_n.toInt).toNat) ∨ ((r : Int32).toInt = -1 ∧ u.2.1 1 = (mf 1) 1))) ∧ (((NGC (mi 6).toInt ((mf 1) 0).toInt z_n.toInt ∧ (r : Int32).toInt ≠ -1 ∧ (u.2.1 0).toInt = ((mf 1) 0).toInt + z_n.toInt ∧ ((u.2.2.2.1.toInt = 6 ∧ 6 ≤ (mi 3).toInt + z_n.toInt) ∨ u.2.2.2.1.toInt = (mi 3).toInt + z_n.toInt)) ∨ (¬ NGC (mi 6).toInt ((mf 1) 0).toInt z_n.toInt ∧ (r : Int32).toInt = -1 ∧ (u.2.1 0).toInt = ((mf 1) 0).toInt ∧ u.2.2.2.1.toInt = (mi 3).toInt)))) (fun u => QW D cI cJ A ((fun (u : Int32 × (Nat → Int32) × (Nat → Int32) × Int32 × (Nat → Int32) × (Nat → Int32) × (Nat → Int32) × (Nat → Int32)) => (MW cI cJ M mr (upd (upd mi 0 u.1) 3 u.2.2.2.1) (va_up (va_up (va_up (va_up (va_up (va_up mf 1 u.2.1) 2 u.2.2.1) 55 u.2.2.2.2.1) 53 u.2.2.2.2.2.1) 54 u.2.2.2.2.2.2.1) 16 u.2.2.2.2.2.2.2) mg)) u)) A) ([.ref M, .int z_n] : List Value).toArray s 0 0 A) (F0 m 43 ls []) := by
          intro k
          induction k with
          | zero =>
            intro x_25 x_26 x_27 g_28 g_29 g_30 g_31 g_32 g_33 _ _ _ hinv hm
            obtain ⟨hi_33_0, hi_33_1, hi_33_2, hi_33_3, hi_33_4, hi_33_5, hi_33_6, hi_33_7, hi_33_8, hi_33_9, hi_33_10, hi_33_11, hi_33_12, hi_33_13, hi_33_14, hi_33_15, hi_33_16, hi_33_17⟩ := hinv
            exact absurd hm (by omega)
          | succ k ih_34 =>
            intro x_25 x_26 x_27 g_28 g_29 g_30 g_31 g_32 g_33 H locs ls hinv hm hw35 hl36
            obtain ⟨hi_33_0, hi_33_1, hi_33_2, hi_33_3, hi_33_4, hi_33_5, hi_33_6, hi_33_7, hi_33_8, hi_33_9, hi_33_10, hi_33_11, hi_33_12, hi_33_13, hi_33_14, hi_33_15, hi_33_16, hi_33_17⟩ := hinv
            refine lv_iload_n (pc := 43) E.1 E.2.1 dX12_nights_43 rfl (lv_at hl36 0 rfl) ?_
            refine lv_iload_n (pc := 44) E.1 E.2.1 dX12_nights_44 rfl (lv_at hl36 3 rfl) ?_
            refine lv_icmp_ge (pc := 45) (tgt := 69) E.1 E.2.1 dX12_nights_45 (by decide) (fun c_37 => ?_) (fun c_37 => ?_)
            · skip
              have hc_37 := leE (a := z_n.toInt) (b := x_25.toInt) rfl rfl c_37
              refine lv_iload_n (pc := 69) E.1 E.2.1 dX12_nights_69 rfl (lv_at hl36 1 rfl) ?_
              exact em_i (w1 := (fun (u : Int32 × (Nat → Int32) × (Nat → Int32) × Int32 × (Nat → Int32) × (Nat → Int32) × (Nat → Int32) × (Nat → Int32)) => (MW cI cJ M mr (upd (upd mi 0 u.1) 3 u.2.2.2.1) (va_up (va_up (va_up (va_up (va_up (va_up mf 1 u.2.1) 2 u.2.2.1) 55 u.2.2.2.2.1) 53 u.2.2.2.2.2.1) 54 u.2.2.2.2.2.2.1) 16 u.2.2.2.2.2.2.2) mg))) E hr hlk (0, g_28, g_29, x_27, g_30, g_31, g_32, g_33) hw35 ⟨hi_33_6, hi_33_7, hi_33_10, hi_33_11, hi_33_8, (by show (g_28 3).toInt ≤ 9; have k_0 : (0 : Int32).toInt = 0 := (by decide +kernel); omega), hi_33_4, hi_33_5, (by show 0 ≤ (g_28 0).toInt; have k_0 : (0 : Int32).toInt = 0 := (by decide +kernel); omega), (by show (g_28 0).toInt ≤ 9999; have k_0 : (0 : Int32).toInt = 0 := (by decide +kernel); omega), hi_33_15, (show (((mi 6).toInt = 0 ∧ (g_28 3).toInt = 0) ∨ (g_28 3).toInt < (mi 6).toInt) from (Or.inr (by omega))), (show RKN x_27.toInt ((g_28 0).toInt) g_29 from hi_33_16), (show RKD x_27.toInt (g_28 1) (mi 12).toInt g_29 from hi_33_17), (show (((x_26 : Int32).toInt ≠ -1 ∧ g_28 1 = fwD (mi 12).toInt ((mf 1) 1) (z_n.toInt).toNat) ∨ ((x_26 : Int32).toInt = -1 ∧ g_28 1 = (mf 1) 1)) from (Or.inl ⟨by omega, fwD_c hi_33_13 rfl (by omega)⟩)), (show ((NGC (mi 6).toInt ((mf 1) 0).toInt z_n.toInt ∧ (x_26 : Int32).toInt ≠ -1 ∧ (g_28 0).toInt = ((mf 1) 0).toInt + z_n.toInt ∧ ((x_27.toInt = 6 ∧ 6 ≤ (mi 3).toInt + z_n.toInt) ∨ x_27.toInt = (mi 3).toInt + z_n.toInt)) ∨ (¬ NGC (mi 6).toInt ((mf 1) 0).toInt z_n.toInt ∧ (x_26 : Int32).toInt = -1 ∧ (g_28 0).toInt = ((mf 1) 0).toInt ∧ x_27.toInt = (mi 3).toInt)) from (Or.inl ⟨⟨⟨by omega, by omega⟩, by omega, by omega⟩, by omega, by omega, (by have q := hi_33_14; omega)⟩))⟩ (Nat.le_of_ble_eq_true rfl) (Nat.le_of_ble_eq_true rfl) dX12_nights_70
            · skip
              have hc_37 := nleE (a := z_n.toInt) (b := x_25.toInt) rfl rfl c_37
              refine lv_aload_n (pc := 48) E.1 E.2.1 dX12_nights_48 rfl (lv_at hl36 2 rfl) ?_
              refine cm_v (pc := 49) hw35 (rn_M (As := []) (rest := []) E hw35 (s_keepsAheadU l D cI cJ _ M mr (upd (upd mi 0 0) 3 x_27) (va_up (va_up (va_up (va_up (va_up (va_up mf 1 g_28) 2 g_29) 16 g_33) 53 g_31) 54 g_32) 55 g_30) mg ⟨hi_33_4, hi_33_5⟩ ⟨hi_33_6, hi_33_7⟩ hi_33_8 hi_33_9 ⟨hi_33_10, hi_33_11⟩ (show rowsOK x_27.toInt (mi 6).toInt g_29 from hi_33_15) (show RKN x_27.toInt ((g_28 0).toInt) g_29 from hi_33_16) (show RKD x_27.toInt (g_28 1) (mi 12).toInt g_29 from hi_33_17)) (gdV q_1831 q_1833 q_90 q_162 q_1834) hdV_X12_keepsAhead ⟨rfl, rfl⟩ ⟨(Nat.le_of_ble_eq_true rfl), (Nat.le_of_ble_eq_true rfl)⟩ ⟨(Nat.le_of_ble_eq_true rfl), (Nat.le_of_ble_eq_true rfl)⟩ 12 rfl rfl rfl rfl hl36.1 rfl (Nat.le_of_ble_eq_true rfl) dX12_nights_49) (fun u_38 H1 locs hp hw40 => ?_)
              obtain ⟨nundoable_41, grows_42⟩ := u_38
              generalize H1 = H at hw40 ⊢
              have hw43 : WD D A s.heap (MW cI cJ M mr (upd (upd mi 0 0) 3 nundoable_41) (va_up (va_up (va_up (va_up (va_up (va_up mf 1 g_28) 2 grows_42) 16 g_33) 53 g_31) 54 g_32) 55 g_30) mg) H locs := hw40
              obtain ⟨hp_44, hp_45, hp_46, hp_47, hp_48⟩ := hp
              have hp_44 : 1 ≤ nundoable_41.toInt ∧ nundoable_41.toInt ≤ 6 := hp_44
              have hp_45 : rowsOK nundoable_41.toInt (mi 6).toInt grows_42 := hp_45
              have hp_46 : ((nundoable_41.toInt = 6 ∧ x_27.toInt = 6) ∨ (nundoable_41.toInt = x_27.toInt + 1 ∧ x_27.toInt ≤ 5)) := hp_46
              have hp_47 : (∀ k : Nat, (k : Int) < nundoable_41.toInt → (grows_42 (66 * k)).toInt = (g_28 0).toInt - (nundoable_41.toInt - 1 - (k : Int))) := hp_47
              have hp_48 : (∀ k : Nat, (k : Int) < nundoable_41.toInt → grows_42 (66 * k + 1) = bkD (mi 12).toInt ((nundoable_41.toInt).toNat - 1 - k) (g_28 1)) := hp_48
              refine lv_aload_n (pc := 52) E.1 E.2.1 dX12_nights_52 rfl (lv_at hl36 2 rfl) ?_
              refine cm_i (pc := 53) hw43 (rn_M (As := []) (rest := []) E hw43 (s_goesByU l D cI cJ _ M mr (upd (upd mi 0 0) 3 nundoable_41) (va_up (va_up (va_up (va_up (va_up (va_up mf 1 g_28) 2 grows_42) 16 g_33) 53 g_31) 54 g_32) 55 g_30) mg hi_33_8 hi_33_9 h0.2 ⟨hi_33_6, hi_33_7⟩ ⟨hi_33_10, hi_33_11⟩ h4 h5 h6 h7 h8 h9 h10 h11 (by show 0 ≤ (g_28 0).toInt; omega) (by show (g_28 0).toInt ≤ 20000; omega) a_paths (show LW 0 0 (mf 31) (mf 32) (mf 28) (mf 29) (mf 30) ((mf 27) 0).toInt 400 from lf_law0) (show LW 16 400 (mf 31) (mf 32) (mf 28) (mf 29) (mf 30) ((mf 27) 1).toInt 400 from lf_law1) (show rndOK (mi 49).toInt (mi 6).toInt (mf 50) from lf_round)) (gdV q_1835 q_1837 q_91 q_162 q_1838) hdV_X12_goesBy ⟨rfl, rfl⟩ ⟨(Nat.le_of_ble_eq_true rfl), (Nat.le_of_ble_eq_true rfl)⟩ ⟨(Nat.le_of_ble_eq_true rfl), (Nat.le_of_ble_eq_true rfl)⟩ 12 rfl rfl rfl rfl hl36.1 rfl (Nat.le_of_ble_eq_true rfl) dX12_nights_53) (fun r_50 u_49 H1 locs hp hw51 => ?_)
              obtain ⟨gnow_52, gfarOf_53, gasked_54, gstack_55, gbook_56⟩ := u_49
              generalize H1 = H at hw51 ⊢
              have hw57 : WD D A s.heap (MW cI cJ M mr (upd (upd mi 0 0) 3 nundoable_41) (va_up (va_up (va_up (va_up (va_up (va_up mf 1 gnow_52) 2 grows_42) 16 gbook_56) 53 gasked_54) 54 gstack_55) 55 gfarOf_53) mg) H locs := hw51
              obtain ⟨hp_58, hp_59, hp_60, hp_61, hp_62, hp_63, hp_64, hp_65, hp_66, hp_67⟩ := hp
              have hp_58 : 0 ≤ r_50.toInt := hp_58
              have hp_59 : r_50.toInt ≤ 1 := hp_59
              have hp_60 : 0 ≤ (gnow_52 2).toInt := hp_60
              have hp_61 : (gnow_52 2).toInt ≤ 150 := hp_61
              have hp_62 : 0 ≤ (gnow_52 5).toInt := hp_62
              have hp_63 : (gnow_52 5).toInt ≤ 200 := hp_63
              have hp_64 : 0 ≤ (gnow_52 3).toInt := hp_64
              have hp_65 : (gnow_52 3).toInt + 1 ≤ (mi 6).toInt := hp_65
              have hp_66 : (gnow_52 0).toInt = (g_28 0).toInt + 1 := hp_66
              have hp_67 : ((mi 5).toInt = 0 → gnow_52 1 = fw1 (mi 12).toInt (g_28 1)) := hp_67
              refine lv_if_eq (pc := 56) (tgt := 63) E.1 E.2.1 dX12_nights_56 (by decide) (fun c_68 => ?_) (fun c_68 => ?_)
              · skip
                have hc_68 := eqE (a := r_50.toInt) (b := 0) rfl (by decide +kernel) c_68
                obtain ⟨v_69, ev_69⟩ : ∃ z : Int32, x_25 + Int32.ofInt (1) = z := ⟨_, rfl⟩
                have hv_69 : v_69.toInt = x_25.toInt + (1) := by rw [← ev_69]; exact incE rfl (by decide) (by omega)
                refine lv_iinc (pc := 63) (v := v_69) (lv' := [(3, .int v_69), (2, .int x_26), (0, .ref M), (1, .int z_n)]) E.1 E.2.1 dX12_nights_63 hl36 (k := 0) rfl ev_69 (by decide) rfl (fun ls hl70 => ?_)
                refine lv_goto (pc := 66) (tgt := 43) E.1 E.2.1 dX12_nights_66 (by decide) ?_
                exact ih_34 v_69 x_26 nundoable_41 gnow_52 grows_42 gfarOf_53 gasked_54 gstack_55 gbook_56 _ _ _ ⟨(by show 0 ≤ v_69.toInt; omega), (by show v_69.toInt ≤ z_n.toInt; omega), hi_33_2, (by show x_26.toInt ≤ v_69.toInt; omega), (by show 0 ≤ nundoable_41.toInt; omega), hp_44.2, hp_60, hp_61, hp_64, hp_65, hp_62, hp_63, (by show (gnow_52 0).toInt = ((mf 1) 0).toInt + v_69.toInt; omega), (fwD_s hi_33_13 (hp_67 (by omega)) rfl (by omega) (by omega)), (by have q := hi_33_14; have q2 := hp_46; omega), (show rowsOK nundoable_41.toInt (mi 6).toInt grows_42 from hp_45), (show RKN nundoable_41.toInt ((gnow_52 0).toInt) grows_42 from (RKN_up hp_47 (by omega))), (show RKD nundoable_41.toInt (gnow_52 1) (mi 12).toInt grows_42 from (RKD_up hp_48 (hp_67 (by omega)) rfl rfl))⟩ (by omega) hw57 (lv_sub hl70 [0, 1, 2, 3] rfl)
              · skip
                have hc_68 := neE (a := r_50.toInt) (b := 0) rfl (by decide +kernel) c_68
                refine lv_iload_n (pc := 59) E.1 E.2.1 dX12_nights_59 rfl (lv_at hl36 1 rfl) ?_
                refine lv_iconst (pc := 60) (v := 1) E.1 E.2.1 dX12_nights_60 (by decide +kernel) ?_
                refine lv_iadd (pc := 61) E.1 E.2.1 dX12_nights_61 ?_
                refine lv_topi (fun v_71 ev_71 => ?_)
                have hv_71 : v_71.toInt = x_26.toInt + 1 := by rw [ev_71]; exact addE rfl (by decide +kernel) (by omega)
                refine lv_istore_n (pc := 62) (lv' := [(2, .int v_71), (3, .int x_25), (0, .ref M), (1, .int z_n)]) E.1 E.2.1 dX12_nights_62 rfl hl36 (by decide) rfl (fun ls hl72 => ?_)
                obtain ⟨v_73, ev_73⟩ : ∃ z : Int32, x_25 + Int32.ofInt (1) = z := ⟨_, rfl⟩
                have hv_73 : v_73.toInt = x_25.toInt + (1) := by rw [← ev_73]; exact incE rfl (by decide) (by omega)
                refine lv_iinc (pc := 63) (v := v_73) (lv' := [(3, .int v_73), (2, .int v_71), (0, .ref M), (1, .int z_n)]) E.1 E.2.1 dX12_nights_63 hl72 (k := 1) rfl ev_73 (by decide) rfl (fun ls hl74 => ?_)
                refine lv_goto (pc := 66) (tgt := 43) E.1 E.2.1 dX12_nights_66 (by decide) ?_
                exact ih_34 v_73 v_71 nundoable_41 gnow_52 grows_42 gfarOf_53 gasked_54 gstack_55 gbook_56 _ _ _ ⟨(by show 0 ≤ v_73.toInt; omega), (by show v_73.toInt ≤ z_n.toInt; omega), (by show 0 ≤ v_71.toInt; omega), (by show v_71.toInt ≤ v_73.toInt; omega), (by show 0 ≤ nundoable_41.toInt; omega), hp_44.2, hp_60, hp_61, hp_64, hp_65, hp_62, hp_63, (by show (gnow_52 0).toInt = ((mf 1) 0).toInt + v_73.toInt; omega), (fwD_s hi_33_13 (hp_67 (by omega)) rfl (by omega) (by omega)), (by have q := hi_33_14; have q2 := hp_46; omega), (show rowsOK nundoable_41.toInt (mi 6).toInt grows_42 from hp_45), (show RKN nundoable_41.toInt ((gnow_52 0).toInt) grows_42 from (RKN_up hp_47 (by omega))), (show RKD nundoable_41.toInt (gnow_52 1) (mi 12).toInt grows_42 from (RKD_up hp_48 (hp_67 (by omega)) rfl rfl))⟩ (by omega) hw57 (lv_sub hl74 [0, 1, 2, 3] rfl)
        exact loop_24 (Int.toNat (z_n.toInt - 0) + 1) 0 0 (mi 3) (mf 1) (mf 2) (mf 55) (mf 53) (mf 54) (mf 16) _ _ _ ⟨(by show 0 ≤ (0 : Int32).toInt; have k_0 : (0 : Int32).toInt = 0 := (by decide +kernel); omega), (by show (0 : Int32).toInt ≤ z_n.toInt; have k_0 : (0 : Int32).toInt = 0 := (by decide +kernel); omega), (by show 0 ≤ (0 : Int32).toInt; have k_0 : (0 : Int32).toInt = 0 := (by decide +kernel); omega), (by show (0 : Int32).toInt ≤ (0 : Int32).toInt; have k_0 : (0 : Int32).toInt = 0 := (by decide +kernel); omega), h12.1, h12.2, h1.1, h1.2, h2.1, (by show ((mf 1) 3).toInt + 1 ≤ (mi 6).toInt; omega), h3.1, h3.2, (by show ((mf 1) 0).toInt = ((mf 1) 0).toInt + (0 : Int32).toInt; have k_0 : (0 : Int32).toInt = 0 := (by decide +kernel); omega), (fwD_z rfl (by decide +kernel)), (by have k0 : (0 : Int32).toInt = 0 := (by decide +kernel); omega), (show rowsOK (mi 3).toInt (mi 6).toInt (mf 2) from lf_rows), (show RKN (mi 3).toInt (((mf 1) 0).toInt) (mf 2) from lf_kept), (show RKD (mi 3).toInt ((mf 1) 1) (mi 12).toInt (mf 2) from lf_keptD)⟩ (by have k_0 : (0 : Int32).toInt = 0 := (by decide +kernel); have k_1 : (0 : Int32).toInt = 0 := (by decide +kernel); omega) hw8 (lv_sub hl23 [0, 1, 2, 3] rfl)
      · skip
        have hc_20 := nleE (a := v_19.toInt) (b := 9999) rfl (by decide +kernel) c_20
        refine lv_iconst (pc := 37) (v := (-1)) E.1 E.2.1 dX12_nights_37 (by decide +kernel) ?_
        exact em_i (w1 := (fun (u : Int32 × (Nat → Int32) × (Nat → Int32) × Int32 × (Nat → Int32) × (Nat → Int32) × (Nat → Int32) × (Nat → Int32)) => (MW cI cJ M mr (upd (upd mi 0 u.1) 3 u.2.2.2.1) (va_up (va_up (va_up (va_up (va_up (va_up mf 1 u.2.1) 2 u.2.2.1) 55 u.2.2.2.2.1) 53 u.2.2.2.2.2.1) 54 u.2.2.2.2.2.2.1) 16 u.2.2.2.2.2.2.2) mg))) E hr hlk (0, (mf 1), (mf 2), (mi 3), (mf 55), (mf 53), (mf 54), (mf 16)) hw8 ⟨h1.1, h1.2, h3.1, h3.2, h2.1, h2.2, h12.1, h12.2, h13, h14, lf_rows, (show (((mi 6).toInt = 0 ∧ ((mf 1) 3).toInt = 0) ∨ ((mf 1) 3).toInt < (mi 6).toInt) from lf_lamp), (show RKN (mi 3).toInt (((mf 1) 0).toInt) (mf 2) from lf_kept), (show RKD (mi 3).toInt ((mf 1) 1) (mi 12).toInt (mf 2) from lf_keptD), (show ((((-1) : Int32).toInt ≠ -1 ∧ (mf 1) 1 = fwD (mi 12).toInt ((mf 1) 1) (z_n.toInt).toNat) ∨ (((-1) : Int32).toInt = -1 ∧ (mf 1) 1 = (mf 1) 1)) from (Or.inr ⟨by decide +kernel, rfl⟩)), (show ((NGC (mi 6).toInt ((mf 1) 0).toInt z_n.toInt ∧ ((-1) : Int32).toInt ≠ -1 ∧ ((mf 1) 0).toInt = ((mf 1) 0).toInt + z_n.toInt ∧ (((mi 3).toInt = 6 ∧ 6 ≤ (mi 3).toInt + z_n.toInt) ∨ (mi 3).toInt = (mi 3).toInt + z_n.toInt)) ∨ (¬ NGC (mi 6).toInt ((mf 1) 0).toInt z_n.toInt ∧ ((-1) : Int32).toInt = -1 ∧ ((mf 1) 0).toInt = ((mf 1) 0).toInt ∧ (mi 3).toInt = (mi 3).toInt)) from (Or.inr ⟨fun h => by obtain ⟨⟨h1, h2⟩, h3, h4⟩ := h; omega, by decide +kernel, by omega, by omega⟩))⟩ (Nat.le_of_ble_eq_true rfl) (Nat.le_of_ble_eq_true rfl) dX12_nights_38
