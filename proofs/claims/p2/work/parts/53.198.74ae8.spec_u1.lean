set_option maxHeartbeats 4000000 in
set_option maxRecDepth 100000 in
theorem s_doesNeedsU (l : Launch) (D : va_G) (cI cJ : ClassId) (sz M : Nat) (mr : Nat → Nat) (mi : Nat → Int32) (mf : Nat → Nat → Int32) (mg : Nat → Nat → Int64) (z_h : Int32) (z_w : Int32) (h0 : 0 ≤ (mi 44).toInt ∧ (mi 44).toInt ≤ 10) : Met l yX12_doesNeeds (Cond.code yX12_doesNeeds cX12_doesNeeds 5 (some .int) :: GW) ({ frames := 3, cells := 0, slots := 0, locals := 84 } : Room) (va_Pc [.ref M, .int z_h, .int z_w] (PW D cI cJ sz (MW cI cJ M mr mi mf mg) xT)) (va_Qi (fun (r : Int32) (u : (Nat → Int32)) => ((u 2).toInt = ((mf 1) 2).toInt) ∧ ((u 3).toInt = ((mf 1) 3).toInt) ∧ ((u 5).toInt = ((mf 1) 5).toInt) ∧ ((u 0).toInt = ((mf 1) 0).toInt) ∧ ((u 1).toInt = ((mf 1) 1).toInt)) (fun u => QW D cI cJ (va_A (MW cI cJ M mr mi mf mg) sz) ((fun (u : (Nat → Int32)) => (MW cI cJ M mr mi (va_up mf 1 u) mg)) u)) (va_A (MW cI cJ M mr mi mf mg) sz)) 0 0 (va_A (MW cI cJ M mr mi mf mg) sz) := by
  refine mk_met (y := yX12_doesNeeds) (bytes := cX12_doesNeeds) (maxL := 5) (avs := [.ref M, .int z_h, .int z_w]) (WS := (MW cI cJ M mr mi mf mg)) (Qf := fun A => va_Qi (fun (r : Int32) (u : (Nat → Int32)) => ((u 2).toInt = ((mf 1) 2).toInt) ∧ ((u 3).toInt = ((mf 1) 3).toInt) ∧ ((u 5).toInt = ((mf 1) 5).toInt) ∧ ((u 0).toInt = ((mf 1) 0).toInt) ∧ ((u 1).toInt = ((mf 1) 1).toInt)) (fun u => QW D cI cJ A ((fun (u : (Nat → Int32)) => (MW cI cJ M mr mi (va_up mf 1 u) mg)) u)) A) (by decide) (Nat.le_of_ble_eq_true rfl) ?_
  intro p e s m below meth c A ls E hr hlk hnm hX hw1 hl2
  have hl3 : lv_has ls 5 [(0, .ref M), (1, .int z_h), (2, .int z_w)] := hl2
  refine lv_iconst (pc := 0) (v := 0) E.1 E.2.1 dX12_doesNeeds_0 (by decide +kernel) ?_
  refine lv_istore_n (pc := 1) (lv' := [(3, .int 0), (0, .ref M), (1, .int z_h), (2, .int z_w)]) E.1 E.2.1 dX12_doesNeeds_1 rfl hl3 (by decide) rfl (fun ls hl4 => ?_)
  refine lv_iconst (pc := 2) (v := 0) E.1 E.2.1 dX12_doesNeeds_2 (by decide +kernel) ?_
  refine lv_istore (pc := 3) (lv' := [(4, .int 0), (3, .int 0), (0, .ref M), (1, .int z_h), (2, .int z_w)]) E.1 E.2.1 dX12_doesNeeds_3 hl4 (by decide) rfl (fun ls hl5 => ?_)
  have loop_6 : ∀ (k : Nat) (x_7 : Int32) (x_8 : Int32) (g_9 : Nat → Int32) (H : Heap) (locs : List Loc) (ls : Array Slot), (0 ≤ x_7.toInt) ∧ (x_7.toInt ≤ (mi 44).toInt) ∧ ((g_9 0).toInt = ((mf 1) 0).toInt) ∧ ((g_9 1).toInt = ((mf 1) 1).toInt) ∧ ((g_9 2).toInt = ((mf 1) 2).toInt) ∧ ((g_9 3).toInt = ((mf 1) 3).toInt) ∧ ((g_9 5).toInt = ((mf 1) 5).toInt) → (mi 44).toInt - x_7.toInt < (k : Int) → WD D A s.heap (MW cI cJ M mr mi (va_up mf 1 g_9) mg) H locs → lv_has ls 5 [(4, .int x_7), (3, .int x_8), (0, .ref M), (1, .int z_h), (2, .int z_w)] → W p l e ({ frames := 3, cells := 0, slots := 0, locals := 84 } : Room) s m ([.ref M, .int z_h, .int z_w] : List Value).toArray below meth c H locs 0 0 (MQ below (va_Qi (fun (r : Int32) (u : (Nat → Int32)) => ((u 2).toInt = ((mf 1) 2).toInt) ∧ ((u 3).toInt = ((mf 1) 3).toInt) ∧ ((u 5).toInt = ((mf 1) 5).toInt) ∧ ((u 0).toInt = ((mf 1) 0).toInt) ∧ ((u 1).toInt = ((mf 1) 1).toInt)) (fun u => QW D cI cJ A ((fun (u : (Nat → Int32)) => (MW cI cJ M mr mi (va_up mf 1 u) mg)) u)) A) ([.ref M, .int z_h, .int z_w] : List Value).toArray s 0 0 A) (F0 m 5 ls []) := by
    intro k
    induction k with
    | zero =>
      intro x_7 x_8 g_9 _ _ _ hinv hm
      obtain ⟨hi_9_0, hi_9_1, hi_9_2, hi_9_3, hi_9_4, hi_9_5, hi_9_6⟩ := hinv
      exact absurd hm (by omega)
    | succ k ih_10 =>
      intro x_7 x_8 g_9 H locs ls hinv hm hw11 hl12
      obtain ⟨hi_9_0, hi_9_1, hi_9_2, hi_9_3, hi_9_4, hi_9_5, hi_9_6⟩ := hinv
      refine lv_iload (pc := 5) E.1 E.2.1 dX12_doesNeeds_5 (lv_at hl12 0 rfl) ?_
      refine lv_aload_n (pc := 7) E.1 E.2.1 dX12_doesNeeds_7 rfl (lv_at hl12 2 rfl) ?_
      refine x_get (pc := 8) (T := TX12) (N := 70) (ci := 12) (v := .int (mi 44)) E hw11 inX12 0 44 q_1443 rfl rfl (by decide) rfl rfl dX12_doesNeeds_8 ?_
      refine lv_icmp_ge (pc := 11) (tgt := 83) E.1 E.2.1 dX12_doesNeeds_11 (by decide) (fun c_13 => ?_) (fun c_13 => ?_)
      · skip
        have hc_13 := leE (a := (mi 44).toInt) (b := x_7.toInt) rfl rfl c_13
        refine lv_iload_n (pc := 83) E.1 E.2.1 dX12_doesNeeds_83 rfl (lv_at hl12 1 rfl) ?_
        exact em_i (w1 := (fun (u : (Nat → Int32)) => (MW cI cJ M mr mi (va_up mf 1 u) mg))) E hr hlk g_9 hw11 ⟨hi_9_4, hi_9_5, hi_9_6, hi_9_2, hi_9_3⟩ (Nat.le_of_ble_eq_true rfl) (Nat.le_of_ble_eq_true rfl) dX12_doesNeeds_84
      · skip
        have hc_13 := nleE (a := (mi 44).toInt) (b := x_7.toInt) rfl rfl c_13
        refine lv_aload_n (pc := 14) E.1 E.2.1 dX12_doesNeeds_14 rfl (lv_at hl12 2 rfl) ?_
        refine lv_iload (pc := 15) E.1 E.2.1 dX12_doesNeeds_15 (lv_at hl12 0 rfl) ?_
        refine lv_iconst (pc := 17) (v := 1) E.1 E.2.1 dX12_doesNeeds_17 (by decide +kernel) ?_
        refine cm_i (pc := 18) hw11 (rn_M (As := [.int x_7, .int 1]) (rest := []) E hw11 (s_ofNeed l D cI cJ _ M mr mi (va_up mf 1 g_9) mg x_7 1 (by show 0 ≤ x_7.toInt ∧ x_7.toInt ≤ 9; omega) (by show 0 ≤ (1 : Int32).toInt ∧ (1 : Int32).toInt ≤ 4; have k_0 : (1 : Int32).toInt = 1 := (by decide +kernel); omega)) (gdV q_1871 q_1873 q_100 q_162 q_1874) hdV_X12_ofNeed ⟨rfl, rfl⟩ ⟨(Nat.le_of_ble_eq_true rfl), (Nat.le_of_ble_eq_true rfl)⟩ ⟨(Nat.le_of_ble_eq_true rfl), (Nat.le_of_ble_eq_true rfl)⟩ 12 rfl rfl rfl rfl hl12.1 rfl (Nat.le_of_ble_eq_true rfl) dX12_doesNeeds_18) (fun r_15 u_14 H1 locs hp hw16 => ?_)
        generalize H1 = H at hw16 ⊢
        have hw17 : WD D A s.heap (MW cI cJ M mr mi (va_up mf 1 g_9) mg) H locs := hw16
        refine lv_iload_n (pc := 21) E.1 E.2.1 dX12_doesNeeds_21 rfl (lv_at hl12 3 rfl) ?_
        refine lv_icmp_ne (pc := 22) (tgt := 77) E.1 E.2.1 dX12_doesNeeds_22 (by decide) (fun c_18 => ?_) (fun c_18 => ?_)
        · skip
          have hc_18 := neE (a := r_15.toInt) (b := z_h.toInt) rfl rfl c_18
          obtain ⟨v_19, ev_19⟩ : ∃ z : Int32, x_7 + Int32.ofInt (1) = z := ⟨_, rfl⟩
          have hv_19 : v_19.toInt = x_7.toInt + (1) := by rw [← ev_19]; exact incE rfl (by decide) (by omega)
          refine lv_iinc (pc := 77) (v := v_19) (lv' := [(4, .int v_19), (3, .int x_8), (0, .ref M), (1, .int z_h), (2, .int z_w)]) E.1 E.2.1 dX12_doesNeeds_77 hl12 (k := 0) rfl ev_19 (by decide) rfl (fun ls hl20 => ?_)
          refine lv_goto (pc := 80) (tgt := 5) E.1 E.2.1 dX12_doesNeeds_80 (by decide) ?_
          exact ih_10 v_19 x_8 g_9 _ _ _ ⟨(by show 0 ≤ v_19.toInt; omega), (by show v_19.toInt ≤ (mi 44).toInt; omega), hi_9_2, hi_9_3, hi_9_4, hi_9_5, hi_9_6⟩ (by omega) hw17 (lv_sub hl20 [0, 1, 2, 3, 4] rfl)
        · skip
          have hc_18 := eqE (a := r_15.toInt) (b := z_h.toInt) rfl rfl c_18
          refine lv_aload_n (pc := 25) E.1 E.2.1 dX12_doesNeeds_25 rfl (lv_at hl12 2 rfl) ?_
          refine lv_iload (pc := 26) E.1 E.2.1 dX12_doesNeeds_26 (lv_at hl12 0 rfl) ?_
          refine cm_i (pc := 28) hw17 (rn_M (As := [.int x_7]) (rest := []) E hw17 (s_isOpen l D cI cJ _ M mr mi (va_up mf 1 g_9) mg x_7 (by show 0 ≤ x_7.toInt ∧ x_7.toInt ≤ 9; omega)) (gdV q_1875 q_1877 q_101 q_162 q_1878) hdV_X12_isOpen ⟨rfl, rfl⟩ ⟨(Nat.le_of_ble_eq_true rfl), (Nat.le_of_ble_eq_true rfl)⟩ ⟨(Nat.le_of_ble_eq_true rfl), (Nat.le_of_ble_eq_true rfl)⟩ 12 rfl rfl rfl rfl hl12.1 rfl (Nat.le_of_ble_eq_true rfl) dX12_doesNeeds_28) (fun r_22 u_21 H1 locs hp hw23 => ?_)
          generalize H1 = H at hw23 ⊢
          have hw24 : WD D A s.heap (MW cI cJ M mr mi (va_up mf 1 g_9) mg) H locs := hw23
          have hp_25 := hp
          have hp_25 : 0 ≤ r_22.toInt ∧ r_22.toInt ≤ 1 := hp_25
          refine lv_if_eq (pc := 31) (tgt := 77) E.1 E.2.1 dX12_doesNeeds_31 (by decide) (fun c_26 => ?_) (fun c_26 => ?_)
          · skip
            have hc_26 := eqE (a := r_22.toInt) (b := 0) rfl (by decide +kernel) c_26
            obtain ⟨v_27, ev_27⟩ : ∃ z : Int32, x_7 + Int32.ofInt (1) = z := ⟨_, rfl⟩
            have hv_27 : v_27.toInt = x_7.toInt + (1) := by rw [← ev_27]; exact incE rfl (by decide) (by omega)
            refine lv_iinc (pc := 77) (v := v_27) (lv' := [(4, .int v_27), (3, .int x_8), (0, .ref M), (1, .int z_h), (2, .int z_w)]) E.1 E.2.1 dX12_doesNeeds_77 hl12 (k := 0) rfl ev_27 (by decide) rfl (fun ls hl28 => ?_)
            refine lv_goto (pc := 80) (tgt := 5) E.1 E.2.1 dX12_doesNeeds_80 (by decide) ?_
            exact ih_10 v_27 x_8 g_9 _ _ _ ⟨(by show 0 ≤ v_27.toInt; omega), (by show v_27.toInt ≤ (mi 44).toInt; omega), hi_9_2, hi_9_3, hi_9_4, hi_9_5, hi_9_6⟩ (by omega) hw24 (lv_sub hl28 [0, 1, 2, 3, 4] rfl)
          · skip
            have hc_26 := neE (a := r_22.toInt) (b := 0) rfl (by decide +kernel) c_26
            refine lv_aload_n (pc := 34) E.1 E.2.1 dX12_doesNeeds_34 rfl (lv_at hl12 2 rfl) ?_
            refine lv_iload (pc := 35) E.1 E.2.1 dX12_doesNeeds_35 (lv_at hl12 0 rfl) ?_
            refine lv_iconst (pc := 37) (v := 0) E.1 E.2.1 dX12_doesNeeds_37 (by decide +kernel) ?_
            refine cm_i (pc := 38) hw24 (rn_M (As := [.int x_7, .int 0]) (rest := []) E hw24 (s_ofNeed l D cI cJ _ M mr mi (va_up mf 1 g_9) mg x_7 0 (by show 0 ≤ x_7.toInt ∧ x_7.toInt ≤ 9; omega) (by show 0 ≤ (0 : Int32).toInt ∧ (0 : Int32).toInt ≤ 4; have k_0 : (0 : Int32).toInt = 0 := (by decide +kernel); omega)) (gdV q_1871 q_1873 q_100 q_162 q_1874) hdV_X12_ofNeed ⟨rfl, rfl⟩ ⟨(Nat.le_of_ble_eq_true rfl), (Nat.le_of_ble_eq_true rfl)⟩ ⟨(Nat.le_of_ble_eq_true rfl), (Nat.le_of_ble_eq_true rfl)⟩ 12 rfl rfl rfl rfl hl12.1 rfl (Nat.le_of_ble_eq_true rfl) dX12_doesNeeds_38) (fun r_30 u_29 H1 locs hp hw31 => ?_)
            generalize H1 = H at hw31 ⊢
            have hw32 : WD D A s.heap (MW cI cJ M mr mi (va_up mf 1 g_9) mg) H locs := hw31
            refine lv_iconst (pc := 41) (v := 3) E.1 E.2.1 dX12_doesNeeds_41 (by decide +kernel) ?_
            refine lv_icmp_ne (pc := 42) (tgt := 52) E.1 E.2.1 dX12_doesNeeds_42 (by decide) (fun c_33 => ?_) (fun c_33 => ?_)
            · skip
              have hc_33 := neE (a := r_30.toInt) (b := 3) rfl (by decide +kernel) c_33
              refine lv_aload_n (pc := 52) E.1 E.2.1 dX12_doesNeeds_52 rfl (lv_at hl12 2 rfl) ?_
              refine x_get (pc := 53) (T := TX12) (N := 70) (ci := 12) (v := .ref (mr 1)) E hw32 inX12 0 1 q_1400 rfl rfl (by decide) rfl rfl dX12_doesNeeds_53 ?_
              refine lv_bipush (pc := 56) (v := 46) E.1 E.2.1 dX12_doesNeeds_56 (by decide +kernel) ?_
              refine lv_iload (pc := 58) E.1 E.2.1 dX12_doesNeeds_58 (lv_at hl12 0 rfl) ?_
              refine lv_iadd (pc := 60) E.1 E.2.1 dX12_doesNeeds_60 ?_
              refine lv_topi (fun v_34 ev_34 => ?_)
              have hv_34 : v_34.toInt = 46 + x_7.toInt := by rw [ev_34]; exact addE (by decide +kernel) rfl (by omega)
              refine lv_aload_n (pc := 61) E.1 E.2.1 dX12_doesNeeds_61 rfl (lv_at hl12 2 rfl) ?_
              refine x_get (pc := 62) (T := TX12) (N := 70) (ci := 12) (v := .ref (mr 1)) E hw32 inX12 0 1 q_1400 rfl rfl (by decide) rfl rfl dX12_doesNeeds_62 ?_
              refine lv_iconst (pc := 65) (v := 0) E.1 E.2.1 dX12_doesNeeds_65 (by decide +kernel) ?_
              refine x_iald (pc := 66) (f := g_9) E hw32 1 rfl (inbE (a := 0) (by decide +kernel) (by omega)) dX12_doesNeeds_66 ?_
              refine lv_topi (fun v_35 ev_35 => ?_)
              have hv_35 : v_35.toInt = (g_9 0).toInt := by rw [ev_35]; rfl
              refine lv_iconst (pc := 67) (v := 1) E.1 E.2.1 dX12_doesNeeds_67 (by decide +kernel) ?_
              refine lv_iadd (pc := 68) E.1 E.2.1 dX12_doesNeeds_68 ?_
              refine lv_topi (fun v_36 ev_36 => ?_)
              refine x_iastG (pc := 69) (f := g_9) (wf := fun g => (MW cI cJ M mr mi (va_up mf 1 g) mg)) E hw32 1 rfl (inbE (a := v_34.toInt) rfl (by omega)) (fun _ => rfl) dX12_doesNeeds_69 (fun g_37 H locs eg_37 hw38 => ?_)
              have ht_39 : (g_37 0).toInt = (g_9 0).toInt := by rw [eg_37, pk_un (by have q9 := idxI (x := v_34) (by omega); omega)]
              have ht_40 : (g_37 1).toInt = (g_9 1).toInt := by rw [eg_37, pk_un (by have q9 := idxI (x := v_34) (by omega); omega)]
              have ht_41 : (g_37 2).toInt = (g_9 2).toInt := by rw [eg_37, pk_un (by have q9 := idxI (x := v_34) (by omega); omega)]
              have ht_42 : (g_37 3).toInt = (g_9 3).toInt := by rw [eg_37, pk_un (by have q9 := idxI (x := v_34) (by omega); omega)]
              have ht_43 : (g_37 5).toInt = (g_9 5).toInt := by rw [eg_37, pk_un (by have q9 := idxI (x := v_34) (by omega); omega)]
              refine lv_iload_n (pc := 70) E.1 E.2.1 dX12_doesNeeds_70 rfl (lv_at hl12 1 rfl) ?_
              refine lv_iconst (pc := 71) (v := 1) E.1 E.2.1 dX12_doesNeeds_71 (by decide +kernel) ?_
              refine lv_iload (pc := 72) E.1 E.2.1 dX12_doesNeeds_72 (lv_at hl12 0 rfl) ?_
              refine lv_ishl (pc := 74) E.1 E.2.1 dX12_doesNeeds_74 ?_
              refine lv_topi (fun v_44 ev_44 => ?_)
              have hb1v_44 : 1 ≤ v_44.toInt ∧ v_44.toInt ≤ 512 := by rw [ev_44]; exact shl9 (by omega)
              refine lv_ior (pc := 75) E.1 E.2.1 dX12_doesNeeds_75 ?_
              refine lv_topi (fun v_45 ev_45 => ?_)
              refine lv_istore_n (pc := 76) (lv' := [(3, .int v_45), (4, .int x_7), (0, .ref M), (1, .int z_h), (2, .int z_w)]) E.1 E.2.1 dX12_doesNeeds_76 rfl hl12 (by decide) rfl (fun ls hl46 => ?_)
              obtain ⟨v_47, ev_47⟩ : ∃ z : Int32, x_7 + Int32.ofInt (1) = z := ⟨_, rfl⟩
              have hv_47 : v_47.toInt = x_7.toInt + (1) := by rw [← ev_47]; exact incE rfl (by decide) (by omega)
              refine lv_iinc (pc := 77) (v := v_47) (lv' := [(4, .int v_47), (3, .int v_45), (0, .ref M), (1, .int z_h), (2, .int z_w)]) E.1 E.2.1 dX12_doesNeeds_77 hl46 (k := 1) rfl ev_47 (by decide) rfl (fun ls hl48 => ?_)
              refine lv_goto (pc := 80) (tgt := 5) E.1 E.2.1 dX12_doesNeeds_80 (by decide) ?_
              exact ih_10 v_47 v_45 g_37 _ _ _ ⟨(by show 0 ≤ v_47.toInt; omega), (by show v_47.toInt ≤ (mi 44).toInt; omega), (by show (g_37 0).toInt = ((mf 1) 0).toInt; omega), (by show (g_37 1).toInt = ((mf 1) 1).toInt; omega), (by show (g_37 2).toInt = ((mf 1) 2).toInt; omega), (by show (g_37 3).toInt = ((mf 1) 3).toInt; omega), (by show (g_37 5).toInt = ((mf 1) 5).toInt; omega)⟩ (by omega) hw38 (lv_sub hl48 [0, 1, 2, 3, 4] rfl)
            · skip
              have hc_33 := eqE (a := r_30.toInt) (b := 3) rfl (by decide +kernel) c_33
              refine lv_iload_n (pc := 45) E.1 E.2.1 dX12_doesNeeds_45 rfl (lv_at hl12 4 rfl) ?_
              refine lv_if_ne (pc := 46) (tgt := 52) E.1 E.2.1 dX12_doesNeeds_46 (by decide) (fun c_49 => ?_) (fun c_49 => ?_)
              · skip
                have hc_49 := neE (a := z_w.toInt) (b := 0) rfl (by decide +kernel) c_49
                refine lv_aload_n (pc := 52) E.1 E.2.1 dX12_doesNeeds_52 rfl (lv_at hl12 2 rfl) ?_
                refine x_get (pc := 53) (T := TX12) (N := 70) (ci := 12) (v := .ref (mr 1)) E hw32 inX12 0 1 q_1400 rfl rfl (by decide) rfl rfl dX12_doesNeeds_53 ?_
                refine lv_bipush (pc := 56) (v := 46) E.1 E.2.1 dX12_doesNeeds_56 (by decide +kernel) ?_
                refine lv_iload (pc := 58) E.1 E.2.1 dX12_doesNeeds_58 (lv_at hl12 0 rfl) ?_
                refine lv_iadd (pc := 60) E.1 E.2.1 dX12_doesNeeds_60 ?_
                refine lv_topi (fun v_50 ev_50 => ?_)
                have hv_50 : v_50.toInt = 46 + x_7.toInt := by rw [ev_50]; exact addE (by decide +kernel) rfl (by omega)
                refine lv_aload_n (pc := 61) E.1 E.2.1 dX12_doesNeeds_61 rfl (lv_at hl12 2 rfl) ?_
                refine x_get (pc := 62) (T := TX12) (N := 70) (ci := 12) (v := .ref (mr 1)) E hw32 inX12 0 1 q_1400 rfl rfl (by decide) rfl rfl dX12_doesNeeds_62 ?_
                refine lv_iconst (pc := 65) (v := 0) E.1 E.2.1 dX12_doesNeeds_65 (by decide +kernel) ?_
                refine x_iald (pc := 66) (f := g_9) E hw32 1 rfl (inbE (a := 0) (by decide +kernel) (by omega)) dX12_doesNeeds_66 ?_
                refine lv_topi (fun v_51 ev_51 => ?_)
                have hv_51 : v_51.toInt = (g_9 0).toInt := by rw [ev_51]; rfl
                refine lv_iconst (pc := 67) (v := 1) E.1 E.2.1 dX12_doesNeeds_67 (by decide +kernel) ?_
                refine lv_iadd (pc := 68) E.1 E.2.1 dX12_doesNeeds_68 ?_
                refine lv_topi (fun v_52 ev_52 => ?_)
                refine x_iastG (pc := 69) (f := g_9) (wf := fun g => (MW cI cJ M mr mi (va_up mf 1 g) mg)) E hw32 1 rfl (inbE (a := v_50.toInt) rfl (by omega)) (fun _ => rfl) dX12_doesNeeds_69 (fun g_53 H locs eg_53 hw54 => ?_)
                have ht_55 : (g_53 0).toInt = (g_9 0).toInt := by rw [eg_53, pk_un (by have q9 := idxI (x := v_50) (by omega); omega)]
                have ht_56 : (g_53 1).toInt = (g_9 1).toInt := by rw [eg_53, pk_un (by have q9 := idxI (x := v_50) (by omega); omega)]
                have ht_57 : (g_53 2).toInt = (g_9 2).toInt := by rw [eg_53, pk_un (by have q9 := idxI (x := v_50) (by omega); omega)]
                have ht_58 : (g_53 3).toInt = (g_9 3).toInt := by rw [eg_53, pk_un (by have q9 := idxI (x := v_50) (by omega); omega)]
                have ht_59 : (g_53 5).toInt = (g_9 5).toInt := by rw [eg_53, pk_un (by have q9 := idxI (x := v_50) (by omega); omega)]
                refine lv_iload_n (pc := 70) E.1 E.2.1 dX12_doesNeeds_70 rfl (lv_at hl12 1 rfl) ?_
                refine lv_iconst (pc := 71) (v := 1) E.1 E.2.1 dX12_doesNeeds_71 (by decide +kernel) ?_
                refine lv_iload (pc := 72) E.1 E.2.1 dX12_doesNeeds_72 (lv_at hl12 0 rfl) ?_
                refine lv_ishl (pc := 74) E.1 E.2.1 dX12_doesNeeds_74 ?_
                refine lv_topi (fun v_60 ev_60 => ?_)
                have hb1v_60 : 1 ≤ v_60.toInt ∧ v_60.toInt ≤ 512 := by rw [ev_60]; exact shl9 (by omega)
                refine lv_ior (pc := 75) E.1 E.2.1 dX12_doesNeeds_75 ?_
                refine lv_topi (fun v_61 ev_61 => ?_)
                refine lv_istore_n (pc := 76) (lv' := [(3, .int v_61), (4, .int x_7), (0, .ref M), (1, .int z_h), (2, .int z_w)]) E.1 E.2.1 dX12_doesNeeds_76 rfl hl12 (by decide) rfl (fun ls hl62 => ?_)
                obtain ⟨v_63, ev_63⟩ : ∃ z : Int32, x_7 + Int32.ofInt (1) = z := ⟨_, rfl⟩
                have hv_63 : v_63.toInt = x_7.toInt + (1) := by rw [← ev_63]; exact incE rfl (by decide) (by omega)
                refine lv_iinc (pc := 77) (v := v_63) (lv' := [(4, .int v_63), (3, .int v_61), (0, .ref M), (1, .int z_h), (2, .int z_w)]) E.1 E.2.1 dX12_doesNeeds_77 hl62 (k := 1) rfl ev_63 (by decide) rfl (fun ls hl64 => ?_)
                refine lv_goto (pc := 80) (tgt := 5) E.1 E.2.1 dX12_doesNeeds_80 (by decide) ?_
                exact ih_10 v_63 v_61 g_53 _ _ _ ⟨(by show 0 ≤ v_63.toInt; omega), (by show v_63.toInt ≤ (mi 44).toInt; omega), (by show (g_53 0).toInt = ((mf 1) 0).toInt; omega), (by show (g_53 1).toInt = ((mf 1) 1).toInt; omega), (by show (g_53 2).toInt = ((mf 1) 2).toInt; omega), (by show (g_53 3).toInt = ((mf 1) 3).toInt; omega), (by show (g_53 5).toInt = ((mf 1) 5).toInt; omega)⟩ (by omega) hw54 (lv_sub hl64 [0, 1, 2, 3, 4] rfl)
              · skip
                have hc_49 := eqE (a := z_w.toInt) (b := 0) rfl (by decide +kernel) c_49
                refine lv_goto (pc := 49) (tgt := 77) E.1 E.2.1 dX12_doesNeeds_49 (by decide) ?_
                obtain ⟨v_65, ev_65⟩ : ∃ z : Int32, x_7 + Int32.ofInt (1) = z := ⟨_, rfl⟩
                have hv_65 : v_65.toInt = x_7.toInt + (1) := by rw [← ev_65]; exact incE rfl (by decide) (by omega)
                refine lv_iinc (pc := 77) (v := v_65) (lv' := [(4, .int v_65), (3, .int x_8), (0, .ref M), (1, .int z_h), (2, .int z_w)]) E.1 E.2.1 dX12_doesNeeds_77 hl12 (k := 0) rfl ev_65 (by decide) rfl (fun ls hl66 => ?_)
                refine lv_goto (pc := 80) (tgt := 5) E.1 E.2.1 dX12_doesNeeds_80 (by decide) ?_
                exact ih_10 v_65 x_8 g_9 _ _ _ ⟨(by show 0 ≤ v_65.toInt; omega), (by show v_65.toInt ≤ (mi 44).toInt; omega), hi_9_2, hi_9_3, hi_9_4, hi_9_5, hi_9_6⟩ (by omega) hw32 (lv_sub hl66 [0, 1, 2, 3, 4] rfl)
  exact loop_6 (Int.toNat ((mi 44).toInt - 0) + 1) 0 0 (mf 1) _ _ _ ⟨(by show 0 ≤ (0 : Int32).toInt; have k_0 : (0 : Int32).toInt = 0 := (by decide +kernel); omega), (by show (0 : Int32).toInt ≤ (mi 44).toInt; have k_0 : (0 : Int32).toInt = 0 := (by decide +kernel); omega), rfl, rfl, rfl, rfl, rfl⟩ (by have k_0 : (0 : Int32).toInt = 0 := (by decide +kernel); have k_1 : (0 : Int32).toInt = 0 := (by decide +kernel); omega) hw1 (lv_sub hl5 [0, 1, 2, 3, 4] rfl)
set_option maxHeartbeats 4000000 in
set_option maxRecDepth 100000 in
theorem s_notesU (l : Launch) (D : va_G) (cI cJ : ClassId) (sz M : Nat) (mr : Nat → Nat) (mi : Nat → Int32) (mf : Nat → Nat → Int32) (mg : Nat → Nat → Int64) (z_h : Int32) (z_lit : Int32) (z_burnt : Int32) (z_done : Int32) (h0 : 0 ≤ ((mf 1) 2).toInt ∧ ((mf 1) 2).toInt ≤ 150) : Met l yX12_notes (Cond.code yX12_notes cX12_notes 6 none :: GW) ({ frames := 1, cells := 0, slots := 0, locals := 40 } : Room) (va_Pc [.ref M, .int z_h, .int z_lit, .int z_burnt, .int z_done] (PW D cI cJ sz (MW cI cJ M mr mi mf mg) xT)) (va_Qv (fun (u : (Nat → Int32) × (Nat → Int32)) => (0 ≤ (u.1 2).toInt ∧ (u.1 2).toInt ≤ 150) ∧ ((u.1 3).toInt = ((mf 1) 3).toInt) ∧ ((u.1 5).toInt = ((mf 1) 5).toInt) ∧ ((u.1 0).toInt = ((mf 1) 0).toInt) ∧ ((u.1 1).toInt = ((mf 1) 1).toInt)) (fun u => QW D cI cJ (va_A (MW cI cJ M mr mi mf mg) sz) ((fun (u : (Nat → Int32) × (Nat → Int32)) => (MW cI cJ M mr mi (va_up (va_up mf 1 u.1) 16 u.2) mg)) u)) (va_A (MW cI cJ M mr mi mf mg) sz)) 0 0 (va_A (MW cI cJ M mr mi mf mg) sz) := by
  refine mk_met (y := yX12_notes) (bytes := cX12_notes) (maxL := 6) (avs := [.ref M, .int z_h, .int z_lit, .int z_burnt, .int z_done]) (WS := (MW cI cJ M mr mi mf mg)) (Qf := fun A => va_Qv (fun (u : (Nat → Int32) × (Nat → Int32)) => (0 ≤ (u.1 2).toInt ∧ (u.1 2).toInt ≤ 150) ∧ ((u.1 3).toInt = ((mf 1) 3).toInt) ∧ ((u.1 5).toInt = ((mf 1) 5).toInt) ∧ ((u.1 0).toInt = ((mf 1) 0).toInt) ∧ ((u.1 1).toInt = ((mf 1) 1).toInt)) (fun u => QW D cI cJ A ((fun (u : (Nat → Int32) × (Nat → Int32)) => (MW cI cJ M mr mi (va_up (va_up mf 1 u.1) 16 u.2) mg)) u)) A) (by decide) (Nat.le_of_ble_eq_true rfl) ?_
  intro p e s m below meth c A ls E hr hlk hnm hX hw1 hl2
  have hl3 : lv_has ls 6 [(0, .ref M), (1, .int z_h), (2, .int z_lit), (3, .int z_burnt), (4, .int z_done)] := hl2
  refine lv_aload_n (pc := 0) E.1 E.2.1 dX12_notes_0 rfl (lv_at hl3 0 rfl) ?_
  refine x_get (pc := 1) (T := TX12) (N := 70) (ci := 12) (v := .int (mi 5)) E hw1 inX12 0 5 q_1404 rfl rfl (by decide) rfl rfl dX12_notes_1 ?_
  refine lv_if_ne (pc := 4) (tgt := 19) E.1 E.2.1 dX12_notes_4 (by decide) (fun c_4 => ?_) (fun c_4 => ?_)
  · skip
    have hc_4 := neE (a := (mi 5).toInt) (b := 0) rfl (by decide +kernel) c_4
    exact em_v (w1 := (fun (u : (Nat → Int32) × (Nat → Int32)) => (MW cI cJ M mr mi (va_up (va_up mf 1 u.1) 16 u.2) mg))) E hr hlk ((mf 1), (mf 16)) hw1 ⟨h0, rfl, rfl, rfl, rfl⟩ (Nat.le_of_ble_eq_true rfl) (Nat.le_of_ble_eq_true rfl) dX12_notes_19
  · skip
    have hc_4 := eqE (a := (mi 5).toInt) (b := 0) rfl (by decide +kernel) c_4
    refine lv_aload_n (pc := 7) E.1 E.2.1 dX12_notes_7 rfl (lv_at hl3 0 rfl) ?_
    refine x_get (pc := 8) (T := TX12) (N := 70) (ci := 12) (v := .ref (mr 1)) E hw1 inX12 0 1 q_1400 rfl rfl (by decide) rfl rfl dX12_notes_8 ?_
    refine lv_iconst (pc := 11) (v := 2) E.1 E.2.1 dX12_notes_11 (by decide +kernel) ?_
    refine x_iald (pc := 12) (f := (mf 1)) E hw1 1 rfl (inbE (a := 2) (by decide +kernel) (by omega)) dX12_notes_12 ?_
    refine lv_topi (fun v_5 ev_5 => ?_)
    have hv_5 : v_5.toInt = ((mf 1) 2).toInt := by rw [ev_5]; rfl
    refine lv_sipush (pc := 13) (v := 150) E.1 E.2.1 dX12_notes_13 (by decide +kernel) ?_
    refine lv_icmp_ne (pc := 16) (tgt := 20) E.1 E.2.1 dX12_notes_16 (by decide) (fun c_6 => ?_) (fun c_6 => ?_)
    · skip
      have hc_6 := neE (a := v_5.toInt) (b := 150) rfl (by decide +kernel) c_6
      refine lv_bipush (pc := 20) (v := 6) E.1 E.2.1 dX12_notes_20 (by decide +kernel) ?_
      refine lv_aload_n (pc := 22) E.1 E.2.1 dX12_notes_22 rfl (lv_at hl3 0 rfl) ?_
      refine x_get (pc := 23) (T := TX12) (N := 70) (ci := 12) (v := .ref (mr 1)) E hw1 inX12 0 1 q_1400 rfl rfl (by decide) rfl rfl dX12_notes_23 ?_
      refine lv_iconst (pc := 26) (v := 2) E.1 E.2.1 dX12_notes_26 (by decide +kernel) ?_
      refine x_iald (pc := 27) (f := (mf 1)) E hw1 1 rfl (inbE (a := 2) (by decide +kernel) (by omega)) dX12_notes_27 ?_
      refine lv_topi (fun v_7 ev_7 => ?_)
      have hv_7 : v_7.toInt = ((mf 1) 2).toInt := by rw [ev_7]; rfl
      have hsv_7 : v_7.toInt = v_5.toInt := by rw [ev_7, ev_5]
      refine lv_imul (pc := 28) E.1 E.2.1 dX12_notes_28 ?_
      refine lv_topi (fun v_8 ev_8 => ?_)
      have hv_8 : v_8.toInt = 6 * v_7.toInt := by rw [ev_8]; exact mulE (by decide +kernel) rfl (by omega)
      refine lv_istore (pc := 29) (lv' := [(5, .int v_8), (0, .ref M), (1, .int z_h), (2, .int z_lit), (3, .int z_burnt), (4, .int z_done)]) E.1 E.2.1 dX12_notes_29 hl3 (by decide) rfl (fun ls hl9 => ?_)
      refine lv_aload_n (pc := 31) E.1 E.2.1 dX12_notes_31 rfl (lv_at hl9 1 rfl) ?_
      refine x_get (pc := 32) (T := TX12) (N := 70) (ci := 12) (v := .ref (mr 16)) E hw1 inX12 0 16 q_1415 rfl rfl (by decide) rfl rfl dX12_notes_32 ?_
      refine lv_iload (pc := 35) E.1 E.2.1 dX12_notes_35 (lv_at hl9 0 rfl) ?_
      refine lv_aload_n (pc := 37) E.1 E.2.1 dX12_notes_37 rfl (lv_at hl9 1 rfl) ?_
      refine x_get (pc := 38) (T := TX12) (N := 70) (ci := 12) (v := .ref (mr 1)) E hw1 inX12 0 1 q_1400 rfl rfl (by decide) rfl rfl dX12_notes_38 ?_
      refine lv_iconst (pc := 41) (v := 0) E.1 E.2.1 dX12_notes_41 (by decide +kernel) ?_
      refine x_iald (pc := 42) (f := (mf 1)) E hw1 1 rfl (inbE (a := 0) (by decide +kernel) (by omega)) dX12_notes_42 ?_
      refine lv_topi (fun v_10 ev_10 => ?_)
      have hv_10 : v_10.toInt = ((mf 1) 0).toInt := by rw [ev_10]; rfl
      refine x_iastG (pc := 43) (f := (mf 16)) (wf := fun g => (MW cI cJ M mr mi (va_up mf 16 g) mg)) E hw1 9 rfl (inbE (a := v_8.toInt) rfl (by omega)) (fun _ => rfl) dX12_notes_43 (fun g_11 H locs eg_11 hw12 => ?_)
      refine lv_aload_n (pc := 44) E.1 E.2.1 dX12_notes_44 rfl (lv_at hl9 1 rfl) ?_
      refine x_get (pc := 45) (T := TX12) (N := 70) (ci := 12) (v := .ref (mr 16)) E hw12 inX12 0 16 q_1415 rfl rfl (by decide) rfl rfl dX12_notes_45 ?_
      refine lv_iload (pc := 48) E.1 E.2.1 dX12_notes_48 (lv_at hl9 0 rfl) ?_
      refine lv_iconst (pc := 50) (v := 1) E.1 E.2.1 dX12_notes_50 (by decide +kernel) ?_
      refine lv_iadd (pc := 51) E.1 E.2.1 dX12_notes_51 ?_
      refine lv_topi (fun v_13 ev_13 => ?_)
      have hv_13 : v_13.toInt = v_8.toInt + 1 := by rw [ev_13]; exact addE rfl (by decide +kernel) (by omega)
      refine lv_iload_n (pc := 52) E.1 E.2.1 dX12_notes_52 rfl (lv_at hl9 2 rfl) ?_
      refine x_iastG (pc := 53) (f := g_11) (wf := fun g => (MW cI cJ M mr mi (va_up mf 16 g) mg)) E hw12 9 rfl (inbE (a := v_13.toInt) rfl (by omega)) (fun _ => rfl) dX12_notes_53 (fun g_14 H locs eg_14 hw15 => ?_)
      refine lv_aload_n (pc := 54) E.1 E.2.1 dX12_notes_54 rfl (lv_at hl9 1 rfl) ?_
      refine x_get (pc := 55) (T := TX12) (N := 70) (ci := 12) (v := .ref (mr 16)) E hw15 inX12 0 16 q_1415 rfl rfl (by decide) rfl rfl dX12_notes_55 ?_
      refine lv_iload (pc := 58) E.1 E.2.1 dX12_notes_58 (lv_at hl9 0 rfl) ?_
      refine lv_iconst (pc := 60) (v := 2) E.1 E.2.1 dX12_notes_60 (by decide +kernel) ?_
      refine lv_iadd (pc := 61) E.1 E.2.1 dX12_notes_61 ?_
      refine lv_topi (fun v_16 ev_16 => ?_)
      have hv_16 : v_16.toInt = v_8.toInt + 2 := by rw [ev_16]; exact addE rfl (by decide +kernel) (by omega)
      refine lv_iload_n (pc := 62) E.1 E.2.1 dX12_notes_62 rfl (lv_at hl9 3 rfl) ?_
      refine lv_if_eq (pc := 63) (tgt := 70) E.1 E.2.1 dX12_notes_63 (by decide) (fun c_17 => ?_) (fun c_17 => ?_)
      · skip
        have hc_17 := eqE (a := z_lit.toInt) (b := 0) rfl (by decide +kernel) c_17
        refine lv_iconst (pc := 70) (v := 0) E.1 E.2.1 dX12_notes_70 (by decide +kernel) ?_
        refine x_iastG (pc := 71) (f := g_14) (wf := fun g => (MW cI cJ M mr mi (va_up mf 16 g) mg)) E hw15 9 rfl (inbE (a := v_16.toInt) rfl (by omega)) (fun _ => rfl) dX12_notes_71 (fun g_18 H locs eg_18 hw19 => ?_)
        refine lv_aload_n (pc := 72) E.1 E.2.1 dX12_notes_72 rfl (lv_at hl9 1 rfl) ?_
        refine x_get (pc := 73) (T := TX12) (N := 70) (ci := 12) (v := .ref (mr 16)) E hw19 inX12 0 16 q_1415 rfl rfl (by decide) rfl rfl dX12_notes_73 ?_
        refine lv_iload (pc := 76) E.1 E.2.1 dX12_notes_76 (lv_at hl9 0 rfl) ?_
        refine lv_iconst (pc := 78) (v := 3) E.1 E.2.1 dX12_notes_78 (by decide +kernel) ?_
        refine lv_iadd (pc := 79) E.1 E.2.1 dX12_notes_79 ?_
        refine lv_topi (fun v_20 ev_20 => ?_)
        have hv_20 : v_20.toInt = v_8.toInt + 3 := by rw [ev_20]; exact addE rfl (by decide +kernel) (by omega)
        refine lv_iload_n (pc := 80) E.1 E.2.1 dX12_notes_80 rfl (lv_at hl9 4 rfl) ?_
        refine x_iastG (pc := 81) (f := g_18) (wf := fun g => (MW cI cJ M mr mi (va_up mf 16 g) mg)) E hw19 9 rfl (inbE (a := v_20.toInt) rfl (by omega)) (fun _ => rfl) dX12_notes_81 (fun g_21 H locs eg_21 hw22 => ?_)
        refine lv_aload_n (pc := 82) E.1 E.2.1 dX12_notes_82 rfl (lv_at hl9 1 rfl) ?_
        refine x_get (pc := 83) (T := TX12) (N := 70) (ci := 12) (v := .ref (mr 16)) E hw22 inX12 0 16 q_1415 rfl rfl (by decide) rfl rfl dX12_notes_83 ?_
        refine lv_iload (pc := 86) E.1 E.2.1 dX12_notes_86 (lv_at hl9 0 rfl) ?_
        refine lv_iconst (pc := 88) (v := 4) E.1 E.2.1 dX12_notes_88 (by decide +kernel) ?_
        refine lv_iadd (pc := 89) E.1 E.2.1 dX12_notes_89 ?_
        refine lv_topi (fun v_23 ev_23 => ?_)
        have hv_23 : v_23.toInt = v_8.toInt + 4 := by rw [ev_23]; exact addE rfl (by decide +kernel) (by omega)
        refine lv_aload_n (pc := 90) E.1 E.2.1 dX12_notes_90 rfl (lv_at hl9 1 rfl) ?_
        refine x_get (pc := 91) (T := TX12) (N := 70) (ci := 12) (v := .ref (mr 1)) E hw22 inX12 0 1 q_1400 rfl rfl (by decide) rfl rfl dX12_notes_91 ?_
        refine lv_iconst (pc := 94) (v := 4) E.1 E.2.1 dX12_notes_94 (by decide +kernel) ?_
        refine x_iald (pc := 95) (f := (mf 1)) E hw22 1 rfl (inbE (a := 4) (by decide +kernel) (by omega)) dX12_notes_95 ?_
        refine lv_topi (fun v_24 ev_24 => ?_)
        refine x_iastG (pc := 96) (f := g_21) (wf := fun g => (MW cI cJ M mr mi (va_up mf 16 g) mg)) E hw22 9 rfl (inbE (a := v_23.toInt) rfl (by omega)) (fun _ => rfl) dX12_notes_96 (fun g_25 H locs eg_25 hw26 => ?_)
        refine lv_aload_n (pc := 97) E.1 E.2.1 dX12_notes_97 rfl (lv_at hl9 1 rfl) ?_
        refine x_get (pc := 98) (T := TX12) (N := 70) (ci := 12) (v := .ref (mr 16)) E hw26 inX12 0 16 q_1415 rfl rfl (by decide) rfl rfl dX12_notes_98 ?_
        refine lv_iload (pc := 101) E.1 E.2.1 dX12_notes_101 (lv_at hl9 0 rfl) ?_
        refine lv_iconst (pc := 103) (v := 5) E.1 E.2.1 dX12_notes_103 (by decide +kernel) ?_
        refine lv_iadd (pc := 104) E.1 E.2.1 dX12_notes_104 ?_
        refine lv_topi (fun v_27 ev_27 => ?_)
        have hv_27 : v_27.toInt = v_8.toInt + 5 := by rw [ev_27]; exact addE rfl (by decide +kernel) (by omega)
        refine lv_iload (pc := 105) E.1 E.2.1 dX12_notes_105 (lv_at hl9 5 rfl) ?_
        refine x_iastG (pc := 107) (f := g_25) (wf := fun g => (MW cI cJ M mr mi (va_up mf 16 g) mg)) E hw26 9 rfl (inbE (a := v_27.toInt) rfl (by omega)) (fun _ => rfl) dX12_notes_107 (fun g_28 H locs eg_28 hw29 => ?_)
        refine lv_aload_n (pc := 108) E.1 E.2.1 dX12_notes_108 rfl (lv_at hl9 1 rfl) ?_
        refine x_get (pc := 109) (T := TX12) (N := 70) (ci := 12) (v := .ref (mr 1)) E hw29 inX12 0 1 q_1400 rfl rfl (by decide) rfl rfl dX12_notes_109 ?_
        refine lv_iconst (pc := 112) (v := 2) E.1 E.2.1 dX12_notes_112 (by decide +kernel) ?_
        refine lv_aload_n (pc := 113) E.1 E.2.1 dX12_notes_113 rfl (lv_at hl9 1 rfl) ?_
        refine x_get (pc := 114) (T := TX12) (N := 70) (ci := 12) (v := .ref (mr 1)) E hw29 inX12 0 1 q_1400 rfl rfl (by decide) rfl rfl dX12_notes_114 ?_
        refine lv_iconst (pc := 117) (v := 2) E.1 E.2.1 dX12_notes_117 (by decide +kernel) ?_
        refine x_iald (pc := 118) (f := (mf 1)) E hw29 1 rfl (inbE (a := 2) (by decide +kernel) (by omega)) dX12_notes_118 ?_
        refine lv_topi (fun v_30 ev_30 => ?_)
        have hv_30 : v_30.toInt = ((mf 1) 2).toInt := by rw [ev_30]; rfl
        have hsv_30 : v_30.toInt = v_7.toInt := by rw [ev_30, ev_7]
        refine lv_iconst (pc := 119) (v := 1) E.1 E.2.1 dX12_notes_119 (by decide +kernel) ?_
        refine lv_iadd (pc := 120) E.1 E.2.1 dX12_notes_120 ?_
        refine lv_topi (fun v_31 ev_31 => ?_)
        have hv_31 : v_31.toInt = v_30.toInt + 1 := by rw [ev_31]; exact addE rfl (by decide +kernel) (by omega)
        refine x_iastG (pc := 121) (f := (mf 1)) (wf := fun g => (MW cI cJ M mr mi (va_up (va_up mf 1 g) 16 g_28) mg)) E hw29 1 rfl (inbE (a := 2) (by decide +kernel) (by omega)) (fun _ => rfl) dX12_notes_121 (fun g_32 H locs eg_32 hw33 => ?_)
        have ht_34 : (g_32 0).toInt = ((mf 1) 0).toInt := by rw [eg_32]; rfl
        have ht_35 : (g_32 1).toInt = ((mf 1) 1).toInt := by rw [eg_32]; rfl
        have ht_36 : (g_32 2).toInt = (v_31 : Int32).toInt := by rw [eg_32]; rfl
        have ht_37 : (g_32 3).toInt = ((mf 1) 3).toInt := by rw [eg_32]; rfl
        have ht_38 : (g_32 5).toInt = ((mf 1) 5).toInt := by rw [eg_32]; rfl
        exact em_v (w1 := (fun (u : (Nat → Int32) × (Nat → Int32)) => (MW cI cJ M mr mi (va_up (va_up mf 1 u.1) 16 u.2) mg))) E hr hlk (g_32, g_28) hw33 ⟨(by show 0 ≤ (g_32 2).toInt ∧ (g_32 2).toInt ≤ 150; omega), (by show (g_32 3).toInt = ((mf 1) 3).toInt; omega), (by show (g_32 5).toInt = ((mf 1) 5).toInt; omega), (by show (g_32 0).toInt = ((mf 1) 0).toInt; omega), (by show (g_32 1).toInt = ((mf 1) 1).toInt; omega)⟩ (Nat.le_of_ble_eq_true rfl) (Nat.le_of_ble_eq_true rfl) dX12_notes_122
      · skip
        have hc_17 := neE (a := z_lit.toInt) (b := 0) rfl (by decide +kernel) c_17
        refine lv_iconst (pc := 66) (v := 1) E.1 E.2.1 dX12_notes_66 (by decide +kernel) ?_
        refine lv_goto (pc := 67) (tgt := 71) E.1 E.2.1 dX12_notes_67 (by decide) ?_
        refine x_iastG (pc := 71) (f := g_14) (wf := fun g => (MW cI cJ M mr mi (va_up mf 16 g) mg)) E hw15 9 rfl (inbE (a := v_16.toInt) rfl (by omega)) (fun _ => rfl) dX12_notes_71 (fun g_39 H locs eg_39 hw40 => ?_)
        refine lv_aload_n (pc := 72) E.1 E.2.1 dX12_notes_72 rfl (lv_at hl9 1 rfl) ?_
        refine x_get (pc := 73) (T := TX12) (N := 70) (ci := 12) (v := .ref (mr 16)) E hw40 inX12 0 16 q_1415 rfl rfl (by decide) rfl rfl dX12_notes_73 ?_
        refine lv_iload (pc := 76) E.1 E.2.1 dX12_notes_76 (lv_at hl9 0 rfl) ?_
        refine lv_iconst (pc := 78) (v := 3) E.1 E.2.1 dX12_notes_78 (by decide +kernel) ?_
        refine lv_iadd (pc := 79) E.1 E.2.1 dX12_notes_79 ?_
        refine lv_topi (fun v_41 ev_41 => ?_)
        have hv_41 : v_41.toInt = v_8.toInt + 3 := by rw [ev_41]; exact addE rfl (by decide +kernel) (by omega)
        refine lv_iload_n (pc := 80) E.1 E.2.1 dX12_notes_80 rfl (lv_at hl9 4 rfl) ?_
        refine x_iastG (pc := 81) (f := g_39) (wf := fun g => (MW cI cJ M mr mi (va_up mf 16 g) mg)) E hw40 9 rfl (inbE (a := v_41.toInt) rfl (by omega)) (fun _ => rfl) dX12_notes_81 (fun g_42 H locs eg_42 hw43 => ?_)
        refine lv_aload_n (pc := 82) E.1 E.2.1 dX12_notes_82 rfl (lv_at hl9 1 rfl) ?_
        refine x_get (pc := 83) (T := TX12) (N := 70) (ci := 12) (v := .ref (mr 16)) E hw43 inX12 0 16 q_1415 rfl rfl (by decide) rfl rfl dX12_notes_83 ?_
        refine lv_iload (pc := 86) E.1 E.2.1 dX12_notes_86 (lv_at hl9 0 rfl) ?_
        refine lv_iconst (pc := 88) (v := 4) E.1 E.2.1 dX12_notes_88 (by decide +kernel) ?_
        refine lv_iadd (pc := 89) E.1 E.2.1 dX12_notes_89 ?_
        refine lv_topi (fun v_44 ev_44 => ?_)
        have hv_44 : v_44.toInt = v_8.toInt + 4 := by rw [ev_44]; exact addE rfl (by decide +kernel) (by omega)
        refine lv_aload_n (pc := 90) E.1 E.2.1 dX12_notes_90 rfl (lv_at hl9 1 rfl) ?_
        refine x_get (pc := 91) (T := TX12) (N := 70) (ci := 12) (v := .ref (mr 1)) E hw43 inX12 0 1 q_1400 rfl rfl (by decide) rfl rfl dX12_notes_91 ?_
        refine lv_iconst (pc := 94) (v := 4) E.1 E.2.1 dX12_notes_94 (by decide +kernel) ?_
        refine x_iald (pc := 95) (f := (mf 1)) E hw43 1 rfl (inbE (a := 4) (by decide +kernel) (by omega)) dX12_notes_95 ?_
        refine lv_topi (fun v_45 ev_45 => ?_)
        refine x_iastG (pc := 96) (f := g_42) (wf := fun g => (MW cI cJ M mr mi (va_up mf 16 g) mg)) E hw43 9 rfl (inbE (a := v_44.toInt) rfl (by omega)) (fun _ => rfl) dX12_notes_96 (fun g_46 H locs eg_46 hw47 => ?_)
        refine lv_aload_n (pc := 97) E.1 E.2.1 dX12_notes_97 rfl (lv_at hl9 1 rfl) ?_
        refine x_get (pc := 98) (T := TX12) (N := 70) (ci := 12) (v := .ref (mr 16)) E hw47 inX12 0 16 q_1415 rfl rfl (by decide) rfl rfl dX12_notes_98 ?_
        refine lv_iload (pc := 101) E.1 E.2.1 dX12_notes_101 (lv_at hl9 0 rfl) ?_
        refine lv_iconst (pc := 103) (v := 5) E.1 E.2.1 dX12_notes_103 (by decide +kernel) ?_
        refine lv_iadd (pc := 104) E.1 E.2.1 dX12_notes_104 ?_
        refine lv_topi (fun v_48 ev_48 => ?_)
        have hv_48 : v_48.toInt = v_8.toInt + 5 := by rw [ev_48]; exact addE rfl (by decide +kernel) (by omega)
        refine lv_iload (pc := 105) E.1 E.2.1 dX12_notes_105 (lv_at hl9 5 rfl) ?_
        refine x_iastG (pc := 107) (f := g_46) (wf := fun g => (MW cI cJ M mr mi (va_up mf 16 g) mg)) E hw47 9 rfl (inbE (a := v_48.toInt) rfl (by omega)) (fun _ => rfl) dX12_notes_107 (fun g_49 H locs eg_49 hw50 => ?_)
        refine lv_aload_n (pc := 108) E.1 E.2.1 dX12_notes_108 rfl (lv_at hl9 1 rfl) ?_
        refine x_get (pc := 109) (T := TX12) (N := 70) (ci := 12) (v := .ref (mr 1)) E hw50 inX12 0 1 q_1400 rfl rfl (by decide) rfl rfl dX12_notes_109 ?_
        refine lv_iconst (pc := 112) (v := 2) E.1 E.2.1 dX12_notes_112 (by decide +kernel) ?_
        refine lv_aload_n (pc := 113) E.1 E.2.1 dX12_notes_113 rfl (lv_at hl9 1 rfl) ?_
        refine x_get (pc := 114) (T := TX12) (N := 70) (ci := 12) (v := .ref (mr 1)) E hw50 inX12 0 1 q_1400 rfl rfl (by decide) rfl rfl dX12_notes_114 ?_
        refine lv_iconst (pc := 117) (v := 2) E.1 E.2.1 dX12_notes_117 (by decide +kernel) ?_
        refine x_iald (pc := 118) (f := (mf 1)) E hw50 1 rfl (inbE (a := 2) (by decide +kernel) (by omega)) dX12_notes_118 ?_
        refine lv_topi (fun v_51 ev_51 => ?_)
        have hv_51 : v_51.toInt = ((mf 1) 2).toInt := by rw [ev_51]; rfl
        have hsv_51 : v_51.toInt = v_7.toInt := by rw [ev_51, ev_7]
        refine lv_iconst (pc := 119) (v := 1) E.1 E.2.1 dX12_notes_119 (by decide +kernel) ?_
        refine lv_iadd (pc := 120) E.1 E.2.1 dX12_notes_120 ?_
        refine lv_topi (fun v_52 ev_52 => ?_)
        have hv_52 : v_52.toInt = v_51.toInt + 1 := by rw [ev_52]; exact addE rfl (by decide +kernel) (by omega)
        refine x_iastG (pc := 121) (f := (mf 1)) (wf := fun g => (MW cI cJ M mr mi (va_up (va_up mf 1 g) 16 g_49) mg)) E hw50 1 rfl (inbE (a := 2) (by decide +kernel) (by omega)) (fun _ => rfl) dX12_notes_121 (fun g_53 H locs eg_53 hw54 => ?_)
        have ht_55 : (g_53 0).toInt = ((mf 1) 0).toInt := by rw [eg_53]; rfl
        have ht_56 : (g_53 1).toInt = ((mf 1) 1).toInt := by rw [eg_53]; rfl
        have ht_57 : (g_53 2).toInt = (v_52 : Int32).toInt := by rw [eg_53]; rfl
        have ht_58 : (g_53 3).toInt = ((mf 1) 3).toInt := by rw [eg_53]; rfl
        have ht_59 : (g_53 5).toInt = ((mf 1) 5).toInt := by rw [eg_53]; rfl
        exact em_v (w1 := (fun (u : (Nat → Int32) × (Nat → Int32)) => (MW cI cJ M mr mi (va_up (va_up mf 1 u.1) 16 u.2) mg))) E hr hlk (g_53, g_49) hw54 ⟨(by show 0 ≤ (g_53 2).toInt ∧ (g_53 2).toInt ≤ 150; omega), (by show (g_53 3).toInt = ((mf 1) 3).toInt; omega), (by show (g_53 5).toInt = ((mf 1) 5).toInt; omega), (by show (g_53 0).toInt = ((mf 1) 0).toInt; omega), (by show (g_53 1).toInt = ((mf 1) 1).toInt; omega)⟩ (Nat.le_of_ble_eq_true rfl) (Nat.le_of_ble_eq_true rfl) dX12_notes_122
    · skip
      have hc_6 := eqE (a := v_5.toInt) (b := 150) rfl (by decide +kernel) c_6
      exact em_v (w1 := (fun (u : (Nat → Int32) × (Nat → Int32)) => (MW cI cJ M mr mi (va_up (va_up mf 1 u.1) 16 u.2) mg))) E hr hlk ((mf 1), (mf 16)) hw1 ⟨h0, rfl, rfl, rfl, rfl⟩ (Nat.le_of_ble_eq_true rfl) (Nat.le_of_ble_eq_true rfl) dX12_notes_19
set_option maxHeartbeats 4000000 in
set_option maxRecDepth 100000 in
theorem s_nextByRoundU (l : Launch) (D : va_G) (cI cJ : ClassId) (sz M : Nat) (mr : Nat → Nat) (mi : Nat → Int32) (mf : Nat → Nat → Int32) (mg : Nat → Nat → Int64)  (h0 : 0 ≤ ((mf 1) 3).toInt) (h1 : ((mf 1) 3).toInt + 1 ≤ (mi 6).toInt) (h2 : (mi 6).toInt ≤ 10) (h3 : 0 ≤ ((mf 1) 5).toInt) (h4 : ((mf 1) 5).toInt + 1 ≤ (mi 49).toInt) (h5 : (mi 49).toInt ≤ 200) (lf_round : rndOK (mi 49).toInt (mi 6).toInt (mf 50)) : Met l yX12_nextByRound (Cond.code yX12_nextByRound cX12_nextByRound 2 (some .int) :: GW) ({ frames := 3, cells := 0, slots := 0, locals := 82 } : Room) (va_Pc [.ref M] (PW D cI cJ sz (MW cI cJ M mr mi mf mg) xT)) (va_Qi (fun (r : Int32) (u : (Nat → Int32)) => (0 ≤ r.toInt) ∧ (r.toInt + 1 ≤ (mi 6).toInt) ∧ ((u 2).toInt = ((mf 1) 2).toInt) ∧ ((u 3).toInt = ((mf 1) 3).toInt) ∧ ((u 5).toInt = ((mf 1) 5).toInt + 1) ∧ ((u 0).toInt = ((mf 1) 0).toInt) ∧ ((u 1).toInt = ((mf 1) 1).toInt)) (fun u => QW D cI cJ (va_A (MW cI cJ M mr mi mf mg) sz) ((fun (u : (Nat → Int32)) => (MW cI cJ M mr mi (va_up mf 1 u) mg)) u)) (va_A (MW cI cJ M mr mi mf mg) sz)) 0 0 (va_A (MW cI cJ M mr mi mf mg) sz) := by
  refine mk_met (y := yX12_nextByRound) (bytes := cX12_nextByRound) (maxL := 2) (avs := [.ref M]) (WS := (MW cI cJ M mr mi mf mg)) (Qf := fun A => va_Qi (fun (r : Int32) (u : (Nat → Int32)) => (0 ≤ r.toInt) ∧ (r.toInt + 1 ≤ (mi 6).toInt) ∧ ((u 2).toInt = ((mf 1) 2).toInt) ∧ ((u 3).toInt = ((mf 1) 3).toInt) ∧ ((u 5).toInt = ((mf 1) 5).toInt + 1) ∧ ((u 0).toInt = ((mf 1) 0).toInt) ∧ ((u 1).toInt = ((mf 1) 1).toInt)) (fun u => QW D cI cJ A ((fun (u : (Nat → Int32)) => (MW cI cJ M mr mi (va_up mf 1 u) mg)) u)) A) (by decide) (Nat.le_of_ble_eq_true rfl) ?_
  intro p e s m below meth c A ls E hr hlk hnm hX hw1 hl2
  have hl3 : lv_has ls 2 [(0, .ref M)] := hl2
  refine lv_aload_n (pc := 0) E.1 E.2.1 dX12_nextByRound_0 rfl (lv_at hl3 0 rfl) ?_
  refine x_get (pc := 1) (T := TX12) (N := 70) (ci := 12) (v := .ref (mr 50)) E hw1 inX12 0 50 q_1449 rfl rfl (by decide) rfl rfl dX12_nextByRound_1 ?_
  refine lv_aload_n (pc := 4) E.1 E.2.1 dX12_nextByRound_4 rfl (lv_at hl3 0 rfl) ?_
  refine x_get (pc := 5) (T := TX12) (N := 70) (ci := 12) (v := .ref (mr 1)) E hw1 inX12 0 1 q_1400 rfl rfl (by decide) rfl rfl dX12_nextByRound_5 ?_
  refine lv_iconst (pc := 8) (v := 5) E.1 E.2.1 dX12_nextByRound_8 (by decide +kernel) ?_
  refine x_iald (pc := 9) (f := (mf 1)) E hw1 1 rfl (inbE (a := 5) (by decide +kernel) (by omega)) dX12_nextByRound_9 ?_
  refine lv_topi (fun v_4 ev_4 => ?_)
  have hv_4 : v_4.toInt = ((mf 1) 5).toInt := by rw [ev_4]; rfl
  refine x_iald (pc := 10) (f := (mf 50)) E hw1 25 rfl (inbE (a := v_4.toInt) rfl (by omega)) dX12_nextByRound_10 ?_
  refine lv_topi (fun v_5 ev_5 => ?_)
  have hr9 := rndOK_at lf_round ev_5 (by omega)
  refine lv_istore_n (pc := 11) (lv' := [(1, .int v_5), (0, .ref M)]) E.1 E.2.1 dX12_nextByRound_11 rfl hl3 (by decide) rfl (fun ls hl6 => ?_)
  refine lv_aload_n (pc := 12) E.1 E.2.1 dX12_nextByRound_12 rfl (lv_at hl6 1 rfl) ?_
  refine x_get (pc := 13) (T := TX12) (N := 70) (ci := 12) (v := .ref (mr 1)) E hw1 inX12 0 1 q_1400 rfl rfl (by decide) rfl rfl dX12_nextByRound_13 ?_
  refine lv_iconst (pc := 16) (v := 5) E.1 E.2.1 dX12_nextByRound_16 (by decide +kernel) ?_
  refine lv_aload_n (pc := 17) E.1 E.2.1 dX12_nextByRound_17 rfl (lv_at hl6 1 rfl) ?_
  refine x_get (pc := 18) (T := TX12) (N := 70) (ci := 12) (v := .ref (mr 1)) E hw1 inX12 0 1 q_1400 rfl rfl (by decide) rfl rfl dX12_nextByRound_18 ?_
  refine lv_iconst (pc := 21) (v := 5) E.1 E.2.1 dX12_nextByRound_21 (by decide +kernel) ?_
  refine x_iald (pc := 22) (f := (mf 1)) E hw1 1 rfl (inbE (a := 5) (by decide +kernel) (by omega)) dX12_nextByRound_22 ?_
  refine lv_topi (fun v_7 ev_7 => ?_)
  have hv_7 : v_7.toInt = ((mf 1) 5).toInt := by rw [ev_7]; rfl
  have hsv_7 : v_7.toInt = v_4.toInt := by rw [ev_7, ev_4]
  refine lv_iconst (pc := 23) (v := 1) E.1 E.2.1 dX12_nextByRound_23 (by decide +kernel) ?_
  refine lv_iadd (pc := 24) E.1 E.2.1 dX12_nextByRound_24 ?_
  refine lv_topi (fun v_8 ev_8 => ?_)
  have hv_8 : v_8.toInt = v_7.toInt + 1 := by rw [ev_8]; exact addE rfl (by decide +kernel) (by omega)
  refine x_iastG (pc := 25) (f := (mf 1)) (wf := fun g => (MW cI cJ M mr mi (va_up mf 1 g) mg)) E hw1 1 rfl (inbE (a := 5) (by decide +kernel) (by omega)) (fun _ => rfl) dX12_nextByRound_25 (fun g_9 H locs eg_9 hw10 => ?_)
  have ht_11 : (g_9 0).toInt = ((mf 1) 0).toInt := by rw [eg_9]; rfl
  have ht_12 : (g_9 1).toInt = ((mf 1) 1).toInt := by rw [eg_9]; rfl
  have ht_13 : (g_9 2).toInt = ((mf 1) 2).toInt := by rw [eg_9]; rfl
  have ht_14 : (g_9 3).toInt = ((mf 1) 3).toInt := by rw [eg_9]; rfl
  have ht_15 : (g_9 5).toInt = (v_8 : Int32).toInt := by rw [eg_9]; rfl
  refine lv_iload_n (pc := 26) E.1 E.2.1 dX12_nextByRound_26 rfl (lv_at hl6 0 rfl) ?_
  refine lv_iconst (pc := 27) (v := (-1)) E.1 E.2.1 dX12_nextByRound_27 (by decide +kernel) ?_
  refine lv_icmp_eq (pc := 28) (tgt := 49) E.1 E.2.1 dX12_nextByRound_28 (by decide) (fun c_16 => ?_) (fun c_16 => ?_)
  · skip
    have hc_16 := eqE (a := v_5.toInt) (b := (-1)) rfl (by decide +kernel) c_16
    refine lv_aload_n (pc := 49) E.1 E.2.1 dX12_nextByRound_49 rfl (lv_at hl6 1 rfl) ?_
    refine x_get (pc := 50) (T := TX12) (N := 70) (ci := 12) (v := .ref (mr 1)) E hw10 inX12 0 1 q_1400 rfl rfl (by decide) rfl rfl dX12_nextByRound_50 ?_
    refine lv_iconst (pc := 53) (v := 3) E.1 E.2.1 dX12_nextByRound_53 (by decide +kernel) ?_
    refine x_iald (pc := 54) (f := g_9) E hw10 1 rfl (inbE (a := 3) (by decide +kernel) (by omega)) dX12_nextByRound_54 ?_
    refine lv_topi (fun v_17 ev_17 => ?_)
    have hv_17 : v_17.toInt = (g_9 3).toInt := by rw [ev_17]; rfl
    exact em_i (w1 := (fun (u : (Nat → Int32)) => (MW cI cJ M mr mi (va_up mf 1 u) mg))) E hr hlk g_9 hw10 ⟨(by show 0 ≤ v_17.toInt; omega), (by show v_17.toInt + 1 ≤ (mi 6).toInt; omega), (by show (g_9 2).toInt = ((mf 1) 2).toInt; omega), (by show (g_9 3).toInt = ((mf 1) 3).toInt; omega), (by show (g_9 5).toInt = ((mf 1) 5).toInt + 1; omega), (by show (g_9 0).toInt = ((mf 1) 0).toInt; omega), (by show (g_9 1).toInt = ((mf 1) 1).toInt; omega)⟩ (Nat.le_of_ble_eq_true rfl) (Nat.le_of_ble_eq_true rfl) dX12_nextByRound_55
  · skip
    have hc_16 := neE (a := v_5.toInt) (b := (-1)) rfl (by decide +kernel) c_16
    refine lv_aload_n (pc := 31) E.1 E.2.1 dX12_nextByRound_31 rfl (lv_at hl6 1 rfl) ?_
    refine lv_aload_n (pc := 32) E.1 E.2.1 dX12_nextByRound_32 rfl (lv_at hl6 1 rfl) ?_
    refine x_get (pc := 33) (T := TX12) (N := 70) (ci := 12) (v := .ref (mr 1)) E hw10 inX12 0 1 q_1400 rfl rfl (by decide) rfl rfl dX12_nextByRound_33 ?_
    refine lv_iconst (pc := 36) (v := 3) E.1 E.2.1 dX12_nextByRound_36 (by decide +kernel) ?_
    refine x_iald (pc := 37) (f := g_9) E hw10 1 rfl (inbE (a := 3) (by decide +kernel) (by omega)) dX12_nextByRound_37 ?_
    refine lv_topi (fun v_18 ev_18 => ?_)
    have hv_18 : v_18.toInt = (g_9 3).toInt := by rw [ev_18]; rfl
    refine lv_iload_n (pc := 38) E.1 E.2.1 dX12_nextByRound_38 rfl (lv_at hl6 0 rfl) ?_
    refine cm_i (pc := 39) hw10 (rn_M (As := [.int v_18, .int v_5]) (rest := []) E hw10 (s_isReached l D cI cJ _ M mr mi (va_up mf 1 g_9) mg v_18 v_5 (by show 0 ≤ v_18.toInt ∧ v_18.toInt ≤ 9; omega) (by show 0 ≤ v_5.toInt ∧ v_5.toInt ≤ 9; omega)) (gdV q_1843 q_1845 q_93 q_162 q_1846) hdV_X12_isReached ⟨rfl, rfl⟩ ⟨(Nat.le_of_ble_eq_true rfl), (Nat.le_of_ble_eq_true rfl)⟩ ⟨(Nat.le_of_ble_eq_true rfl), (Nat.le_of_ble_eq_true rfl)⟩ 12 rfl rfl rfl rfl hl6.1 rfl (Nat.le_of_ble_eq_true rfl) dX12_nextByRound_39) (fun r_20 u_19 H1 locs hp hw21 => ?_)
    generalize H1 = H at hw21 ⊢
    have hw22 : WD D A s.heap (MW cI cJ M mr mi (va_up mf 1 g_9) mg) H locs := hw21
    have hp_23 := hp
    rcases hp_23 with ⟨rfl, ha_24⟩ | rfl | ⟨rfl, ha_25⟩
    · skip
      have ha_24 : v_18.toInt = v_5.toInt := ha_24
      refine lv_if_eq (pc := 42) (tgt := 49) E.1 E.2.1 dX12_nextByRound_42 (by decide) (fun c_26 => absurd c_26 (mneE (a := 1) (b := 0) (by decide +kernel) (by decide +kernel) (by omega))) (fun _ => ?_)
      refine lv_iload_n (pc := 45) E.1 E.2.1 dX12_nextByRound_45 rfl (lv_at hl6 0 rfl) ?_
      refine lv_goto (pc := 46) (tgt := 55) E.1 E.2.1 dX12_nextByRound_46 (by decide) ?_
      exact em_i (w1 := (fun (u : (Nat → Int32)) => (MW cI cJ M mr mi (va_up mf 1 u) mg))) E hr hlk g_9 hw22 ⟨(by show 0 ≤ v_5.toInt; omega), (by show v_5.toInt + 1 ≤ (mi 6).toInt; omega), (by show (g_9 2).toInt = ((mf 1) 2).toInt; omega), (by show (g_9 3).toInt = ((mf 1) 3).toInt; omega), (by show (g_9 5).toInt = ((mf 1) 5).toInt + 1; omega), (by show (g_9 0).toInt = ((mf 1) 0).toInt; omega), (by show (g_9 1).toInt = ((mf 1) 1).toInt; omega)⟩ (Nat.le_of_ble_eq_true rfl) (Nat.le_of_ble_eq_true rfl) dX12_nextByRound_55
    · skip
      refine lv_if_eq (pc := 42) (tgt := 49) E.1 E.2.1 dX12_nextByRound_42 (by decide) (fun c_27 => absurd c_27 (mneE (a := 1) (b := 0) (by decide +kernel) (by decide +kernel) (by omega))) (fun _ => ?_)
      refine lv_iload_n (pc := 45) E.1 E.2.1 dX12_nextByRound_45 rfl (lv_at hl6 0 rfl) ?_
      refine lv_goto (pc := 46) (tgt := 55) E.1 E.2.1 dX12_nextByRound_46 (by decide) ?_
      exact em_i (w1 := (fun (u : (Nat → Int32)) => (MW cI cJ M mr mi (va_up mf 1 u) mg))) E hr hlk g_9 hw22 ⟨(by show 0 ≤ v_5.toInt; omega), (by show v_5.toInt + 1 ≤ (mi 6).toInt; omega), (by show (g_9 2).toInt = ((mf 1) 2).toInt; omega), (by show (g_9 3).toInt = ((mf 1) 3).toInt; omega), (by show (g_9 5).toInt = ((mf 1) 5).toInt + 1; omega), (by show (g_9 0).toInt = ((mf 1) 0).toInt; omega), (by show (g_9 1).toInt = ((mf 1) 1).toInt; omega)⟩ (Nat.le_of_ble_eq_true rfl) (Nat.le_of_ble_eq_true rfl) dX12_nextByRound_55
    · skip
      have ha_25 : ¬ v_18.toInt = v_5.toInt := ha_25
      refine lv_if_eq (pc := 42) (tgt := 49) E.1 E.2.1 dX12_nextByRound_42 (by decide) (fun _ => ?_) (fun c_28 => absurd (meqE (a := 0) (b := 0) (by decide +kernel) (by decide +kernel) (by omega)) c_28)
      refine lv_aload_n (pc := 49) E.1 E.2.1 dX12_nextByRound_49 rfl (lv_at hl6 1 rfl) ?_
      refine x_get (pc := 50) (T := TX12) (N := 70) (ci := 12) (v := .ref (mr 1)) E hw22 inX12 0 1 q_1400 rfl rfl (by decide) rfl rfl dX12_nextByRound_50 ?_
      refine lv_iconst (pc := 53) (v := 3) E.1 E.2.1 dX12_nextByRound_53 (by decide +kernel) ?_
      refine x_iald (pc := 54) (f := g_9) E hw22 1 rfl (inbE (a := 3) (by decide +kernel) (by omega)) dX12_nextByRound_54 ?_
      refine lv_topi (fun v_29 ev_29 => ?_)
      have hv_29 : v_29.toInt = (g_9 3).toInt := by rw [ev_29]; rfl
      have hsv_29 : v_29.toInt = v_18.toInt := by rw [ev_29, ev_18]
      exact em_i (w1 := (fun (u : (Nat → Int32)) => (MW cI cJ M mr mi (va_up mf 1 u) mg))) E hr hlk g_9 hw22 ⟨(by show 0 ≤ v_29.toInt; omega), (by show v_29.toInt + 1 ≤ (mi 6).toInt; omega), (by show (g_9 2).toInt = ((mf 1) 2).toInt; omega), (by show (g_9 3).toInt = ((mf 1) 3).toInt; omega), (by show (g_9 5).toInt = ((mf 1) 5).toInt + 1; omega), (by show (g_9 0).toInt = ((mf 1) 0).toInt; omega), (by show (g_9 1).toInt = ((mf 1) 1).toInt; omega)⟩ (Nat.le_of_ble_eq_true rfl) (Nat.le_of_ble_eq_true rfl) dX12_nextByRound_55

