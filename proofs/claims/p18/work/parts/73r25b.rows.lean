set_option maxHeartbeats 4000000 in
set_option maxRecDepth 100000 in
theorem s_mostOf2 (l : Launch) (D : va_G) (cI cJ : ClassId) (sz M : Nat) (mr : Nat → Nat) (mi : Nat → Int32) (mf : Nat → Nat → Int32) (mg : Nat → Nat → Int64) (z_what : Int32) (h0 : 0 ≤ (mi 6).toInt ∧ (mi 6).toInt ≤ 10) : Met l yX12_mostOf (Cond.code yX12_mostOf cX12_mostOf 2 (some .int) :: GW) ({ frames := 1, cells := 0, slots := 0, locals := 40 } : Room) (va_Pc [.ref M, .int z_what] (PW D cI cJ sz (MW cI cJ M mr mi mf mg) xT)) (va_Qi (fun (r : Int32) (u : Unit) => ((r = 9 ∧ z_what.toInt = 0) ∨ (r = 1000 ∧ z_what.toInt = 1) ∨ (z_what.toInt = 5 ∧ r.toInt = (mi 6).toInt - 1) ∨ (r = 20 ∧ z_what.toInt = 6) ∨ (r = 999 ∧ z_what.toInt = 7) ∨ (r = 9999 ∧ z_what.toInt = 10) ∨ (r = 99 ∧ ¬ z_what.toInt = 0 ∧ ¬ z_what.toInt = 1 ∧ ¬ z_what.toInt = 5 ∧ ¬ z_what.toInt = 6 ∧ ¬ z_what.toInt = 7 ∧ ¬ z_what.toInt = 10))) (fun u => QW D cI cJ (va_A (MW cI cJ M mr mi mf mg) sz) ((fun (u : Unit) => (MW cI cJ M mr mi mf mg)) u)) (va_A (MW cI cJ M mr mi mf mg) sz)) 0 0 (va_A (MW cI cJ M mr mi mf mg) sz) := by
  refine mk_met (y := yX12_mostOf) (bytes := cX12_mostOf) (maxL := 2) (avs := [.ref M, .int z_what]) (WS := (MW cI cJ M mr mi mf mg)) (Qf := fun A => va_Qi (fun (r : Int32) (u : Unit) => ((r = 9 ∧ z_what.toInt = 0) ∨ (r = 1000 ∧ z_what.toInt = 1) ∨ (z_what.toInt = 5 ∧ r.toInt = (mi 6).toInt - 1) ∨ (r = 20 ∧ z_what.toInt = 6) ∨ (r = 999 ∧ z_what.toInt = 7) ∨ (r = 9999 ∧ z_what.toInt = 10) ∨ (r = 99 ∧ ¬ z_what.toInt = 0 ∧ ¬ z_what.toInt = 1 ∧ ¬ z_what.toInt = 5 ∧ ¬ z_what.toInt = 6 ∧ ¬ z_what.toInt = 7 ∧ ¬ z_what.toInt = 10))) (fun u => QW D cI cJ A ((fun (u : Unit) => (MW cI cJ M mr mi mf mg)) u)) A) (by decide) (Nat.le_of_ble_eq_true rfl) ?_
  intro p e s m below meth c A ls E hr hlk hnm hX hw1 hl2
  have hl3 : lv_has ls 2 [(0, .ref M), (1, .int z_what)] := hl2
  refine lv_iload_n (pc := 0) E.1 E.2.1 dX12_mostOf_0 rfl (lv_at hl3 1 rfl) ?_
  refine lv_if_ne (pc := 1) (tgt := 7) E.1 E.2.1 dX12_mostOf_1 (by decide) (fun c_4 => ?_) (fun c_4 => ?_)
  · skip
    have hc_4 := neE (a := z_what.toInt) (b := 0) rfl (by decide +kernel) c_4
    refine lv_iload_n (pc := 7) E.1 E.2.1 dX12_mostOf_7 rfl (lv_at hl3 1 rfl) ?_
    refine lv_iconst (pc := 8) (v := 1) E.1 E.2.1 dX12_mostOf_8 (by decide +kernel) ?_
    refine lv_icmp_ne (pc := 9) (tgt := 16) E.1 E.2.1 dX12_mostOf_9 (by decide) (fun c_5 => ?_) (fun c_5 => ?_)
    · skip
      have hc_5 := neE (a := z_what.toInt) (b := 1) rfl (by decide +kernel) c_5
      refine lv_iload_n (pc := 16) E.1 E.2.1 dX12_mostOf_16 rfl (lv_at hl3 1 rfl) ?_
      refine lv_iconst (pc := 17) (v := 5) E.1 E.2.1 dX12_mostOf_17 (by decide +kernel) ?_
      refine lv_icmp_ne (pc := 18) (tgt := 28) E.1 E.2.1 dX12_mostOf_18 (by decide) (fun c_6 => ?_) (fun c_6 => ?_)
      · skip
        have hc_6 := neE (a := z_what.toInt) (b := 5) rfl (by decide +kernel) c_6
        refine lv_iload_n (pc := 28) E.1 E.2.1 dX12_mostOf_28 rfl (lv_at hl3 1 rfl) ?_
        refine lv_bipush (pc := 29) (v := 6) E.1 E.2.1 dX12_mostOf_29 (by decide +kernel) ?_
        refine lv_icmp_ne (pc := 31) (tgt := 37) E.1 E.2.1 dX12_mostOf_31 (by decide) (fun c_7 => ?_) (fun c_7 => ?_)
        · skip
          have hc_7 := neE (a := z_what.toInt) (b := 6) rfl (by decide +kernel) c_7
          refine lv_iload_n (pc := 37) E.1 E.2.1 dX12_mostOf_37 rfl (lv_at hl3 1 rfl) ?_
          refine lv_bipush (pc := 38) (v := 7) E.1 E.2.1 dX12_mostOf_38 (by decide +kernel) ?_
          refine lv_icmp_ne (pc := 40) (tgt := 49) E.1 E.2.1 dX12_mostOf_40 (by decide) (fun c_8 => ?_) (fun c_8 => ?_)
          · skip
            have hc_8 := neE (a := z_what.toInt) (b := 7) rfl (by decide +kernel) c_8
            refine lv_iload_n (pc := 49) E.1 E.2.1 dX12_mostOf_49 rfl (lv_at hl3 1 rfl) ?_
            refine lv_bipush (pc := 50) (v := 10) E.1 E.2.1 dX12_mostOf_50 (by decide +kernel) ?_
            refine lv_icmp_ne (pc := 52) (tgt := 61) E.1 E.2.1 dX12_mostOf_52 (by decide) (fun c_9 => ?_) (fun c_9 => ?_)
            · skip
              have hc_9 := neE (a := z_what.toInt) (b := 10) rfl (by decide +kernel) c_9
              refine lv_bipush (pc := 61) (v := 99) E.1 E.2.1 dX12_mostOf_61 (by decide +kernel) ?_
              exact em_i (w1 := (fun (u : Unit) => (MW cI cJ M mr mi mf mg))) E hr hlk () hw1 (Or.inr (Or.inr (Or.inr (Or.inr (Or.inr (Or.inr (⟨rfl, (by show ¬ z_what.toInt = 0; omega), (by show ¬ z_what.toInt = 1; omega), (by show ¬ z_what.toInt = 5; omega), (by show ¬ z_what.toInt = 6; omega), (by show ¬ z_what.toInt = 7; omega), (by show ¬ z_what.toInt = 10; omega)⟩))))))) (Nat.le_of_ble_eq_true rfl) (Nat.le_of_ble_eq_true rfl) dX12_mostOf_63
            · skip
              have hc_9 := eqE (a := z_what.toInt) (b := 10) rfl (by decide +kernel) c_9
              refine lv_sipush (pc := 55) (v := 9999) E.1 E.2.1 dX12_mostOf_55 (by decide +kernel) ?_
              refine lv_goto (pc := 58) (tgt := 63) E.1 E.2.1 dX12_mostOf_58 (by decide) ?_
              exact em_i (w1 := (fun (u : Unit) => (MW cI cJ M mr mi mf mg))) E hr hlk () hw1 (Or.inr (Or.inr (Or.inr (Or.inr (Or.inr (Or.inl ⟨rfl, (by show z_what.toInt = 10; omega)⟩)))))) (Nat.le_of_ble_eq_true rfl) (Nat.le_of_ble_eq_true rfl) dX12_mostOf_63
          · skip
            have hc_8 := eqE (a := z_what.toInt) (b := 7) rfl (by decide +kernel) c_8
            refine lv_sipush (pc := 43) (v := 999) E.1 E.2.1 dX12_mostOf_43 (by decide +kernel) ?_
            refine lv_goto (pc := 46) (tgt := 63) E.1 E.2.1 dX12_mostOf_46 (by decide) ?_
            exact em_i (w1 := (fun (u : Unit) => (MW cI cJ M mr mi mf mg))) E hr hlk () hw1 (Or.inr (Or.inr (Or.inr (Or.inr (Or.inl ⟨rfl, (by show z_what.toInt = 7; omega)⟩))))) (Nat.le_of_ble_eq_true rfl) (Nat.le_of_ble_eq_true rfl) dX12_mostOf_63
        · skip
          have hc_7 := eqE (a := z_what.toInt) (b := 6) rfl (by decide +kernel) c_7
          refine lv_bipush (pc := 34) (v := 20) E.1 E.2.1 dX12_mostOf_34 (by decide +kernel) ?_
          exact em_i (w1 := (fun (u : Unit) => (MW cI cJ M mr mi mf mg))) E hr hlk () hw1 (Or.inr (Or.inr (Or.inr (Or.inl ⟨rfl, (by show z_what.toInt = 6; omega)⟩)))) (Nat.le_of_ble_eq_true rfl) (Nat.le_of_ble_eq_true rfl) dX12_mostOf_36
      · skip
        have hc_6 := eqE (a := z_what.toInt) (b := 5) rfl (by decide +kernel) c_6
        refine lv_aload_n (pc := 21) E.1 E.2.1 dX12_mostOf_21 rfl (lv_at hl3 0 rfl) ?_
        refine x_get (pc := 22) (T := TX12) (N := 70) (ci := 12) (v := .int (mi 6)) E hw1 inX12 0 6 q_1405 rfl rfl (by decide) rfl rfl dX12_mostOf_22 ?_
        refine lv_iconst (pc := 25) (v := 1) E.1 E.2.1 dX12_mostOf_25 (by decide +kernel) ?_
        refine lv_isub (pc := 26) E.1 E.2.1 dX12_mostOf_26 ?_
        refine lv_topi (fun v_10 ev_10 => ?_)
        have hv_10 : v_10.toInt = (mi 6).toInt - 1 := by rw [ev_10]; exact subE rfl (by decide +kernel) (by omega)
        exact em_i (w1 := (fun (u : Unit) => (MW cI cJ M mr mi mf mg))) E hr hlk () hw1 (Or.inr (Or.inr (Or.inl ⟨(by show z_what.toInt = 5; omega), (by show v_10.toInt = (mi 6).toInt - 1; omega)⟩))) (Nat.le_of_ble_eq_true rfl) (Nat.le_of_ble_eq_true rfl) dX12_mostOf_27
    · skip
      have hc_5 := eqE (a := z_what.toInt) (b := 1) rfl (by decide +kernel) c_5
      refine lv_sipush (pc := 12) (v := 1000) E.1 E.2.1 dX12_mostOf_12 (by decide +kernel) ?_
      exact em_i (w1 := (fun (u : Unit) => (MW cI cJ M mr mi mf mg))) E hr hlk () hw1 (Or.inr (Or.inl ⟨rfl, (by show z_what.toInt = 1; omega)⟩)) (Nat.le_of_ble_eq_true rfl) (Nat.le_of_ble_eq_true rfl) dX12_mostOf_15
  · skip
    have hc_4 := eqE (a := z_what.toInt) (b := 0) rfl (by decide +kernel) c_4
    refine lv_bipush (pc := 4) (v := 9) E.1 E.2.1 dX12_mostOf_4 (by decide +kernel) ?_
    exact em_i (w1 := (fun (u : Unit) => (MW cI cJ M mr mi mf mg))) E hr hlk () hw1 (Or.inl ⟨rfl, (by show z_what.toInt = 0; omega)⟩) (Nat.le_of_ble_eq_true rfl) (Nat.le_of_ble_eq_true rfl) dX12_mostOf_6

set_option maxHeartbeats 4000000 in
set_option maxRecDepth 100000 in
theorem s_canSet (l : Launch) (D : va_G) (cI cJ : ClassId) (sz M : Nat) (mr : Nat → Nat) (mi : Nat → Int32) (mf : Nat → Nat → Int32) (mg : Nat → Nat → Int64) (z_what : Int32) (z_who : Int32) (z_v : Int32) (h0 : 0 ≤ (mi 6).toInt ∧ (mi 6).toInt ≤ 10) : Met l yX12_canSet (Cond.code yX12_canSet cX12_canSet 4 (some .boolean) :: GW) ({ frames := 2, cells := 0, slots := 0, locals := 63 } : Room) (va_Pc [.ref M, .int z_what, .int z_who, .int z_v] (PW D cI cJ sz (MW cI cJ M mr mi mf mg) xT)) (va_Qi (fun (r : Int32) (u : Unit) => ((r = 0) ∨ (r = 1 ∧ z_what.toInt = 5 ∧ 0 ≤ z_v.toInt ∧ z_v.toInt + 1 ≤ (mi 6).toInt) ∨ (r = 1 ∧ z_what.toInt = 4 ∧ 1 ≤ z_v.toInt ∧ z_v.toInt ≤ 99) ∨ (r = 1 ∧ z_what.toInt = 3) ∨ (r = 1 ∧ z_what.toInt = 6 ∧ 1 ≤ z_v.toInt ∧ z_v.toInt ≤ 20 ∧ 0 ≤ z_who.toInt ∧ z_who.toInt + 1 ≤ (mi 6).toInt) ∨ (r = 1 ∧ 0 ≤ z_what.toInt ∧ z_what.toInt ≤ 2) ∨ (r = 1 ∧ 7 ≤ z_what.toInt ∧ z_what.toInt ≤ 10 ∧ 0 ≤ z_who.toInt ∧ z_who.toInt + 1 ≤ (mi 6).toInt))) (fun u => QW D cI cJ (va_A (MW cI cJ M mr mi mf mg) sz) ((fun (u : Unit) => (MW cI cJ M mr mi mf mg)) u)) (va_A (MW cI cJ M mr mi mf mg) sz)) 0 0 (va_A (MW cI cJ M mr mi mf mg) sz) := by
  refine mk_met (y := yX12_canSet) (bytes := cX12_canSet) (maxL := 4) (avs := [.ref M, .int z_what, .int z_who, .int z_v]) (WS := (MW cI cJ M mr mi mf mg)) (Qf := fun A => va_Qi (fun (r : Int32) (u : Unit) => ((r = 0) ∨ (r = 1 ∧ z_what.toInt = 5 ∧ 0 ≤ z_v.toInt ∧ z_v.toInt + 1 ≤ (mi 6).toInt) ∨ (r = 1 ∧ z_what.toInt = 4 ∧ 1 ≤ z_v.toInt ∧ z_v.toInt ≤ 99) ∨ (r = 1 ∧ z_what.toInt = 3) ∨ (r = 1 ∧ z_what.toInt = 6 ∧ 1 ≤ z_v.toInt ∧ z_v.toInt ≤ 20 ∧ 0 ≤ z_who.toInt ∧ z_who.toInt + 1 ≤ (mi 6).toInt) ∨ (r = 1 ∧ 0 ≤ z_what.toInt ∧ z_what.toInt ≤ 2) ∨ (r = 1 ∧ 7 ≤ z_what.toInt ∧ z_what.toInt ≤ 10 ∧ 0 ≤ z_who.toInt ∧ z_who.toInt + 1 ≤ (mi 6).toInt))) (fun u => QW D cI cJ A ((fun (u : Unit) => (MW cI cJ M mr mi mf mg)) u)) A) (by decide) (Nat.le_of_ble_eq_true rfl) ?_
  intro p e s m below meth c A ls E hr hlk hnm hX hw1 hl2
  have hl3 : lv_has ls 4 [(0, .ref M), (1, .int z_what), (2, .int z_who), (3, .int z_v)] := hl2
  refine lv_aload_n (pc := 0) E.1 E.2.1 dX12_canSet_0 rfl (lv_at hl3 0 rfl) ?_
  refine lv_iload_n (pc := 1) E.1 E.2.1 dX12_canSet_1 rfl (lv_at hl3 1 rfl) ?_
  refine lv_iconst (pc := 2) (v := 0) E.1 E.2.1 dX12_canSet_2 (by decide +kernel) ?_
  refine lv_bipush (pc := 3) (v := 10) E.1 E.2.1 dX12_canSet_3 (by decide +kernel) ?_
  refine cm_i (pc := 5) hw1 (rn_M (As := [.int z_what, .int 0, .int 10]) (rest := []) E hw1 (s_isIn l D cI cJ _ M mr mi mf mg z_what 0 10) (gdV q_1622 q_1624 q_46 q_162 q_1625) hdV_X12_isIn ⟨rfl, rfl⟩ ⟨(Nat.le_of_ble_eq_true rfl), (Nat.le_of_ble_eq_true rfl)⟩ ⟨(Nat.le_of_ble_eq_true rfl), (Nat.le_of_ble_eq_true rfl)⟩ 12 rfl rfl rfl rfl hl3.1 rfl (Nat.le_of_ble_eq_true rfl) dX12_canSet_5) (fun r_5 u_4 H1 locs hp hw6 => ?_)
  generalize H1 = H at hw6 ⊢
  have hw7 : WD D A s.heap (MW cI cJ M mr mi mf mg) H locs := hw6
  have hp_8 := hp
  rcases hp_8 with ⟨rfl, ha_9⟩ | ⟨rfl, ha_10⟩ | ⟨rfl, ha_11, ha_12⟩
  · skip
    have ha_9 : z_what.toInt < (0 : Int32).toInt := ha_9
    rw [show (0 : Int32).toInt = 0 from by decide +kernel] at ha_9
    refine lv_if_eq (pc := 8) (tgt := 24) E.1 E.2.1 dX12_canSet_8 (by decide) (fun _ => ?_) (fun c_13 => absurd (meqE (a := 0) (b := 0) (by decide +kernel) (by decide +kernel) (by omega)) c_13)
    refine lv_iconst (pc := 24) (v := 0) E.1 E.2.1 dX12_canSet_24 (by decide +kernel) ?_
    exact em_z (w1 := (fun (u : Unit) => (MW cI cJ M mr mi mf mg))) E hr hlk () hw7 (Or.inl rfl) (by decide +kernel) (Nat.le_of_ble_eq_true rfl) (Nat.le_of_ble_eq_true rfl) dX12_canSet_25
  · skip
    have ha_10 : (10 : Int32).toInt < z_what.toInt := ha_10
    rw [show (10 : Int32).toInt = 10 from by decide +kernel] at ha_10
    refine lv_if_eq (pc := 8) (tgt := 24) E.1 E.2.1 dX12_canSet_8 (by decide) (fun _ => ?_) (fun c_14 => absurd (meqE (a := 0) (b := 0) (by decide +kernel) (by decide +kernel) (by omega)) c_14)
    refine lv_iconst (pc := 24) (v := 0) E.1 E.2.1 dX12_canSet_24 (by decide +kernel) ?_
    exact em_z (w1 := (fun (u : Unit) => (MW cI cJ M mr mi mf mg))) E hr hlk () hw7 (Or.inl rfl) (by decide +kernel) (Nat.le_of_ble_eq_true rfl) (Nat.le_of_ble_eq_true rfl) dX12_canSet_25
  · skip
    have ha_11 : (0 : Int32).toInt ≤ z_what.toInt := ha_11
    rw [show (0 : Int32).toInt = 0 from by decide +kernel] at ha_11
    have ha_12 : z_what.toInt ≤ (10 : Int32).toInt := ha_12
    rw [show (10 : Int32).toInt = 10 from by decide +kernel] at ha_12
    refine lv_if_eq (pc := 8) (tgt := 24) E.1 E.2.1 dX12_canSet_8 (by decide) (fun c_15 => absurd c_15 (mneE (a := 1) (b := 0) (by decide +kernel) (by decide +kernel) (by omega))) (fun _ => ?_)
    refine lv_iload_n (pc := 11) E.1 E.2.1 dX12_canSet_11 rfl (lv_at hl3 1 rfl) ?_
    refine lv_iconst (pc := 12) (v := 5) E.1 E.2.1 dX12_canSet_12 (by decide +kernel) ?_
    refine lv_icmp_le (pc := 13) (tgt := 26) E.1 E.2.1 dX12_canSet_13 (by decide) (fun c_16 => ?_) (fun c_16 => ?_)
    · skip
      have hc_16 := leE (a := z_what.toInt) (b := 5) rfl (by decide +kernel) c_16
      refine lv_aload_n (pc := 26) E.1 E.2.1 dX12_canSet_26 rfl (lv_at hl3 0 rfl) ?_
      refine lv_iload_n (pc := 27) E.1 E.2.1 dX12_canSet_27 rfl (lv_at hl3 3 rfl) ?_
      refine lv_iload_n (pc := 28) E.1 E.2.1 dX12_canSet_28 rfl (lv_at hl3 1 rfl) ?_
      refine lv_iconst (pc := 29) (v := 3) E.1 E.2.1 dX12_canSet_29 (by decide +kernel) ?_
      refine lv_icmp_eq (pc := 30) (tgt := 44) E.1 E.2.1 dX12_canSet_30 (by decide) (fun c_17 => ?_) (fun c_17 => ?_)
      · skip
        have hc_17 := eqE (a := z_what.toInt) (b := 3) rfl (by decide +kernel) c_17
        refine lv_iconst (pc := 44) (v := 1) E.1 E.2.1 dX12_canSet_44 (by decide +kernel) ?_
        refine lv_goto (pc := 45) (tgt := 49) E.1 E.2.1 dX12_canSet_45 (by decide) ?_
        refine lv_aload_n (pc := 49) E.1 E.2.1 dX12_canSet_49 rfl (lv_at hl3 0 rfl) ?_
        refine lv_iload_n (pc := 50) E.1 E.2.1 dX12_canSet_50 rfl (lv_at hl3 1 rfl) ?_
        refine cm_i (pc := 51) hw7 (rn_M (As := [.int z_what]) (rest := [.int 1, .int z_v, .ref M]) E hw7 (s_mostOf2 l D cI cJ _ M mr mi mf mg z_what h0) (gdV q_1638 q_1640 q_49 q_162 q_1641) hdV_X12_mostOf ⟨rfl, rfl⟩ ⟨(Nat.le_of_ble_eq_true rfl), (Nat.le_of_ble_eq_true rfl)⟩ ⟨(Nat.le_of_ble_eq_true rfl), (Nat.le_of_ble_eq_true rfl)⟩ 12 rfl rfl rfl rfl hl3.1 rfl (Nat.le_of_ble_eq_true rfl) dX12_canSet_51) (fun r_19 u_18 H1 locs hp hw20 => ?_)
        generalize H1 = H at hw20 ⊢
        have hw21 : WD D A s.heap (MW cI cJ M mr mi mf mg) H locs := hw20
        have hp_22 := hp
        rcases hp_22 with ⟨rfl, ha_23⟩ | ⟨rfl, ha_24⟩ | ⟨ha_25, ha_26⟩ | ⟨rfl, ha_27⟩ | ⟨rfl, ha_28⟩ | ⟨rfl, ha_29⟩ | ⟨rfl, ha_30, ha_31, ha_32, ha_33, ha_34, ha_35⟩
        · skip
          have ha_23 : z_what.toInt = 0 := ha_23
          exfalso; omega
        · skip
          have ha_24 : z_what.toInt = 1 := ha_24
          exfalso; omega
        · skip
          have ha_25 : z_what.toInt = 5 := ha_25
          have ha_26 : r_19.toInt = (mi 6).toInt - 1 := ha_26
          exfalso; omega
        · skip
          have ha_27 : z_what.toInt = 6 := ha_27
          exfalso; omega
        · skip
          have ha_28 : z_what.toInt = 7 := ha_28
          exfalso; omega
        · skip
          have ha_29 : z_what.toInt = 10 := ha_29
          exfalso; omega
        · skip
          have ha_30 : ¬ z_what.toInt = 0 := ha_30
          have ha_31 : ¬ z_what.toInt = 1 := ha_31
          have ha_32 : ¬ z_what.toInt = 5 := ha_32
          have ha_33 : ¬ z_what.toInt = 6 := ha_33
          have ha_34 : ¬ z_what.toInt = 7 := ha_34
          have ha_35 : ¬ z_what.toInt = 10 := ha_35
          refine cm_i (pc := 54) hw21 (rn_M (As := [.int z_v, .int 1, .int 99]) (rest := []) E hw21 (s_isIn l D cI cJ _ M mr mi mf mg z_v 1 99) (gdV q_1622 q_1624 q_46 q_162 q_1625) hdV_X12_isIn ⟨rfl, rfl⟩ ⟨(Nat.le_of_ble_eq_true rfl), (Nat.le_of_ble_eq_true rfl)⟩ ⟨(Nat.le_of_ble_eq_true rfl), (Nat.le_of_ble_eq_true rfl)⟩ 12 rfl rfl rfl rfl hl3.1 rfl (Nat.le_of_ble_eq_true rfl) dX12_canSet_54) (fun r_37 u_36 H1 locs hp hw38 => ?_)
          generalize H1 = H at hw38 ⊢
          have hw39 : WD D A s.heap (MW cI cJ M mr mi mf mg) H locs := hw38
          have hp_40 := hp
          rcases hp_40 with ⟨rfl, ha_41⟩ | ⟨rfl, ha_42⟩ | ⟨rfl, ha_43, ha_44⟩
          · skip
            have ha_41 : z_v.toInt < (1 : Int32).toInt := ha_41
            rw [show (1 : Int32).toInt = 1 from by decide +kernel] at ha_41
            exact em_z (w1 := (fun (u : Unit) => (MW cI cJ M mr mi mf mg))) E hr hlk () hw39 (Or.inl rfl) (by decide +kernel) (Nat.le_of_ble_eq_true rfl) (Nat.le_of_ble_eq_true rfl) dX12_canSet_57
          · skip
            have ha_42 : (99 : Int32).toInt < z_v.toInt := ha_42
            rw [show (99 : Int32).toInt = 99 from by decide +kernel] at ha_42
            exact em_z (w1 := (fun (u : Unit) => (MW cI cJ M mr mi mf mg))) E hr hlk () hw39 (Or.inl rfl) (by decide +kernel) (Nat.le_of_ble_eq_true rfl) (Nat.le_of_ble_eq_true rfl) dX12_canSet_57
          · skip
            have ha_43 : (1 : Int32).toInt ≤ z_v.toInt := ha_43
            rw [show (1 : Int32).toInt = 1 from by decide +kernel] at ha_43
            have ha_44 : z_v.toInt ≤ (99 : Int32).toInt := ha_44
            rw [show (99 : Int32).toInt = 99 from by decide +kernel] at ha_44
            exact em_z (w1 := (fun (u : Unit) => (MW cI cJ M mr mi mf mg))) E hr hlk () hw39 (Or.inr (Or.inr (Or.inr (Or.inl ⟨rfl, (by show z_what.toInt = 3; omega)⟩)))) (by decide +kernel) (Nat.le_of_ble_eq_true rfl) (Nat.le_of_ble_eq_true rfl) dX12_canSet_57
      · skip
        have hc_17 := neE (a := z_what.toInt) (b := 3) rfl (by decide +kernel) c_17
        refine lv_iload_n (pc := 33) E.1 E.2.1 dX12_canSet_33 rfl (lv_at hl3 1 rfl) ?_
        refine lv_iconst (pc := 34) (v := 4) E.1 E.2.1 dX12_canSet_34 (by decide +kernel) ?_
        refine lv_icmp_eq (pc := 35) (tgt := 44) E.1 E.2.1 dX12_canSet_35 (by decide) (fun c_45 => ?_) (fun c_45 => ?_)
        · skip
          have hc_45 := eqE (a := z_what.toInt) (b := 4) rfl (by decide +kernel) c_45
          refine lv_iconst (pc := 44) (v := 1) E.1 E.2.1 dX12_canSet_44 (by decide +kernel) ?_
          refine lv_goto (pc := 45) (tgt := 49) E.1 E.2.1 dX12_canSet_45 (by decide) ?_
          refine lv_aload_n (pc := 49) E.1 E.2.1 dX12_canSet_49 rfl (lv_at hl3 0 rfl) ?_
          refine lv_iload_n (pc := 50) E.1 E.2.1 dX12_canSet_50 rfl (lv_at hl3 1 rfl) ?_
          refine cm_i (pc := 51) hw7 (rn_M (As := [.int z_what]) (rest := [.int 1, .int z_v, .ref M]) E hw7 (s_mostOf2 l D cI cJ _ M mr mi mf mg z_what h0) (gdV q_1638 q_1640 q_49 q_162 q_1641) hdV_X12_mostOf ⟨rfl, rfl⟩ ⟨(Nat.le_of_ble_eq_true rfl), (Nat.le_of_ble_eq_true rfl)⟩ ⟨(Nat.le_of_ble_eq_true rfl), (Nat.le_of_ble_eq_true rfl)⟩ 12 rfl rfl rfl rfl hl3.1 rfl (Nat.le_of_ble_eq_true rfl) dX12_canSet_51) (fun r_47 u_46 H1 locs hp hw48 => ?_)
          generalize H1 = H at hw48 ⊢
          have hw49 : WD D A s.heap (MW cI cJ M mr mi mf mg) H locs := hw48
          have hp_50 := hp
          rcases hp_50 with ⟨rfl, ha_51⟩ | ⟨rfl, ha_52⟩ | ⟨ha_53, ha_54⟩ | ⟨rfl, ha_55⟩ | ⟨rfl, ha_56⟩ | ⟨rfl, ha_57⟩ | ⟨rfl, ha_58, ha_59, ha_60, ha_61, ha_62, ha_63⟩
          · skip
            have ha_51 : z_what.toInt = 0 := ha_51
            exfalso; omega
          · skip
            have ha_52 : z_what.toInt = 1 := ha_52
            exfalso; omega
          · skip
            have ha_53 : z_what.toInt = 5 := ha_53
            have ha_54 : r_47.toInt = (mi 6).toInt - 1 := ha_54
            exfalso; omega
          · skip
            have ha_55 : z_what.toInt = 6 := ha_55
            exfalso; omega
          · skip
            have ha_56 : z_what.toInt = 7 := ha_56
            exfalso; omega
          · skip
            have ha_57 : z_what.toInt = 10 := ha_57
            exfalso; omega
          · skip
            have ha_58 : ¬ z_what.toInt = 0 := ha_58
            have ha_59 : ¬ z_what.toInt = 1 := ha_59
            have ha_60 : ¬ z_what.toInt = 5 := ha_60
            have ha_61 : ¬ z_what.toInt = 6 := ha_61
            have ha_62 : ¬ z_what.toInt = 7 := ha_62
            have ha_63 : ¬ z_what.toInt = 10 := ha_63
            refine cm_i (pc := 54) hw49 (rn_M (As := [.int z_v, .int 1, .int 99]) (rest := []) E hw49 (s_isIn l D cI cJ _ M mr mi mf mg z_v 1 99) (gdV q_1622 q_1624 q_46 q_162 q_1625) hdV_X12_isIn ⟨rfl, rfl⟩ ⟨(Nat.le_of_ble_eq_true rfl), (Nat.le_of_ble_eq_true rfl)⟩ ⟨(Nat.le_of_ble_eq_true rfl), (Nat.le_of_ble_eq_true rfl)⟩ 12 rfl rfl rfl rfl hl3.1 rfl (Nat.le_of_ble_eq_true rfl) dX12_canSet_54) (fun r_65 u_64 H1 locs hp hw66 => ?_)
            generalize H1 = H at hw66 ⊢
            have hw67 : WD D A s.heap (MW cI cJ M mr mi mf mg) H locs := hw66
            have hp_68 := hp
            rcases hp_68 with ⟨rfl, ha_69⟩ | ⟨rfl, ha_70⟩ | ⟨rfl, ha_71, ha_72⟩
            · skip
              have ha_69 : z_v.toInt < (1 : Int32).toInt := ha_69
              rw [show (1 : Int32).toInt = 1 from by decide +kernel] at ha_69
              exact em_z (w1 := (fun (u : Unit) => (MW cI cJ M mr mi mf mg))) E hr hlk () hw67 (Or.inl rfl) (by decide +kernel) (Nat.le_of_ble_eq_true rfl) (Nat.le_of_ble_eq_true rfl) dX12_canSet_57
            · skip
              have ha_70 : (99 : Int32).toInt < z_v.toInt := ha_70
              rw [show (99 : Int32).toInt = 99 from by decide +kernel] at ha_70
              exact em_z (w1 := (fun (u : Unit) => (MW cI cJ M mr mi mf mg))) E hr hlk () hw67 (Or.inl rfl) (by decide +kernel) (Nat.le_of_ble_eq_true rfl) (Nat.le_of_ble_eq_true rfl) dX12_canSet_57
            · skip
              have ha_71 : (1 : Int32).toInt ≤ z_v.toInt := ha_71
              rw [show (1 : Int32).toInt = 1 from by decide +kernel] at ha_71
              have ha_72 : z_v.toInt ≤ (99 : Int32).toInt := ha_72
              rw [show (99 : Int32).toInt = 99 from by decide +kernel] at ha_72
              exact em_z (w1 := (fun (u : Unit) => (MW cI cJ M mr mi mf mg))) E hr hlk () hw67 (Or.inr (Or.inr (Or.inl ⟨rfl, (by show z_what.toInt = 4; omega), (by show 1 ≤ z_v.toInt; omega), (by show z_v.toInt ≤ 99; omega)⟩))) (by decide +kernel) (Nat.le_of_ble_eq_true rfl) (Nat.le_of_ble_eq_true rfl) dX12_canSet_57
        · skip
          have hc_45 := neE (a := z_what.toInt) (b := 4) rfl (by decide +kernel) c_45
          refine lv_iload_n (pc := 38) E.1 E.2.1 dX12_canSet_38 rfl (lv_at hl3 1 rfl) ?_
          refine lv_bipush (pc := 39) (v := 6) E.1 E.2.1 dX12_canSet_39 (by decide +kernel) ?_
          refine lv_icmp_ne (pc := 41) (tgt := 48) E.1 E.2.1 dX12_canSet_41 (by decide) (fun _ => ?_) (fun c_73 => absurd c_73 (mneE (a := z_what.toInt) (b := 6) rfl (by decide +kernel) (by omega)))
          refine lv_iconst (pc := 48) (v := 0) E.1 E.2.1 dX12_canSet_48 (by decide +kernel) ?_
          refine lv_aload_n (pc := 49) E.1 E.2.1 dX12_canSet_49 rfl (lv_at hl3 0 rfl) ?_
          refine lv_iload_n (pc := 50) E.1 E.2.1 dX12_canSet_50 rfl (lv_at hl3 1 rfl) ?_
          refine cm_i (pc := 51) hw7 (rn_M (As := [.int z_what]) (rest := [.int 0, .int z_v, .ref M]) E hw7 (s_mostOf2 l D cI cJ _ M mr mi mf mg z_what h0) (gdV q_1638 q_1640 q_49 q_162 q_1641) hdV_X12_mostOf ⟨rfl, rfl⟩ ⟨(Nat.le_of_ble_eq_true rfl), (Nat.le_of_ble_eq_true rfl)⟩ ⟨(Nat.le_of_ble_eq_true rfl), (Nat.le_of_ble_eq_true rfl)⟩ 12 rfl rfl rfl rfl hl3.1 rfl (Nat.le_of_ble_eq_true rfl) dX12_canSet_51) (fun r_75 u_74 H1 locs hp hw76 => ?_)
          generalize H1 = H at hw76 ⊢
          have hw77 : WD D A s.heap (MW cI cJ M mr mi mf mg) H locs := hw76
          have hp_78 := hp
          rcases hp_78 with ⟨rfl, ha_79⟩ | ⟨rfl, ha_80⟩ | ⟨ha_81, ha_82⟩ | ⟨rfl, ha_83⟩ | ⟨rfl, ha_84⟩ | ⟨rfl, ha_85⟩ | ⟨rfl, ha_86, ha_87, ha_88, ha_89, ha_90, ha_91⟩
          · skip
            have ha_79 : z_what.toInt = 0 := ha_79
            refine cm_i (pc := 54) hw77 (rn_M (As := [.int z_v, .int 0, .int 9]) (rest := []) E hw77 (s_isIn l D cI cJ _ M mr mi mf mg z_v 0 9) (gdV q_1622 q_1624 q_46 q_162 q_1625) hdV_X12_isIn ⟨rfl, rfl⟩ ⟨(Nat.le_of_ble_eq_true rfl), (Nat.le_of_ble_eq_true rfl)⟩ ⟨(Nat.le_of_ble_eq_true rfl), (Nat.le_of_ble_eq_true rfl)⟩ 12 rfl rfl rfl rfl hl3.1 rfl (Nat.le_of_ble_eq_true rfl) dX12_canSet_54) (fun r_93 u_92 H1 locs hp hw94 => ?_)
            generalize H1 = H at hw94 ⊢
            have hw95 : WD D A s.heap (MW cI cJ M mr mi mf mg) H locs := hw94
            have hp_96 := hp
            rcases hp_96 with ⟨rfl, ha_97⟩ | ⟨rfl, ha_98⟩ | ⟨rfl, ha_99, ha_100⟩
            · skip
              have ha_97 : z_v.toInt < (0 : Int32).toInt := ha_97
              rw [show (0 : Int32).toInt = 0 from by decide +kernel] at ha_97
              exact em_z (w1 := (fun (u : Unit) => (MW cI cJ M mr mi mf mg))) E hr hlk () hw95 (Or.inl rfl) (by decide +kernel) (Nat.le_of_ble_eq_true rfl) (Nat.le_of_ble_eq_true rfl) dX12_canSet_57
            · skip
              have ha_98 : (9 : Int32).toInt < z_v.toInt := ha_98
              rw [show (9 : Int32).toInt = 9 from by decide +kernel] at ha_98
              exact em_z (w1 := (fun (u : Unit) => (MW cI cJ M mr mi mf mg))) E hr hlk () hw95 (Or.inl rfl) (by decide +kernel) (Nat.le_of_ble_eq_true rfl) (Nat.le_of_ble_eq_true rfl) dX12_canSet_57
            · skip
              have ha_99 : (0 : Int32).toInt ≤ z_v.toInt := ha_99
              rw [show (0 : Int32).toInt = 0 from by decide +kernel] at ha_99
              have ha_100 : z_v.toInt ≤ (9 : Int32).toInt := ha_100
              rw [show (9 : Int32).toInt = 9 from by decide +kernel] at ha_100
              exact em_z (w1 := (fun (u : Unit) => (MW cI cJ M mr mi mf mg))) E hr hlk () hw95 (Or.inr (Or.inr (Or.inr (Or.inr (Or.inr (Or.inl ⟨rfl, (by show 0 ≤ z_what.toInt; omega), (by show z_what.toInt ≤ 2; omega)⟩)))))) (by decide +kernel) (Nat.le_of_ble_eq_true rfl) (Nat.le_of_ble_eq_true rfl) dX12_canSet_57
          · skip
            have ha_80 : z_what.toInt = 1 := ha_80
            refine cm_i (pc := 54) hw77 (rn_M (As := [.int z_v, .int 0, .int 1000]) (rest := []) E hw77 (s_isIn l D cI cJ _ M mr mi mf mg z_v 0 1000) (gdV q_1622 q_1624 q_46 q_162 q_1625) hdV_X12_isIn ⟨rfl, rfl⟩ ⟨(Nat.le_of_ble_eq_true rfl), (Nat.le_of_ble_eq_true rfl)⟩ ⟨(Nat.le_of_ble_eq_true rfl), (Nat.le_of_ble_eq_true rfl)⟩ 12 rfl rfl rfl rfl hl3.1 rfl (Nat.le_of_ble_eq_true rfl) dX12_canSet_54) (fun r_102 u_101 H1 locs hp hw103 => ?_)
            generalize H1 = H at hw103 ⊢
            have hw104 : WD D A s.heap (MW cI cJ M mr mi mf mg) H locs := hw103
            have hp_105 := hp
            rcases hp_105 with ⟨rfl, ha_106⟩ | ⟨rfl, ha_107⟩ | ⟨rfl, ha_108, ha_109⟩
            · skip
              have ha_106 : z_v.toInt < (0 : Int32).toInt := ha_106
              rw [show (0 : Int32).toInt = 0 from by decide +kernel] at ha_106
              exact em_z (w1 := (fun (u : Unit) => (MW cI cJ M mr mi mf mg))) E hr hlk () hw104 (Or.inl rfl) (by decide +kernel) (Nat.le_of_ble_eq_true rfl) (Nat.le_of_ble_eq_true rfl) dX12_canSet_57
            · skip
              have ha_107 : (1000 : Int32).toInt < z_v.toInt := ha_107
              rw [show (1000 : Int32).toInt = 1000 from by decide +kernel] at ha_107
              exact em_z (w1 := (fun (u : Unit) => (MW cI cJ M mr mi mf mg))) E hr hlk () hw104 (Or.inl rfl) (by decide +kernel) (Nat.le_of_ble_eq_true rfl) (Nat.le_of_ble_eq_true rfl) dX12_canSet_57
            · skip
              have ha_108 : (0 : Int32).toInt ≤ z_v.toInt := ha_108
              rw [show (0 : Int32).toInt = 0 from by decide +kernel] at ha_108
              have ha_109 : z_v.toInt ≤ (1000 : Int32).toInt := ha_109
              rw [show (1000 : Int32).toInt = 1000 from by decide +kernel] at ha_109
              exact em_z (w1 := (fun (u : Unit) => (MW cI cJ M mr mi mf mg))) E hr hlk () hw104 (Or.inr (Or.inr (Or.inr (Or.inr (Or.inr (Or.inl ⟨rfl, (by show 0 ≤ z_what.toInt; omega), (by show z_what.toInt ≤ 2; omega)⟩)))))) (by decide +kernel) (Nat.le_of_ble_eq_true rfl) (Nat.le_of_ble_eq_true rfl) dX12_canSet_57
          · skip
            have ha_81 : z_what.toInt = 5 := ha_81
            have ha_82 : r_75.toInt = (mi 6).toInt - 1 := ha_82
            refine cm_i (pc := 54) hw77 (rn_M (As := [.int z_v, .int 0, .int r_75]) (rest := []) E hw77 (s_isIn l D cI cJ _ M mr mi mf mg z_v 0 r_75) (gdV q_1622 q_1624 q_46 q_162 q_1625) hdV_X12_isIn ⟨rfl, rfl⟩ ⟨(Nat.le_of_ble_eq_true rfl), (Nat.le_of_ble_eq_true rfl)⟩ ⟨(Nat.le_of_ble_eq_true rfl), (Nat.le_of_ble_eq_true rfl)⟩ 12 rfl rfl rfl rfl hl3.1 rfl (Nat.le_of_ble_eq_true rfl) dX12_canSet_54) (fun r_111 u_110 H1 locs hp hw112 => ?_)
            generalize H1 = H at hw112 ⊢
            have hw113 : WD D A s.heap (MW cI cJ M mr mi mf mg) H locs := hw112
            have hp_114 := hp
            rcases hp_114 with ⟨rfl, ha_115⟩ | ⟨rfl, ha_116⟩ | ⟨rfl, ha_117, ha_118⟩
            · skip
              have ha_115 : z_v.toInt < (0 : Int32).toInt := ha_115
              rw [show (0 : Int32).toInt = 0 from by decide +kernel] at ha_115
              exact em_z (w1 := (fun (u : Unit) => (MW cI cJ M mr mi mf mg))) E hr hlk () hw113 (Or.inl rfl) (by decide +kernel) (Nat.le_of_ble_eq_true rfl) (Nat.le_of_ble_eq_true rfl) dX12_canSet_57
            · skip
              have ha_116 : r_75.toInt < z_v.toInt := ha_116
              exact em_z (w1 := (fun (u : Unit) => (MW cI cJ M mr mi mf mg))) E hr hlk () hw113 (Or.inl rfl) (by decide +kernel) (Nat.le_of_ble_eq_true rfl) (Nat.le_of_ble_eq_true rfl) dX12_canSet_57
            · skip
              have ha_117 : (0 : Int32).toInt ≤ z_v.toInt := ha_117
              rw [show (0 : Int32).toInt = 0 from by decide +kernel] at ha_117
              have ha_118 : z_v.toInt ≤ r_75.toInt := ha_118
              exact em_z (w1 := (fun (u : Unit) => (MW cI cJ M mr mi mf mg))) E hr hlk () hw113 (Or.inr (Or.inl ⟨rfl, (by show z_what.toInt = 5; omega), (by show 0 ≤ z_v.toInt; omega), (by show z_v.toInt + 1 ≤ (mi 6).toInt; omega)⟩)) (by decide +kernel) (Nat.le_of_ble_eq_true rfl) (Nat.le_of_ble_eq_true rfl) dX12_canSet_57
          · skip
            have ha_83 : z_what.toInt = 6 := ha_83
            exfalso; omega
          · skip
            have ha_84 : z_what.toInt = 7 := ha_84
            exfalso; omega
          · skip
            have ha_85 : z_what.toInt = 10 := ha_85
            exfalso; omega
          · skip
            have ha_86 : ¬ z_what.toInt = 0 := ha_86
            have ha_87 : ¬ z_what.toInt = 1 := ha_87
            have ha_88 : ¬ z_what.toInt = 5 := ha_88
            have ha_89 : ¬ z_what.toInt = 6 := ha_89
            have ha_90 : ¬ z_what.toInt = 7 := ha_90
            have ha_91 : ¬ z_what.toInt = 10 := ha_91
            refine cm_i (pc := 54) hw77 (rn_M (As := [.int z_v, .int 0, .int 99]) (rest := []) E hw77 (s_isIn l D cI cJ _ M mr mi mf mg z_v 0 99) (gdV q_1622 q_1624 q_46 q_162 q_1625) hdV_X12_isIn ⟨rfl, rfl⟩ ⟨(Nat.le_of_ble_eq_true rfl), (Nat.le_of_ble_eq_true rfl)⟩ ⟨(Nat.le_of_ble_eq_true rfl), (Nat.le_of_ble_eq_true rfl)⟩ 12 rfl rfl rfl rfl hl3.1 rfl (Nat.le_of_ble_eq_true rfl) dX12_canSet_54) (fun r_120 u_119 H1 locs hp hw121 => ?_)
            generalize H1 = H at hw121 ⊢
            have hw122 : WD D A s.heap (MW cI cJ M mr mi mf mg) H locs := hw121
            have hp_123 := hp
            rcases hp_123 with ⟨rfl, ha_124⟩ | ⟨rfl, ha_125⟩ | ⟨rfl, ha_126, ha_127⟩
            · skip
              have ha_124 : z_v.toInt < (0 : Int32).toInt := ha_124
              rw [show (0 : Int32).toInt = 0 from by decide +kernel] at ha_124
              exact em_z (w1 := (fun (u : Unit) => (MW cI cJ M mr mi mf mg))) E hr hlk () hw122 (Or.inl rfl) (by decide +kernel) (Nat.le_of_ble_eq_true rfl) (Nat.le_of_ble_eq_true rfl) dX12_canSet_57
            · skip
              have ha_125 : (99 : Int32).toInt < z_v.toInt := ha_125
              rw [show (99 : Int32).toInt = 99 from by decide +kernel] at ha_125
              exact em_z (w1 := (fun (u : Unit) => (MW cI cJ M mr mi mf mg))) E hr hlk () hw122 (Or.inl rfl) (by decide +kernel) (Nat.le_of_ble_eq_true rfl) (Nat.le_of_ble_eq_true rfl) dX12_canSet_57
            · skip
              have ha_126 : (0 : Int32).toInt ≤ z_v.toInt := ha_126
              rw [show (0 : Int32).toInt = 0 from by decide +kernel] at ha_126
              have ha_127 : z_v.toInt ≤ (99 : Int32).toInt := ha_127
              rw [show (99 : Int32).toInt = 99 from by decide +kernel] at ha_127
              exact em_z (w1 := (fun (u : Unit) => (MW cI cJ M mr mi mf mg))) E hr hlk () hw122 (Or.inr (Or.inr (Or.inr (Or.inr (Or.inr (Or.inl ⟨rfl, (by show 0 ≤ z_what.toInt; omega), (by show z_what.toInt ≤ 2; omega)⟩)))))) (by decide +kernel) (Nat.le_of_ble_eq_true rfl) (Nat.le_of_ble_eq_true rfl) dX12_canSet_57
    · skip
      have hc_16 := nleE (a := z_what.toInt) (b := 5) rfl (by decide +kernel) c_16
      refine lv_aload_n (pc := 16) E.1 E.2.1 dX12_canSet_16 rfl (lv_at hl3 0 rfl) ?_
      refine lv_iload_n (pc := 17) E.1 E.2.1 dX12_canSet_17 rfl (lv_at hl3 2 rfl) ?_
      refine cm_i (pc := 18) hw7 (rn_M (As := [.int z_who]) (rest := []) E hw7 (s_isHouse l D cI cJ _ M mr mi mf mg z_who) (gdV q_1634 q_1636 q_48 q_162 q_1637) hdV_X12_isHouse ⟨rfl, rfl⟩ ⟨(Nat.le_of_ble_eq_true rfl), (Nat.le_of_ble_eq_true rfl)⟩ ⟨(Nat.le_of_ble_eq_true rfl), (Nat.le_of_ble_eq_true rfl)⟩ 12 rfl rfl rfl rfl hl3.1 rfl (Nat.le_of_ble_eq_true rfl) dX12_canSet_18) (fun r_129 u_128 H1 locs hp hw130 => ?_)
      generalize H1 = H at hw130 ⊢
      have hw131 : WD D A s.heap (MW cI cJ M mr mi mf mg) H locs := hw130
      have hp_132 := hp
      rcases hp_132 with ⟨rfl, ha_133⟩ | ⟨rfl, ha_134⟩ | ⟨rfl, ha_135, ha_136⟩
      · skip
        have ha_133 : z_who.toInt < 0 := ha_133
        refine lv_if_ne (pc := 21) (tgt := 26) E.1 E.2.1 dX12_canSet_21 (by decide) (fun c_137 => absurd (meqE (a := 0) (b := 0) (by decide +kernel) (by decide +kernel) (by omega)) c_137) (fun _ => ?_)
        refine lv_iconst (pc := 24) (v := 0) E.1 E.2.1 dX12_canSet_24 (by decide +kernel) ?_
        exact em_z (w1 := (fun (u : Unit) => (MW cI cJ M mr mi mf mg))) E hr hlk () hw131 (Or.inl rfl) (by decide +kernel) (Nat.le_of_ble_eq_true rfl) (Nat.le_of_ble_eq_true rfl) dX12_canSet_25
      · skip
        have ha_134 : (mi 6).toInt ≤ z_who.toInt := ha_134
        refine lv_if_ne (pc := 21) (tgt := 26) E.1 E.2.1 dX12_canSet_21 (by decide) (fun c_138 => absurd (meqE (a := 0) (b := 0) (by decide +kernel) (by decide +kernel) (by omega)) c_138) (fun _ => ?_)
        refine lv_iconst (pc := 24) (v := 0) E.1 E.2.1 dX12_canSet_24 (by decide +kernel) ?_
        exact em_z (w1 := (fun (u : Unit) => (MW cI cJ M mr mi mf mg))) E hr hlk () hw131 (Or.inl rfl) (by decide +kernel) (Nat.le_of_ble_eq_true rfl) (Nat.le_of_ble_eq_true rfl) dX12_canSet_25
      · skip
        have ha_135 : 0 ≤ z_who.toInt := ha_135
        have ha_136 : z_who.toInt < (mi 6).toInt := ha_136
        refine lv_if_ne (pc := 21) (tgt := 26) E.1 E.2.1 dX12_canSet_21 (by decide) (fun _ => ?_) (fun c_139 => absurd c_139 (mneE (a := 1) (b := 0) (by decide +kernel) (by decide +kernel) (by omega)))
        refine lv_aload_n (pc := 26) E.1 E.2.1 dX12_canSet_26 rfl (lv_at hl3 0 rfl) ?_
        refine lv_iload_n (pc := 27) E.1 E.2.1 dX12_canSet_27 rfl (lv_at hl3 3 rfl) ?_
        refine lv_iload_n (pc := 28) E.1 E.2.1 dX12_canSet_28 rfl (lv_at hl3 1 rfl) ?_
        refine lv_iconst (pc := 29) (v := 3) E.1 E.2.1 dX12_canSet_29 (by decide +kernel) ?_
        refine lv_icmp_eq (pc := 30) (tgt := 44) E.1 E.2.1 dX12_canSet_30 (by decide) (fun c_140 => absurd c_140 (mneE (a := z_what.toInt) (b := 3) rfl (by decide +kernel) (by omega))) (fun _ => ?_)
        refine lv_iload_n (pc := 33) E.1 E.2.1 dX12_canSet_33 rfl (lv_at hl3 1 rfl) ?_
        refine lv_iconst (pc := 34) (v := 4) E.1 E.2.1 dX12_canSet_34 (by decide +kernel) ?_
        refine lv_icmp_eq (pc := 35) (tgt := 44) E.1 E.2.1 dX12_canSet_35 (by decide) (fun c_141 => absurd c_141 (mneE (a := z_what.toInt) (b := 4) rfl (by decide +kernel) (by omega))) (fun _ => ?_)
        refine lv_iload_n (pc := 38) E.1 E.2.1 dX12_canSet_38 rfl (lv_at hl3 1 rfl) ?_
        refine lv_bipush (pc := 39) (v := 6) E.1 E.2.1 dX12_canSet_39 (by decide +kernel) ?_
        refine lv_icmp_ne (pc := 41) (tgt := 48) E.1 E.2.1 dX12_canSet_41 (by decide) (fun c_142 => ?_) (fun c_142 => ?_)
        · skip
          have hc_142 := neE (a := z_what.toInt) (b := 6) rfl (by decide +kernel) c_142
          refine lv_iconst (pc := 48) (v := 0) E.1 E.2.1 dX12_canSet_48 (by decide +kernel) ?_
          refine lv_aload_n (pc := 49) E.1 E.2.1 dX12_canSet_49 rfl (lv_at hl3 0 rfl) ?_
          refine lv_iload_n (pc := 50) E.1 E.2.1 dX12_canSet_50 rfl (lv_at hl3 1 rfl) ?_
          refine cm_i (pc := 51) hw131 (rn_M (As := [.int z_what]) (rest := [.int 0, .int z_v, .ref M]) E hw131 (s_mostOf2 l D cI cJ _ M mr mi mf mg z_what h0) (gdV q_1638 q_1640 q_49 q_162 q_1641) hdV_X12_mostOf ⟨rfl, rfl⟩ ⟨(Nat.le_of_ble_eq_true rfl), (Nat.le_of_ble_eq_true rfl)⟩ ⟨(Nat.le_of_ble_eq_true rfl), (Nat.le_of_ble_eq_true rfl)⟩ 12 rfl rfl rfl rfl hl3.1 rfl (Nat.le_of_ble_eq_true rfl) dX12_canSet_51) (fun r_144 u_143 H1 locs hp hw145 => ?_)
          generalize H1 = H at hw145 ⊢
          have hw146 : WD D A s.heap (MW cI cJ M mr mi mf mg) H locs := hw145
          have hp_147 := hp
          rcases hp_147 with ⟨rfl, ha_148⟩ | ⟨rfl, ha_149⟩ | ⟨ha_150, ha_151⟩ | ⟨rfl, ha_152⟩ | ⟨rfl, ha_153⟩ | ⟨rfl, ha_154⟩ | ⟨rfl, ha_155, ha_156, ha_157, ha_158, ha_159, ha_160⟩
          · skip
            have ha_148 : z_what.toInt = 0 := ha_148
            exfalso; omega
          · skip
            have ha_149 : z_what.toInt = 1 := ha_149
            exfalso; omega
          · skip
            have ha_150 : z_what.toInt = 5 := ha_150
            have ha_151 : r_144.toInt = (mi 6).toInt - 1 := ha_151
            exfalso; omega
          · skip
            have ha_152 : z_what.toInt = 6 := ha_152
            exfalso; omega
          · skip
            have ha_153 : z_what.toInt = 7 := ha_153
            refine cm_i (pc := 54) hw146 (rn_M (As := [.int z_v, .int 0, .int 999]) (rest := []) E hw146 (s_isIn l D cI cJ _ M mr mi mf mg z_v 0 999) (gdV q_1622 q_1624 q_46 q_162 q_1625) hdV_X12_isIn ⟨rfl, rfl⟩ ⟨(Nat.le_of_ble_eq_true rfl), (Nat.le_of_ble_eq_true rfl)⟩ ⟨(Nat.le_of_ble_eq_true rfl), (Nat.le_of_ble_eq_true rfl)⟩ 12 rfl rfl rfl rfl hl3.1 rfl (Nat.le_of_ble_eq_true rfl) dX12_canSet_54) (fun r_162 u_161 H1 locs hp hw163 => ?_)
            generalize H1 = H at hw163 ⊢
            have hw164 : WD D A s.heap (MW cI cJ M mr mi mf mg) H locs := hw163
            have hp_165 := hp
            rcases hp_165 with ⟨rfl, ha_166⟩ | ⟨rfl, ha_167⟩ | ⟨rfl, ha_168, ha_169⟩
            · skip
              have ha_166 : z_v.toInt < (0 : Int32).toInt := ha_166
              rw [show (0 : Int32).toInt = 0 from by decide +kernel] at ha_166
              exact em_z (w1 := (fun (u : Unit) => (MW cI cJ M mr mi mf mg))) E hr hlk () hw164 (Or.inl rfl) (by decide +kernel) (Nat.le_of_ble_eq_true rfl) (Nat.le_of_ble_eq_true rfl) dX12_canSet_57
            · skip
              have ha_167 : (999 : Int32).toInt < z_v.toInt := ha_167
              rw [show (999 : Int32).toInt = 999 from by decide +kernel] at ha_167
              exact em_z (w1 := (fun (u : Unit) => (MW cI cJ M mr mi mf mg))) E hr hlk () hw164 (Or.inl rfl) (by decide +kernel) (Nat.le_of_ble_eq_true rfl) (Nat.le_of_ble_eq_true rfl) dX12_canSet_57
            · skip
              have ha_168 : (0 : Int32).toInt ≤ z_v.toInt := ha_168
              rw [show (0 : Int32).toInt = 0 from by decide +kernel] at ha_168
              have ha_169 : z_v.toInt ≤ (999 : Int32).toInt := ha_169
              rw [show (999 : Int32).toInt = 999 from by decide +kernel] at ha_169
              exact em_z (w1 := (fun (u : Unit) => (MW cI cJ M mr mi mf mg))) E hr hlk () hw164 (Or.inr (Or.inr (Or.inr (Or.inr (Or.inr (Or.inr (⟨rfl, (by show 7 ≤ z_what.toInt; omega), (by show z_what.toInt ≤ 10; omega), (by show 0 ≤ z_who.toInt; omega), (by show z_who.toInt + 1 ≤ (mi 6).toInt; omega)⟩))))))) (by decide +kernel) (Nat.le_of_ble_eq_true rfl) (Nat.le_of_ble_eq_true rfl) dX12_canSet_57
          · skip
            have ha_154 : z_what.toInt = 10 := ha_154
            refine cm_i (pc := 54) hw146 (rn_M (As := [.int z_v, .int 0, .int 9999]) (rest := []) E hw146 (s_isIn l D cI cJ _ M mr mi mf mg z_v 0 9999) (gdV q_1622 q_1624 q_46 q_162 q_1625) hdV_X12_isIn ⟨rfl, rfl⟩ ⟨(Nat.le_of_ble_eq_true rfl), (Nat.le_of_ble_eq_true rfl)⟩ ⟨(Nat.le_of_ble_eq_true rfl), (Nat.le_of_ble_eq_true rfl)⟩ 12 rfl rfl rfl rfl hl3.1 rfl (Nat.le_of_ble_eq_true rfl) dX12_canSet_54) (fun r_171 u_170 H1 locs hp hw172 => ?_)
            generalize H1 = H at hw172 ⊢
            have hw173 : WD D A s.heap (MW cI cJ M mr mi mf mg) H locs := hw172
            have hp_174 := hp
            rcases hp_174 with ⟨rfl, ha_175⟩ | ⟨rfl, ha_176⟩ | ⟨rfl, ha_177, ha_178⟩
            · skip
              have ha_175 : z_v.toInt < (0 : Int32).toInt := ha_175
              rw [show (0 : Int32).toInt = 0 from by decide +kernel] at ha_175
              exact em_z (w1 := (fun (u : Unit) => (MW cI cJ M mr mi mf mg))) E hr hlk () hw173 (Or.inl rfl) (by decide +kernel) (Nat.le_of_ble_eq_true rfl) (Nat.le_of_ble_eq_true rfl) dX12_canSet_57
            · skip
              have ha_176 : (9999 : Int32).toInt < z_v.toInt := ha_176
              rw [show (9999 : Int32).toInt = 9999 from by decide +kernel] at ha_176
              exact em_z (w1 := (fun (u : Unit) => (MW cI cJ M mr mi mf mg))) E hr hlk () hw173 (Or.inl rfl) (by decide +kernel) (Nat.le_of_ble_eq_true rfl) (Nat.le_of_ble_eq_true rfl) dX12_canSet_57
            · skip
              have ha_177 : (0 : Int32).toInt ≤ z_v.toInt := ha_177
              rw [show (0 : Int32).toInt = 0 from by decide +kernel] at ha_177
              have ha_178 : z_v.toInt ≤ (9999 : Int32).toInt := ha_178
              rw [show (9999 : Int32).toInt = 9999 from by decide +kernel] at ha_178
              exact em_z (w1 := (fun (u : Unit) => (MW cI cJ M mr mi mf mg))) E hr hlk () hw173 (Or.inr (Or.inr (Or.inr (Or.inr (Or.inr (Or.inr (⟨rfl, (by show 7 ≤ z_what.toInt; omega), (by show z_what.toInt ≤ 10; omega), (by show 0 ≤ z_who.toInt; omega), (by show z_who.toInt + 1 ≤ (mi 6).toInt; omega)⟩))))))) (by decide +kernel) (Nat.le_of_ble_eq_true rfl) (Nat.le_of_ble_eq_true rfl) dX12_canSet_57
          · skip
            have ha_155 : ¬ z_what.toInt = 0 := ha_155
            have ha_156 : ¬ z_what.toInt = 1 := ha_156
            have ha_157 : ¬ z_what.toInt = 5 := ha_157
            have ha_158 : ¬ z_what.toInt = 6 := ha_158
            have ha_159 : ¬ z_what.toInt = 7 := ha_159
            have ha_160 : ¬ z_what.toInt = 10 := ha_160
            refine cm_i (pc := 54) hw146 (rn_M (As := [.int z_v, .int 0, .int 99]) (rest := []) E hw146 (s_isIn l D cI cJ _ M mr mi mf mg z_v 0 99) (gdV q_1622 q_1624 q_46 q_162 q_1625) hdV_X12_isIn ⟨rfl, rfl⟩ ⟨(Nat.le_of_ble_eq_true rfl), (Nat.le_of_ble_eq_true rfl)⟩ ⟨(Nat.le_of_ble_eq_true rfl), (Nat.le_of_ble_eq_true rfl)⟩ 12 rfl rfl rfl rfl hl3.1 rfl (Nat.le_of_ble_eq_true rfl) dX12_canSet_54) (fun r_180 u_179 H1 locs hp hw181 => ?_)
            generalize H1 = H at hw181 ⊢
            have hw182 : WD D A s.heap (MW cI cJ M mr mi mf mg) H locs := hw181
            have hp_183 := hp
            rcases hp_183 with ⟨rfl, ha_184⟩ | ⟨rfl, ha_185⟩ | ⟨rfl, ha_186, ha_187⟩
            · skip
              have ha_184 : z_v.toInt < (0 : Int32).toInt := ha_184
              rw [show (0 : Int32).toInt = 0 from by decide +kernel] at ha_184
              exact em_z (w1 := (fun (u : Unit) => (MW cI cJ M mr mi mf mg))) E hr hlk () hw182 (Or.inl rfl) (by decide +kernel) (Nat.le_of_ble_eq_true rfl) (Nat.le_of_ble_eq_true rfl) dX12_canSet_57
            · skip
              have ha_185 : (99 : Int32).toInt < z_v.toInt := ha_185
              rw [show (99 : Int32).toInt = 99 from by decide +kernel] at ha_185
              exact em_z (w1 := (fun (u : Unit) => (MW cI cJ M mr mi mf mg))) E hr hlk () hw182 (Or.inl rfl) (by decide +kernel) (Nat.le_of_ble_eq_true rfl) (Nat.le_of_ble_eq_true rfl) dX12_canSet_57
            · skip
              have ha_186 : (0 : Int32).toInt ≤ z_v.toInt := ha_186
              rw [show (0 : Int32).toInt = 0 from by decide +kernel] at ha_186
              have ha_187 : z_v.toInt ≤ (99 : Int32).toInt := ha_187
              rw [show (99 : Int32).toInt = 99 from by decide +kernel] at ha_187
              exact em_z (w1 := (fun (u : Unit) => (MW cI cJ M mr mi mf mg))) E hr hlk () hw182 (Or.inr (Or.inr (Or.inr (Or.inr (Or.inr (Or.inr (⟨rfl, (by show 7 ≤ z_what.toInt; omega), (by show z_what.toInt ≤ 10; omega), (by show 0 ≤ z_who.toInt; omega), (by show z_who.toInt + 1 ≤ (mi 6).toInt; omega)⟩))))))) (by decide +kernel) (Nat.le_of_ble_eq_true rfl) (Nat.le_of_ble_eq_true rfl) dX12_canSet_57
        · skip
          have hc_142 := eqE (a := z_what.toInt) (b := 6) rfl (by decide +kernel) c_142
          refine lv_iconst (pc := 44) (v := 1) E.1 E.2.1 dX12_canSet_44 (by decide +kernel) ?_
          refine lv_goto (pc := 45) (tgt := 49) E.1 E.2.1 dX12_canSet_45 (by decide) ?_
          refine lv_aload_n (pc := 49) E.1 E.2.1 dX12_canSet_49 rfl (lv_at hl3 0 rfl) ?_
          refine lv_iload_n (pc := 50) E.1 E.2.1 dX12_canSet_50 rfl (lv_at hl3 1 rfl) ?_
          refine cm_i (pc := 51) hw131 (rn_M (As := [.int z_what]) (rest := [.int 1, .int z_v, .ref M]) E hw131 (s_mostOf2 l D cI cJ _ M mr mi mf mg z_what h0) (gdV q_1638 q_1640 q_49 q_162 q_1641) hdV_X12_mostOf ⟨rfl, rfl⟩ ⟨(Nat.le_of_ble_eq_true rfl), (Nat.le_of_ble_eq_true rfl)⟩ ⟨(Nat.le_of_ble_eq_true rfl), (Nat.le_of_ble_eq_true rfl)⟩ 12 rfl rfl rfl rfl hl3.1 rfl (Nat.le_of_ble_eq_true rfl) dX12_canSet_51) (fun r_189 u_188 H1 locs hp hw190 => ?_)
          generalize H1 = H at hw190 ⊢
          have hw191 : WD D A s.heap (MW cI cJ M mr mi mf mg) H locs := hw190
          have hp_192 := hp
          rcases hp_192 with ⟨rfl, ha_193⟩ | ⟨rfl, ha_194⟩ | ⟨ha_195, ha_196⟩ | ⟨rfl, ha_197⟩ | ⟨rfl, ha_198⟩ | ⟨rfl, ha_199⟩ | ⟨rfl, ha_200, ha_201, ha_202, ha_203, ha_204, ha_205⟩
          · skip
            have ha_193 : z_what.toInt = 0 := ha_193
            exfalso; omega
          · skip
            have ha_194 : z_what.toInt = 1 := ha_194
            exfalso; omega
          · skip
            have ha_195 : z_what.toInt = 5 := ha_195
            have ha_196 : r_189.toInt = (mi 6).toInt - 1 := ha_196
            exfalso; omega
          · skip
            have ha_197 : z_what.toInt = 6 := ha_197
            refine cm_i (pc := 54) hw191 (rn_M (As := [.int z_v, .int 1, .int 20]) (rest := []) E hw191 (s_isIn l D cI cJ _ M mr mi mf mg z_v 1 20) (gdV q_1622 q_1624 q_46 q_162 q_1625) hdV_X12_isIn ⟨rfl, rfl⟩ ⟨(Nat.le_of_ble_eq_true rfl), (Nat.le_of_ble_eq_true rfl)⟩ ⟨(Nat.le_of_ble_eq_true rfl), (Nat.le_of_ble_eq_true rfl)⟩ 12 rfl rfl rfl rfl hl3.1 rfl (Nat.le_of_ble_eq_true rfl) dX12_canSet_54) (fun r_207 u_206 H1 locs hp hw208 => ?_)
            generalize H1 = H at hw208 ⊢
            have hw209 : WD D A s.heap (MW cI cJ M mr mi mf mg) H locs := hw208
            have hp_210 := hp
            rcases hp_210 with ⟨rfl, ha_211⟩ | ⟨rfl, ha_212⟩ | ⟨rfl, ha_213, ha_214⟩
            · skip
              have ha_211 : z_v.toInt < (1 : Int32).toInt := ha_211
              rw [show (1 : Int32).toInt = 1 from by decide +kernel] at ha_211
              exact em_z (w1 := (fun (u : Unit) => (MW cI cJ M mr mi mf mg))) E hr hlk () hw209 (Or.inl rfl) (by decide +kernel) (Nat.le_of_ble_eq_true rfl) (Nat.le_of_ble_eq_true rfl) dX12_canSet_57
            · skip
              have ha_212 : (20 : Int32).toInt < z_v.toInt := ha_212
              rw [show (20 : Int32).toInt = 20 from by decide +kernel] at ha_212
              exact em_z (w1 := (fun (u : Unit) => (MW cI cJ M mr mi mf mg))) E hr hlk () hw209 (Or.inl rfl) (by decide +kernel) (Nat.le_of_ble_eq_true rfl) (Nat.le_of_ble_eq_true rfl) dX12_canSet_57
            · skip
              have ha_213 : (1 : Int32).toInt ≤ z_v.toInt := ha_213
              rw [show (1 : Int32).toInt = 1 from by decide +kernel] at ha_213
              have ha_214 : z_v.toInt ≤ (20 : Int32).toInt := ha_214
              rw [show (20 : Int32).toInt = 20 from by decide +kernel] at ha_214
              exact em_z (w1 := (fun (u : Unit) => (MW cI cJ M mr mi mf mg))) E hr hlk () hw209 (Or.inr (Or.inr (Or.inr (Or.inr (Or.inl ⟨rfl, (by show z_what.toInt = 6; omega), (by show 1 ≤ z_v.toInt; omega), (by show z_v.toInt ≤ 20; omega), (by show 0 ≤ z_who.toInt; omega), (by show z_who.toInt + 1 ≤ (mi 6).toInt; omega)⟩))))) (by decide +kernel) (Nat.le_of_ble_eq_true rfl) (Nat.le_of_ble_eq_true rfl) dX12_canSet_57
          · skip
            have ha_198 : z_what.toInt = 7 := ha_198
            exfalso; omega
          · skip
            have ha_199 : z_what.toInt = 10 := ha_199
            exfalso; omega
          · skip
            have ha_200 : ¬ z_what.toInt = 0 := ha_200
            have ha_201 : ¬ z_what.toInt = 1 := ha_201
            have ha_202 : ¬ z_what.toInt = 5 := ha_202
            have ha_203 : ¬ z_what.toInt = 6 := ha_203
            have ha_204 : ¬ z_what.toInt = 7 := ha_204
            have ha_205 : ¬ z_what.toInt = 10 := ha_205
            exfalso; omega

set_option maxHeartbeats 4000000 in
set_option maxRecDepth 100000 in
theorem s_set (l : Launch) (D : va_G) (cI cJ : ClassId) (sz M : Nat) (mr : Nat → Nat) (mi : Nat → Int32) (mf : Nat → Nat → Int32) (mg : Nat → Nat → Int64) (z_what : Int32) (z_who : Int32) (z_v : Int32) (h0 : 0 ≤ (mi 6).toInt ∧ (mi 6).toInt ≤ 10) (h1 : 0 ≤ (mi 3).toInt ∧ (mi 3).toInt ≤ 6) (h2 : (-29) ≤ (mi 15).toInt ∧ (mi 15).toInt ≤ 69) (lf_rows : rowsOK (mi 3).toInt (mi 6).toInt (mf 2)) (lf_people : pplOK (mi 6).toInt (mf 8)) : Met l yX12_set (Cond.code yX12_set cX12_set 4 (some .boolean) :: GW) ({ frames := 3, cells := 0, slots := 0, locals := 86 } : Room) (va_Pc [.ref M, .int z_what, .int z_who, .int z_v] (PW D cI cJ sz (MW cI cJ M mr mi mf mg) xT)) (va_Qi (fun (r : Int32) (u : Int32 × (Nat → Int32) × Int32 × Int32 × Int32 × Int32 × (Nat → Int32) × (Nat → Int32) × (Nat → Int32) × Int32) => ((-29) ≤ u.2.2.2.2.2.1.toInt ∧ u.2.2.2.2.2.1.toInt ≤ 69) ∧ (0 ≤ u.2.2.2.2.2.2.2.2.2.toInt ∧ u.2.2.2.2.2.2.2.2.2.toInt ≤ 6) ∧ ((u.2.1 2).toInt = ((mf 1) 2).toInt) ∧ ((u.2.1 5).toInt = ((mf 1) 5).toInt) ∧ (rowsOK u.2.2.2.2.2.2.2.2.2.toInt (mi 6).toInt (mf 2)) ∧ (pplOK (mi 6).toInt u.2.2.2.2.2.2.1) ∧ ((r = 0 ∧ (u.2.1 3).toInt = ((mf 1) 3).toInt) ∨ (r = 1 ∧ (u.2.1 3).toInt = ((mf 1) 3).toInt) ∨ (r = 1 ∧ 0 ≤ (u.2.1 3).toInt ∧ (u.2.1 3).toInt + 1 ≤ (mi 6).toInt))) (fun u => QW D cI cJ (va_A (MW cI cJ M mr mi mf mg) sz) ((fun (u : Int32 × (Nat → Int32) × Int32 × Int32 × Int32 × Int32 × (Nat → Int32) × (Nat → Int32) × (Nat → Int32) × Int32) => (MW cI cJ M mr (upd (upd (upd (upd (upd (upd mi 0 u.1) 12 u.2.2.1) 13 u.2.2.2.1) 14 u.2.2.2.2.1) 15 u.2.2.2.2.2.1) 3 u.2.2.2.2.2.2.2.2.2) (va_up (va_up (va_up (va_up mf 1 u.2.1) 8 u.2.2.2.2.2.2.1) 9 u.2.2.2.2.2.2.2.1) 10 u.2.2.2.2.2.2.2.2.1) mg)) u)) (va_A (MW cI cJ M mr mi mf mg) sz)) 0 0 (va_A (MW cI cJ M mr mi mf mg) sz) := by
  refine mk_met (y := yX12_set) (bytes := cX12_set) (maxL := 4) (avs := [.ref M, .int z_what, .int z_who, .int z_v]) (WS := (MW cI cJ M mr mi mf mg)) (Qf := fun A => va_Qi (fun (r : Int32) (u : Int32 × (Nat → Int32) × Int32 × Int32 × Int32 × Int32 × (Nat → Int32) × (Nat → Int32) × (Nat → Int32) × Int32) => ((-29) ≤ u.2.2.2.2.2.1.toInt ∧ u.2.2.2.2.2.1.toInt ≤ 69) ∧ (0 ≤ u.2.2.2.2.2.2.2.2.2.toInt ∧ u.2.2.2.2.2.2.2.2.2.toInt ≤ 6) ∧ ((u.2.1 2).toInt = ((mf 1) 2).toInt) ∧ ((u.2.1 5).toInt = ((mf 1) 5).toInt) ∧ (rowsOK u.2.2.2.2.2.2.2.2.2.toInt (mi 6).toInt (mf 2)) ∧ (pplOK (mi 6).toInt u.2.2.2.2.2.2.1) ∧ ((r = 0 ∧ (u.2.1 3).toInt = ((mf 1) 3).toInt) ∨ (r = 1 ∧ (u.2.1 3).toInt = ((mf 1) 3).toInt) ∨ (r = 1 ∧ 0 ≤ (u.2.1 3).toInt ∧ (u.2.1 3).toInt + 1 ≤ (mi 6).toInt))) (fun u => QW D cI cJ A ((fun (u : Int32 × (Nat → Int32) × Int32 × Int32 × Int32 × Int32 × (Nat → Int32) × (Nat → Int32) × (Nat → Int32) × Int32) => (MW cI cJ M mr (upd (upd (upd (upd (upd (upd mi 0 u.1) 12 u.2.2.1) 13 u.2.2.2.1) 14 u.2.2.2.2.1) 15 u.2.2.2.2.2.1) 3 u.2.2.2.2.2.2.2.2.2) (va_up (va_up (va_up (va_up mf 1 u.2.1) 8 u.2.2.2.2.2.2.1) 9 u.2.2.2.2.2.2.2.1) 10 u.2.2.2.2.2.2.2.2.1) mg)) u)) A) (by decide) (Nat.le_of_ble_eq_true rfl) ?_
  intro p e s m below meth c A ls E hr hlk hnm hX hw1 hl2
  have hl3 : lv_has ls 4 [(0, .ref M), (1, .int z_what), (2, .int z_who), (3, .int z_v)] := hl2
  refine lv_aload_n (pc := 0) E.1 E.2.1 dX12_set_0 rfl (lv_at hl3 0 rfl) ?_
  refine lv_iconst (pc := 1) (v := 0) E.1 E.2.1 dX12_set_1 (by decide +kernel) ?_
  refine x_put (pc := 2) (T := TX12) (N := 70) (ci := 12) (ws' := (MW cI cJ M mr (upd mi 0 0) mf mg)) E hw1 inX12 tyX12_ok nmX12 0 0 q_1399 rfl rfl (by decide) rfl rfl rfl rfl (Nat.le_of_ble_eq_true rfl) rfl dX12_set_2 (fun H locs hw4 => ?_)
  refine lv_aload_n (pc := 5) E.1 E.2.1 dX12_set_5 rfl (lv_at hl3 0 rfl) ?_
  refine lv_iload_n (pc := 6) E.1 E.2.1 dX12_set_6 rfl (lv_at hl3 1 rfl) ?_
  refine lv_iload_n (pc := 7) E.1 E.2.1 dX12_set_7 rfl (lv_at hl3 2 rfl) ?_
  refine lv_iload_n (pc := 8) E.1 E.2.1 dX12_set_8 rfl (lv_at hl3 3 rfl) ?_
  refine cm_i (pc := 9) hw4 (rn_M (As := [.int z_what, .int z_who, .int z_v]) (rest := []) E hw4 (s_canSet l D cI cJ _ M mr (upd mi 0 0) mf mg z_what z_who z_v h0) (gdV q_1630 q_1632 q_47 q_162 q_1633) hdV_X12_canSet ⟨rfl, rfl⟩ ⟨(Nat.le_of_ble_eq_true rfl), (Nat.le_of_ble_eq_true rfl)⟩ ⟨(Nat.le_of_ble_eq_true rfl), (Nat.le_of_ble_eq_true rfl)⟩ 12 rfl rfl rfl rfl hl3.1 rfl (Nat.le_of_ble_eq_true rfl) dX12_set_9) (fun r_6 u_5 H1 locs hp hw7 => ?_)
  generalize H1 = H at hw7 ⊢
  have hw8 : WD D A s.heap (MW cI cJ M mr (upd mi 0 0) mf mg) H locs := hw7
  have hp_9 := hp
  rcases hp_9 with rfl | ⟨rfl, ha_10, ha_11, ha_12⟩ | ⟨rfl, ha_13, ha_14, ha_15⟩ | ⟨rfl, ha_16⟩ | ⟨rfl, ha_17, ha_18, ha_19, ha_20, ha_21⟩ | ⟨rfl, ha_22, ha_23⟩ | ⟨rfl, ha_24, ha_25, ha_26, ha_27⟩
  · skip
    refine lv_if_ne (pc := 12) (tgt := 17) E.1 E.2.1 dX12_set_12 (by decide) (fun c_28 => absurd (meqE (a := 0) (b := 0) (by decide +kernel) (by decide +kernel) (by omega)) c_28) (fun _ => ?_)
    refine lv_iconst (pc := 15) (v := 0) E.1 E.2.1 dX12_set_15 (by decide +kernel) ?_
    exact em_z (w1 := (fun (u : Int32 × (Nat → Int32) × Int32 × Int32 × Int32 × Int32 × (Nat → Int32) × (Nat → Int32) × (Nat → Int32) × Int32) => (MW cI cJ M mr (upd (upd (upd (upd (upd (upd mi 0 u.1) 12 u.2.2.1) 13 u.2.2.2.1) 14 u.2.2.2.2.1) 15 u.2.2.2.2.2.1) 3 u.2.2.2.2.2.2.2.2.2) (va_up (va_up (va_up (va_up mf 1 u.2.1) 8 u.2.2.2.2.2.2.1) 9 u.2.2.2.2.2.2.2.1) 10 u.2.2.2.2.2.2.2.2.1) mg))) E hr hlk (0, (mf 1), (mi 12), (mi 13), (mi 14), (mi 15), (mf 8), (mf 9), (mf 10), (mi 3)) hw8 ⟨h2, h1, rfl, rfl, (show rowsOK (mi 3).toInt (mi 6).toInt (mf 2) from lf_rows), (show pplOK (mi 6).toInt (mf 8) from lf_people), (Or.inl ⟨rfl, rfl⟩)⟩ (by decide +kernel) (Nat.le_of_ble_eq_true rfl) (Nat.le_of_ble_eq_true rfl) dX12_set_16
  · skip
    have ha_10 : z_what.toInt = 5 := ha_10
    have ha_11 : 0 ≤ z_v.toInt := ha_11
    have ha_12 : z_v.toInt + 1 ≤ (mi 6).toInt := ha_12
    refine lv_if_ne (pc := 12) (tgt := 17) E.1 E.2.1 dX12_set_12 (by decide) (fun _ => ?_) (fun c_29 => absurd c_29 (mneE (a := 1) (b := 0) (by decide +kernel) (by decide +kernel) (by omega)))
    refine lv_iload_n (pc := 17) E.1 E.2.1 dX12_set_17 rfl (lv_at hl3 1 rfl) ?_
    refine lv_if_ne (pc := 18) (tgt := 28) E.1 E.2.1 dX12_set_18 (by decide) (fun _ => ?_) (fun c_30 => absurd c_30 (mneE (a := z_what.toInt) (b := 0) rfl (by decide +kernel) (by omega)))
    refine lv_iload_n (pc := 28) E.1 E.2.1 dX12_set_28 rfl (lv_at hl3 1 rfl) ?_
    refine lv_iconst (pc := 29) (v := 1) E.1 E.2.1 dX12_set_29 (by decide +kernel) ?_
    refine lv_icmp_ne (pc := 30) (tgt := 38) E.1 E.2.1 dX12_set_30 (by decide) (fun _ => ?_) (fun c_31 => absurd c_31 (mneE (a := z_what.toInt) (b := 1) rfl (by decide +kernel) (by omega)))
    refine lv_iload_n (pc := 38) E.1 E.2.1 dX12_set_38 rfl (lv_at hl3 1 rfl) ?_
    refine lv_iconst (pc := 39) (v := 2) E.1 E.2.1 dX12_set_39 (by decide +kernel) ?_
    refine lv_icmp_ne (pc := 40) (tgt := 48) E.1 E.2.1 dX12_set_40 (by decide) (fun _ => ?_) (fun c_32 => absurd c_32 (mneE (a := z_what.toInt) (b := 2) rfl (by decide +kernel) (by omega)))
    refine lv_iload_n (pc := 48) E.1 E.2.1 dX12_set_48 rfl (lv_at hl3 1 rfl) ?_
    refine lv_iconst (pc := 49) (v := 3) E.1 E.2.1 dX12_set_49 (by decide +kernel) ?_
    refine lv_icmp_ne (pc := 50) (tgt := 61) E.1 E.2.1 dX12_set_50 (by decide) (fun _ => ?_) (fun c_33 => absurd c_33 (mneE (a := z_what.toInt) (b := 3) rfl (by decide +kernel) (by omega)))
    refine lv_iload_n (pc := 61) E.1 E.2.1 dX12_set_61 rfl (lv_at hl3 1 rfl) ?_
    refine lv_iconst (pc := 62) (v := 4) E.1 E.2.1 dX12_set_62 (by decide +kernel) ?_
    refine lv_icmp_ne (pc := 63) (tgt := 74) E.1 E.2.1 dX12_set_63 (by decide) (fun _ => ?_) (fun c_34 => absurd c_34 (mneE (a := z_what.toInt) (b := 4) rfl (by decide +kernel) (by omega)))
    refine lv_iload_n (pc := 74) E.1 E.2.1 dX12_set_74 rfl (lv_at hl3 1 rfl) ?_
    refine lv_iconst (pc := 75) (v := 5) E.1 E.2.1 dX12_set_75 (by decide +kernel) ?_
    refine lv_icmp_ne (pc := 76) (tgt := 86) E.1 E.2.1 dX12_set_76 (by decide) (fun c_35 => absurd (meqE (a := z_what.toInt) (b := 5) rfl (by decide +kernel) (by omega)) c_35) (fun _ => ?_)
    refine lv_aload_n (pc := 79) E.1 E.2.1 dX12_set_79 rfl (lv_at hl3 0 rfl) ?_
    refine x_get (pc := 80) (T := TX12) (N := 70) (ci := 12) (v := .ref (mr 1)) E hw8 inX12 0 1 q_1400 rfl rfl (by decide) rfl rfl dX12_set_80 ?_
    refine lv_iconst (pc := 83) (v := 3) E.1 E.2.1 dX12_set_83 (by decide +kernel) ?_
    refine lv_iload_n (pc := 84) E.1 E.2.1 dX12_set_84 rfl (lv_at hl3 3 rfl) ?_
    refine x_iastG (pc := 85) (f := (mf 1)) (wf := fun g => (MW cI cJ M mr (upd mi 0 0) (va_up mf 1 g) mg)) E hw8 1 rfl (inbE (a := 3) (by decide +kernel) (by omega)) (fun _ => rfl) dX12_set_85 (fun g_36 H locs eg_36 hw37 => ?_)
    have ht_38 : (g_36 2).toInt = ((mf 1) 2).toInt := by rw [eg_36]; rfl
    have ht_39 : (g_36 3).toInt = (z_v : Int32).toInt := by rw [eg_36]; rfl
    have ht_40 : (g_36 5).toInt = ((mf 1) 5).toInt := by rw [eg_36]; rfl
    refine lv_iload_n (pc := 86) E.1 E.2.1 dX12_set_86 rfl (lv_at hl3 1 rfl) ?_
    refine lv_bipush (pc := 87) (v := 6) E.1 E.2.1 dX12_set_87 (by decide +kernel) ?_
    refine lv_icmp_ne (pc := 89) (tgt := 99) E.1 E.2.1 dX12_set_89 (by decide) (fun _ => ?_) (fun c_41 => absurd c_41 (mneE (a := z_what.toInt) (b := 6) rfl (by decide +kernel) (by omega)))
    refine lv_iload_n (pc := 99) E.1 E.2.1 dX12_set_99 rfl (lv_at hl3 1 rfl) ?_
    refine lv_bipush (pc := 100) (v := 7) E.1 E.2.1 dX12_set_100 (by decide +kernel) ?_
    refine lv_icmp_ne (pc := 102) (tgt := 115) E.1 E.2.1 dX12_set_102 (by decide) (fun _ => ?_) (fun c_42 => absurd c_42 (mneE (a := z_what.toInt) (b := 7) rfl (by decide +kernel) (by omega)))
    refine lv_iload_n (pc := 115) E.1 E.2.1 dX12_set_115 rfl (lv_at hl3 1 rfl) ?_
    refine lv_bipush (pc := 116) (v := 8) E.1 E.2.1 dX12_set_116 (by decide +kernel) ?_
    refine lv_icmp_ne (pc := 118) (tgt := 131) E.1 E.2.1 dX12_set_118 (by decide) (fun _ => ?_) (fun c_43 => absurd c_43 (mneE (a := z_what.toInt) (b := 8) rfl (by decide +kernel) (by omega)))
    refine lv_iload_n (pc := 131) E.1 E.2.1 dX12_set_131 rfl (lv_at hl3 1 rfl) ?_
    refine lv_bipush (pc := 132) (v := 9) E.1 E.2.1 dX12_set_132 (by decide +kernel) ?_
    refine lv_icmp_ne (pc := 134) (tgt := 144) E.1 E.2.1 dX12_set_134 (by decide) (fun _ => ?_) (fun c_44 => absurd c_44 (mneE (a := z_what.toInt) (b := 9) rfl (by decide +kernel) (by omega)))
    refine lv_iload_n (pc := 144) E.1 E.2.1 dX12_set_144 rfl (lv_at hl3 1 rfl) ?_
    refine lv_bipush (pc := 145) (v := 10) E.1 E.2.1 dX12_set_145 (by decide +kernel) ?_
    refine lv_icmp_ne (pc := 147) (tgt := 157) E.1 E.2.1 dX12_set_147 (by decide) (fun _ => ?_) (fun c_45 => absurd c_45 (mneE (a := z_what.toInt) (b := 10) rfl (by decide +kernel) (by omega)))
    refine lv_aload_n (pc := 157) E.1 E.2.1 dX12_set_157 rfl (lv_at hl3 0 rfl) ?_
    refine lv_iconst (pc := 158) (v := 0) E.1 E.2.1 dX12_set_158 (by decide +kernel) ?_
    refine x_put (pc := 159) (T := TX12) (N := 70) (ci := 12) (ws' := (MW cI cJ M mr (upd (upd mi 0 0) 3 0) (va_up mf 1 g_36) mg)) E hw37 inX12 tyX12_ok nmX12 0 3 q_1402 rfl rfl (by decide) rfl rfl rfl rfl (Nat.le_of_ble_eq_true rfl) rfl dX12_set_159 (fun H locs hw46 => ?_)
    refine lv_iconst (pc := 162) (v := 1) E.1 E.2.1 dX12_set_162 (by decide +kernel) ?_
    exact em_z (w1 := (fun (u : Int32 × (Nat → Int32) × Int32 × Int32 × Int32 × Int32 × (Nat → Int32) × (Nat → Int32) × (Nat → Int32) × Int32) => (MW cI cJ M mr (upd (upd (upd (upd (upd (upd mi 0 u.1) 12 u.2.2.1) 13 u.2.2.2.1) 14 u.2.2.2.2.1) 15 u.2.2.2.2.2.1) 3 u.2.2.2.2.2.2.2.2.2) (va_up (va_up (va_up (va_up mf 1 u.2.1) 8 u.2.2.2.2.2.2.1) 9 u.2.2.2.2.2.2.2.1) 10 u.2.2.2.2.2.2.2.2.1) mg))) E hr hlk (0, g_36, (mi 12), (mi 13), (mi 14), (mi 15), (mf 8), (mf 9), (mf 10), 0) hw46 ⟨h2, (by show 0 ≤ (0 : Int32).toInt ∧ (0 : Int32).toInt ≤ 6; have k_0 : (0 : Int32).toInt = 0 := (by decide +kernel); have k_1 : (0 : Int32).toInt = 0 := (by decide +kernel); have k_2 : (1 : Int32).toInt = 1 := (by decide +kernel); omega), (by show (g_36 2).toInt = ((mf 1) 2).toInt; have k_0 : (0 : Int32).toInt = 0 := (by decide +kernel); have k_1 : (0 : Int32).toInt = 0 := (by decide +kernel); have k_2 : (1 : Int32).toInt = 1 := (by decide +kernel); omega), (by show (g_36 5).toInt = ((mf 1) 5).toInt; have k_0 : (0 : Int32).toInt = 0 := (by decide +kernel); have k_1 : (0 : Int32).toInt = 0 := (by decide +kernel); have k_2 : (1 : Int32).toInt = 1 := (by decide +kernel); omega), (show rowsOK (0 : Int32).toInt (mi 6).toInt (mf 2) from (rowsOK_nil (by decide +kernel))), (show pplOK (mi 6).toInt (mf 8) from lf_people), (Or.inr (Or.inr (⟨rfl, (by show 0 ≤ (g_36 3).toInt; omega), (by show (g_36 3).toInt + 1 ≤ (mi 6).toInt; omega)⟩)))⟩ (by decide +kernel) (Nat.le_of_ble_eq_true rfl) (Nat.le_of_ble_eq_true rfl) dX12_set_163
  · skip
    have ha_13 : z_what.toInt = 4 := ha_13
    have ha_14 : 1 ≤ z_v.toInt := ha_14
    have ha_15 : z_v.toInt ≤ 99 := ha_15
    refine lv_if_ne (pc := 12) (tgt := 17) E.1 E.2.1 dX12_set_12 (by decide) (fun _ => ?_) (fun c_47 => absurd c_47 (mneE (a := 1) (b := 0) (by decide +kernel) (by decide +kernel) (by omega)))
    refine lv_iload_n (pc := 17) E.1 E.2.1 dX12_set_17 rfl (lv_at hl3 1 rfl) ?_
    refine lv_if_ne (pc := 18) (tgt := 28) E.1 E.2.1 dX12_set_18 (by decide) (fun _ => ?_) (fun c_48 => absurd c_48 (mneE (a := z_what.toInt) (b := 0) rfl (by decide +kernel) (by omega)))
    refine lv_iload_n (pc := 28) E.1 E.2.1 dX12_set_28 rfl (lv_at hl3 1 rfl) ?_
    refine lv_iconst (pc := 29) (v := 1) E.1 E.2.1 dX12_set_29 (by decide +kernel) ?_
    refine lv_icmp_ne (pc := 30) (tgt := 38) E.1 E.2.1 dX12_set_30 (by decide) (fun _ => ?_) (fun c_49 => absurd c_49 (mneE (a := z_what.toInt) (b := 1) rfl (by decide +kernel) (by omega)))
    refine lv_iload_n (pc := 38) E.1 E.2.1 dX12_set_38 rfl (lv_at hl3 1 rfl) ?_
    refine lv_iconst (pc := 39) (v := 2) E.1 E.2.1 dX12_set_39 (by decide +kernel) ?_
    refine lv_icmp_ne (pc := 40) (tgt := 48) E.1 E.2.1 dX12_set_40 (by decide) (fun _ => ?_) (fun c_50 => absurd c_50 (mneE (a := z_what.toInt) (b := 2) rfl (by decide +kernel) (by omega)))
    refine lv_iload_n (pc := 48) E.1 E.2.1 dX12_set_48 rfl (lv_at hl3 1 rfl) ?_
    refine lv_iconst (pc := 49) (v := 3) E.1 E.2.1 dX12_set_49 (by decide +kernel) ?_
    refine lv_icmp_ne (pc := 50) (tgt := 61) E.1 E.2.1 dX12_set_50 (by decide) (fun _ => ?_) (fun c_51 => absurd c_51 (mneE (a := z_what.toInt) (b := 3) rfl (by decide +kernel) (by omega)))
    refine lv_iload_n (pc := 61) E.1 E.2.1 dX12_set_61 rfl (lv_at hl3 1 rfl) ?_
    refine lv_iconst (pc := 62) (v := 4) E.1 E.2.1 dX12_set_62 (by decide +kernel) ?_
    refine lv_icmp_ne (pc := 63) (tgt := 74) E.1 E.2.1 dX12_set_63 (by decide) (fun c_52 => absurd (meqE (a := z_what.toInt) (b := 4) rfl (by decide +kernel) (by omega)) c_52) (fun _ => ?_)
    refine lv_aload_n (pc := 66) E.1 E.2.1 dX12_set_66 rfl (lv_at hl3 0 rfl) ?_
    refine lv_iload_n (pc := 67) E.1 E.2.1 dX12_set_67 rfl (lv_at hl3 3 rfl) ?_
    refine lv_bipush (pc := 68) (v := 30) E.1 E.2.1 dX12_set_68 (by decide +kernel) ?_
    refine lv_isub (pc := 70) E.1 E.2.1 dX12_set_70 ?_
    refine lv_topi (fun v_53 ev_53 => ?_)
    have hv_53 : v_53.toInt = z_v.toInt - 30 := by rw [ev_53]; exact subE rfl (by decide +kernel) (by omega)
    refine x_put (pc := 71) (T := TX12) (N := 70) (ci := 12) (ws' := (MW cI cJ M mr (upd (upd mi 0 0) 15 v_53) mf mg)) E hw8 inX12 tyX12_ok nmX12 0 15 q_1414 rfl rfl (by decide) rfl rfl rfl rfl (Nat.le_of_ble_eq_true rfl) rfl dX12_set_71 (fun H locs hw54 => ?_)
    refine lv_iload_n (pc := 74) E.1 E.2.1 dX12_set_74 rfl (lv_at hl3 1 rfl) ?_
    refine lv_iconst (pc := 75) (v := 5) E.1 E.2.1 dX12_set_75 (by decide +kernel) ?_
    refine lv_icmp_ne (pc := 76) (tgt := 86) E.1 E.2.1 dX12_set_76 (by decide) (fun _ => ?_) (fun c_55 => absurd c_55 (mneE (a := z_what.toInt) (b := 5) rfl (by decide +kernel) (by omega)))
    refine lv_iload_n (pc := 86) E.1 E.2.1 dX12_set_86 rfl (lv_at hl3 1 rfl) ?_
    refine lv_bipush (pc := 87) (v := 6) E.1 E.2.1 dX12_set_87 (by decide +kernel) ?_
    refine lv_icmp_ne (pc := 89) (tgt := 99) E.1 E.2.1 dX12_set_89 (by decide) (fun _ => ?_) (fun c_56 => absurd c_56 (mneE (a := z_what.toInt) (b := 6) rfl (by decide +kernel) (by omega)))
    refine lv_iload_n (pc := 99) E.1 E.2.1 dX12_set_99 rfl (lv_at hl3 1 rfl) ?_
    refine lv_bipush (pc := 100) (v := 7) E.1 E.2.1 dX12_set_100 (by decide +kernel) ?_
    refine lv_icmp_ne (pc := 102) (tgt := 115) E.1 E.2.1 dX12_set_102 (by decide) (fun _ => ?_) (fun c_57 => absurd c_57 (mneE (a := z_what.toInt) (b := 7) rfl (by decide +kernel) (by omega)))
    refine lv_iload_n (pc := 115) E.1 E.2.1 dX12_set_115 rfl (lv_at hl3 1 rfl) ?_
    refine lv_bipush (pc := 116) (v := 8) E.1 E.2.1 dX12_set_116 (by decide +kernel) ?_
    refine lv_icmp_ne (pc := 118) (tgt := 131) E.1 E.2.1 dX12_set_118 (by decide) (fun _ => ?_) (fun c_58 => absurd c_58 (mneE (a := z_what.toInt) (b := 8) rfl (by decide +kernel) (by omega)))
    refine lv_iload_n (pc := 131) E.1 E.2.1 dX12_set_131 rfl (lv_at hl3 1 rfl) ?_
    refine lv_bipush (pc := 132) (v := 9) E.1 E.2.1 dX12_set_132 (by decide +kernel) ?_
    refine lv_icmp_ne (pc := 134) (tgt := 144) E.1 E.2.1 dX12_set_134 (by decide) (fun _ => ?_) (fun c_59 => absurd c_59 (mneE (a := z_what.toInt) (b := 9) rfl (by decide +kernel) (by omega)))
    refine lv_iload_n (pc := 144) E.1 E.2.1 dX12_set_144 rfl (lv_at hl3 1 rfl) ?_
    refine lv_bipush (pc := 145) (v := 10) E.1 E.2.1 dX12_set_145 (by decide +kernel) ?_
    refine lv_icmp_ne (pc := 147) (tgt := 157) E.1 E.2.1 dX12_set_147 (by decide) (fun _ => ?_) (fun c_60 => absurd c_60 (mneE (a := z_what.toInt) (b := 10) rfl (by decide +kernel) (by omega)))
    refine lv_aload_n (pc := 157) E.1 E.2.1 dX12_set_157 rfl (lv_at hl3 0 rfl) ?_
    refine lv_iconst (pc := 158) (v := 0) E.1 E.2.1 dX12_set_158 (by decide +kernel) ?_
    refine x_put (pc := 159) (T := TX12) (N := 70) (ci := 12) (ws' := (MW cI cJ M mr (upd (upd (upd mi 0 0) 3 0) 15 v_53) mf mg)) E hw54 inX12 tyX12_ok nmX12 0 3 q_1402 rfl rfl (by decide) rfl rfl rfl rfl (Nat.le_of_ble_eq_true rfl) rfl dX12_set_159 (fun H locs hw61 => ?_)
    refine lv_iconst (pc := 162) (v := 1) E.1 E.2.1 dX12_set_162 (by decide +kernel) ?_
    exact em_z (w1 := (fun (u : Int32 × (Nat → Int32) × Int32 × Int32 × Int32 × Int32 × (Nat → Int32) × (Nat → Int32) × (Nat → Int32) × Int32) => (MW cI cJ M mr (upd (upd (upd (upd (upd (upd mi 0 u.1) 12 u.2.2.1) 13 u.2.2.2.1) 14 u.2.2.2.2.1) 15 u.2.2.2.2.2.1) 3 u.2.2.2.2.2.2.2.2.2) (va_up (va_up (va_up (va_up mf 1 u.2.1) 8 u.2.2.2.2.2.2.1) 9 u.2.2.2.2.2.2.2.1) 10 u.2.2.2.2.2.2.2.2.1) mg))) E hr hlk (0, (mf 1), (mi 12), (mi 13), (mi 14), v_53, (mf 8), (mf 9), (mf 10), 0) hw61 ⟨(by show (-29) ≤ v_53.toInt ∧ v_53.toInt ≤ 69; have k_0 : (0 : Int32).toInt = 0 := (by decide +kernel); have k_1 : (0 : Int32).toInt = 0 := (by decide +kernel); have k_2 : (1 : Int32).toInt = 1 := (by decide +kernel); omega), (by show 0 ≤ (0 : Int32).toInt ∧ (0 : Int32).toInt ≤ 6; have k_0 : (0 : Int32).toInt = 0 := (by decide +kernel); have k_1 : (0 : Int32).toInt = 0 := (by decide +kernel); have k_2 : (1 : Int32).toInt = 1 := (by decide +kernel); omega), rfl, rfl, (show rowsOK (0 : Int32).toInt (mi 6).toInt (mf 2) from (rowsOK_nil (by decide +kernel))), (show pplOK (mi 6).toInt (mf 8) from lf_people), (Or.inr (Or.inl ⟨rfl, rfl⟩))⟩ (by decide +kernel) (Nat.le_of_ble_eq_true rfl) (Nat.le_of_ble_eq_true rfl) dX12_set_163
  · skip
    have ha_16 : z_what.toInt = 3 := ha_16
    refine lv_if_ne (pc := 12) (tgt := 17) E.1 E.2.1 dX12_set_12 (by decide) (fun _ => ?_) (fun c_62 => absurd c_62 (mneE (a := 1) (b := 0) (by decide +kernel) (by decide +kernel) (by omega)))
    refine lv_iload_n (pc := 17) E.1 E.2.1 dX12_set_17 rfl (lv_at hl3 1 rfl) ?_
    refine lv_if_ne (pc := 18) (tgt := 28) E.1 E.2.1 dX12_set_18 (by decide) (fun _ => ?_) (fun c_63 => absurd c_63 (mneE (a := z_what.toInt) (b := 0) rfl (by decide +kernel) (by omega)))
    refine lv_iload_n (pc := 28) E.1 E.2.1 dX12_set_28 rfl (lv_at hl3 1 rfl) ?_
    refine lv_iconst (pc := 29) (v := 1) E.1 E.2.1 dX12_set_29 (by decide +kernel) ?_
    refine lv_icmp_ne (pc := 30) (tgt := 38) E.1 E.2.1 dX12_set_30 (by decide) (fun _ => ?_) (fun c_64 => absurd c_64 (mneE (a := z_what.toInt) (b := 1) rfl (by decide +kernel) (by omega)))
    refine lv_iload_n (pc := 38) E.1 E.2.1 dX12_set_38 rfl (lv_at hl3 1 rfl) ?_
    refine lv_iconst (pc := 39) (v := 2) E.1 E.2.1 dX12_set_39 (by decide +kernel) ?_
    refine lv_icmp_ne (pc := 40) (tgt := 48) E.1 E.2.1 dX12_set_40 (by decide) (fun _ => ?_) (fun c_65 => absurd c_65 (mneE (a := z_what.toInt) (b := 2) rfl (by decide +kernel) (by omega)))
    refine lv_iload_n (pc := 48) E.1 E.2.1 dX12_set_48 rfl (lv_at hl3 1 rfl) ?_
    refine lv_iconst (pc := 49) (v := 3) E.1 E.2.1 dX12_set_49 (by decide +kernel) ?_
    refine lv_icmp_ne (pc := 50) (tgt := 61) E.1 E.2.1 dX12_set_50 (by decide) (fun c_66 => absurd (meqE (a := z_what.toInt) (b := 3) rfl (by decide +kernel) (by omega)) c_66) (fun _ => ?_)
    refine lv_aload_n (pc := 53) E.1 E.2.1 dX12_set_53 rfl (lv_at hl3 0 rfl) ?_
    refine lv_iload_n (pc := 54) E.1 E.2.1 dX12_set_54 rfl (lv_at hl3 3 rfl) ?_
    refine lv_bipush (pc := 55) (v := 20) E.1 E.2.1 dX12_set_55 (by decide +kernel) ?_
    refine lv_isub (pc := 57) E.1 E.2.1 dX12_set_57 ?_
    refine lv_topi (fun v_67 ev_67 => ?_)
    refine x_put (pc := 58) (T := TX12) (N := 70) (ci := 12) (ws' := (MW cI cJ M mr (upd (upd mi 0 0) 14 v_67) mf mg)) E hw8 inX12 tyX12_ok nmX12 0 14 q_1413 rfl rfl (by decide) rfl rfl rfl rfl (Nat.le_of_ble_eq_true rfl) rfl dX12_set_58 (fun H locs hw68 => ?_)
    refine lv_iload_n (pc := 61) E.1 E.2.1 dX12_set_61 rfl (lv_at hl3 1 rfl) ?_
    refine lv_iconst (pc := 62) (v := 4) E.1 E.2.1 dX12_set_62 (by decide +kernel) ?_
    refine lv_icmp_ne (pc := 63) (tgt := 74) E.1 E.2.1 dX12_set_63 (by decide) (fun _ => ?_) (fun c_69 => absurd c_69 (mneE (a := z_what.toInt) (b := 4) rfl (by decide +kernel) (by omega)))
    refine lv_iload_n (pc := 74) E.1 E.2.1 dX12_set_74 rfl (lv_at hl3 1 rfl) ?_
    refine lv_iconst (pc := 75) (v := 5) E.1 E.2.1 dX12_set_75 (by decide +kernel) ?_
    refine lv_icmp_ne (pc := 76) (tgt := 86) E.1 E.2.1 dX12_set_76 (by decide) (fun _ => ?_) (fun c_70 => absurd c_70 (mneE (a := z_what.toInt) (b := 5) rfl (by decide +kernel) (by omega)))
    refine lv_iload_n (pc := 86) E.1 E.2.1 dX12_set_86 rfl (lv_at hl3 1 rfl) ?_
    refine lv_bipush (pc := 87) (v := 6) E.1 E.2.1 dX12_set_87 (by decide +kernel) ?_
    refine lv_icmp_ne (pc := 89) (tgt := 99) E.1 E.2.1 dX12_set_89 (by decide) (fun _ => ?_) (fun c_71 => absurd c_71 (mneE (a := z_what.toInt) (b := 6) rfl (by decide +kernel) (by omega)))
    refine lv_iload_n (pc := 99) E.1 E.2.1 dX12_set_99 rfl (lv_at hl3 1 rfl) ?_
    refine lv_bipush (pc := 100) (v := 7) E.1 E.2.1 dX12_set_100 (by decide +kernel) ?_
    refine lv_icmp_ne (pc := 102) (tgt := 115) E.1 E.2.1 dX12_set_102 (by decide) (fun _ => ?_) (fun c_72 => absurd c_72 (mneE (a := z_what.toInt) (b := 7) rfl (by decide +kernel) (by omega)))
    refine lv_iload_n (pc := 115) E.1 E.2.1 dX12_set_115 rfl (lv_at hl3 1 rfl) ?_
    refine lv_bipush (pc := 116) (v := 8) E.1 E.2.1 dX12_set_116 (by decide +kernel) ?_
    refine lv_icmp_ne (pc := 118) (tgt := 131) E.1 E.2.1 dX12_set_118 (by decide) (fun _ => ?_) (fun c_73 => absurd c_73 (mneE (a := z_what.toInt) (b := 8) rfl (by decide +kernel) (by omega)))
    refine lv_iload_n (pc := 131) E.1 E.2.1 dX12_set_131 rfl (lv_at hl3 1 rfl) ?_
    refine lv_bipush (pc := 132) (v := 9) E.1 E.2.1 dX12_set_132 (by decide +kernel) ?_
    refine lv_icmp_ne (pc := 134) (tgt := 144) E.1 E.2.1 dX12_set_134 (by decide) (fun _ => ?_) (fun c_74 => absurd c_74 (mneE (a := z_what.toInt) (b := 9) rfl (by decide +kernel) (by omega)))
    refine lv_iload_n (pc := 144) E.1 E.2.1 dX12_set_144 rfl (lv_at hl3 1 rfl) ?_
    refine lv_bipush (pc := 145) (v := 10) E.1 E.2.1 dX12_set_145 (by decide +kernel) ?_
    refine lv_icmp_ne (pc := 147) (tgt := 157) E.1 E.2.1 dX12_set_147 (by decide) (fun _ => ?_) (fun c_75 => absurd c_75 (mneE (a := z_what.toInt) (b := 10) rfl (by decide +kernel) (by omega)))
    refine lv_aload_n (pc := 157) E.1 E.2.1 dX12_set_157 rfl (lv_at hl3 0 rfl) ?_
    refine lv_iconst (pc := 158) (v := 0) E.1 E.2.1 dX12_set_158 (by decide +kernel) ?_
    refine x_put (pc := 159) (T := TX12) (N := 70) (ci := 12) (ws' := (MW cI cJ M mr (upd (upd (upd mi 0 0) 3 0) 14 v_67) mf mg)) E hw68 inX12 tyX12_ok nmX12 0 3 q_1402 rfl rfl (by decide) rfl rfl rfl rfl (Nat.le_of_ble_eq_true rfl) rfl dX12_set_159 (fun H locs hw76 => ?_)
    refine lv_iconst (pc := 162) (v := 1) E.1 E.2.1 dX12_set_162 (by decide +kernel) ?_
    exact em_z (w1 := (fun (u : Int32 × (Nat → Int32) × Int32 × Int32 × Int32 × Int32 × (Nat → Int32) × (Nat → Int32) × (Nat → Int32) × Int32) => (MW cI cJ M mr (upd (upd (upd (upd (upd (upd mi 0 u.1) 12 u.2.2.1) 13 u.2.2.2.1) 14 u.2.2.2.2.1) 15 u.2.2.2.2.2.1) 3 u.2.2.2.2.2.2.2.2.2) (va_up (va_up (va_up (va_up mf 1 u.2.1) 8 u.2.2.2.2.2.2.1) 9 u.2.2.2.2.2.2.2.1) 10 u.2.2.2.2.2.2.2.2.1) mg))) E hr hlk (0, (mf 1), (mi 12), (mi 13), v_67, (mi 15), (mf 8), (mf 9), (mf 10), 0) hw76 ⟨h2, (by show 0 ≤ (0 : Int32).toInt ∧ (0 : Int32).toInt ≤ 6; have k_0 : (0 : Int32).toInt = 0 := (by decide +kernel); have k_1 : (0 : Int32).toInt = 0 := (by decide +kernel); have k_2 : (1 : Int32).toInt = 1 := (by decide +kernel); omega), rfl, rfl, (show rowsOK (0 : Int32).toInt (mi 6).toInt (mf 2) from (rowsOK_nil (by decide +kernel))), (show pplOK (mi 6).toInt (mf 8) from lf_people), (Or.inr (Or.inl ⟨rfl, rfl⟩))⟩ (by decide +kernel) (Nat.le_of_ble_eq_true rfl) (Nat.le_of_ble_eq_true rfl) dX12_set_163
  · skip
    have ha_17 : z_what.toInt = 6 := ha_17
    have ha_18 : 1 ≤ z_v.toInt := ha_18
    have ha_19 : z_v.toInt ≤ 20 := ha_19
    have ha_20 : 0 ≤ z_who.toInt := ha_20
    have ha_21 : z_who.toInt + 1 ≤ (mi 6).toInt := ha_21
    refine lv_if_ne (pc := 12) (tgt := 17) E.1 E.2.1 dX12_set_12 (by decide) (fun _ => ?_) (fun c_77 => absurd c_77 (mneE (a := 1) (b := 0) (by decide +kernel) (by decide +kernel) (by omega)))
    refine lv_iload_n (pc := 17) E.1 E.2.1 dX12_set_17 rfl (lv_at hl3 1 rfl) ?_
    refine lv_if_ne (pc := 18) (tgt := 28) E.1 E.2.1 dX12_set_18 (by decide) (fun _ => ?_) (fun c_78 => absurd c_78 (mneE (a := z_what.toInt) (b := 0) rfl (by decide +kernel) (by omega)))
    refine lv_iload_n (pc := 28) E.1 E.2.1 dX12_set_28 rfl (lv_at hl3 1 rfl) ?_
    refine lv_iconst (pc := 29) (v := 1) E.1 E.2.1 dX12_set_29 (by decide +kernel) ?_
    refine lv_icmp_ne (pc := 30) (tgt := 38) E.1 E.2.1 dX12_set_30 (by decide) (fun _ => ?_) (fun c_79 => absurd c_79 (mneE (a := z_what.toInt) (b := 1) rfl (by decide +kernel) (by omega)))
    refine lv_iload_n (pc := 38) E.1 E.2.1 dX12_set_38 rfl (lv_at hl3 1 rfl) ?_
    refine lv_iconst (pc := 39) (v := 2) E.1 E.2.1 dX12_set_39 (by decide +kernel) ?_
    refine lv_icmp_ne (pc := 40) (tgt := 48) E.1 E.2.1 dX12_set_40 (by decide) (fun _ => ?_) (fun c_80 => absurd c_80 (mneE (a := z_what.toInt) (b := 2) rfl (by decide +kernel) (by omega)))
    refine lv_iload_n (pc := 48) E.1 E.2.1 dX12_set_48 rfl (lv_at hl3 1 rfl) ?_
    refine lv_iconst (pc := 49) (v := 3) E.1 E.2.1 dX12_set_49 (by decide +kernel) ?_
    refine lv_icmp_ne (pc := 50) (tgt := 61) E.1 E.2.1 dX12_set_50 (by decide) (fun _ => ?_) (fun c_81 => absurd c_81 (mneE (a := z_what.toInt) (b := 3) rfl (by decide +kernel) (by omega)))
    refine lv_iload_n (pc := 61) E.1 E.2.1 dX12_set_61 rfl (lv_at hl3 1 rfl) ?_
    refine lv_iconst (pc := 62) (v := 4) E.1 E.2.1 dX12_set_62 (by decide +kernel) ?_
    refine lv_icmp_ne (pc := 63) (tgt := 74) E.1 E.2.1 dX12_set_63 (by decide) (fun _ => ?_) (fun c_82 => absurd c_82 (mneE (a := z_what.toInt) (b := 4) rfl (by decide +kernel) (by omega)))
    refine lv_iload_n (pc := 74) E.1 E.2.1 dX12_set_74 rfl (lv_at hl3 1 rfl) ?_
    refine lv_iconst (pc := 75) (v := 5) E.1 E.2.1 dX12_set_75 (by decide +kernel) ?_
    refine lv_icmp_ne (pc := 76) (tgt := 86) E.1 E.2.1 dX12_set_76 (by decide) (fun _ => ?_) (fun c_83 => absurd c_83 (mneE (a := z_what.toInt) (b := 5) rfl (by decide +kernel) (by omega)))
    refine lv_iload_n (pc := 86) E.1 E.2.1 dX12_set_86 rfl (lv_at hl3 1 rfl) ?_
    refine lv_bipush (pc := 87) (v := 6) E.1 E.2.1 dX12_set_87 (by decide +kernel) ?_
    refine lv_icmp_ne (pc := 89) (tgt := 99) E.1 E.2.1 dX12_set_89 (by decide) (fun c_84 => absurd (meqE (a := z_what.toInt) (b := 6) rfl (by decide +kernel) (by omega)) c_84) (fun _ => ?_)
    refine lv_aload_n (pc := 92) E.1 E.2.1 dX12_set_92 rfl (lv_at hl3 0 rfl) ?_
    refine x_get (pc := 93) (T := TX12) (N := 70) (ci := 12) (v := .ref (mr 8)) E hw8 inX12 0 8 q_1407 rfl rfl (by decide) rfl rfl dX12_set_93 ?_
    refine lv_iload_n (pc := 96) E.1 E.2.1 dX12_set_96 rfl (lv_at hl3 2 rfl) ?_
    refine lv_iload_n (pc := 97) E.1 E.2.1 dX12_set_97 rfl (lv_at hl3 3 rfl) ?_
    refine x_iastG (pc := 98) (f := (mf 8)) (wf := fun g => (MW cI cJ M mr (upd mi 0 0) (va_up mf 8 g) mg)) E hw8 5 rfl (inbE (a := z_who.toInt) rfl (by omega)) (fun _ => rfl) dX12_set_98 (fun g_85 H locs eg_85 hw86 => ?_)
    refine lv_iload_n (pc := 99) E.1 E.2.1 dX12_set_99 rfl (lv_at hl3 1 rfl) ?_
    refine lv_bipush (pc := 100) (v := 7) E.1 E.2.1 dX12_set_100 (by decide +kernel) ?_
    refine lv_icmp_ne (pc := 102) (tgt := 115) E.1 E.2.1 dX12_set_102 (by decide) (fun _ => ?_) (fun c_87 => absurd c_87 (mneE (a := z_what.toInt) (b := 7) rfl (by decide +kernel) (by omega)))
    refine lv_iload_n (pc := 115) E.1 E.2.1 dX12_set_115 rfl (lv_at hl3 1 rfl) ?_
    refine lv_bipush (pc := 116) (v := 8) E.1 E.2.1 dX12_set_116 (by decide +kernel) ?_
    refine lv_icmp_ne (pc := 118) (tgt := 131) E.1 E.2.1 dX12_set_118 (by decide) (fun _ => ?_) (fun c_88 => absurd c_88 (mneE (a := z_what.toInt) (b := 8) rfl (by decide +kernel) (by omega)))
    refine lv_iload_n (pc := 131) E.1 E.2.1 dX12_set_131 rfl (lv_at hl3 1 rfl) ?_
    refine lv_bipush (pc := 132) (v := 9) E.1 E.2.1 dX12_set_132 (by decide +kernel) ?_
    refine lv_icmp_ne (pc := 134) (tgt := 144) E.1 E.2.1 dX12_set_134 (by decide) (fun _ => ?_) (fun c_89 => absurd c_89 (mneE (a := z_what.toInt) (b := 9) rfl (by decide +kernel) (by omega)))
    refine lv_iload_n (pc := 144) E.1 E.2.1 dX12_set_144 rfl (lv_at hl3 1 rfl) ?_
    refine lv_bipush (pc := 145) (v := 10) E.1 E.2.1 dX12_set_145 (by decide +kernel) ?_
    refine lv_icmp_ne (pc := 147) (tgt := 157) E.1 E.2.1 dX12_set_147 (by decide) (fun _ => ?_) (fun c_90 => absurd c_90 (mneE (a := z_what.toInt) (b := 10) rfl (by decide +kernel) (by omega)))
    refine lv_aload_n (pc := 157) E.1 E.2.1 dX12_set_157 rfl (lv_at hl3 0 rfl) ?_
    refine lv_iconst (pc := 158) (v := 0) E.1 E.2.1 dX12_set_158 (by decide +kernel) ?_
    refine x_put (pc := 159) (T := TX12) (N := 70) (ci := 12) (ws' := (MW cI cJ M mr (upd (upd mi 0 0) 3 0) (va_up mf 8 g_85) mg)) E hw86 inX12 tyX12_ok nmX12 0 3 q_1402 rfl rfl (by decide) rfl rfl rfl rfl (Nat.le_of_ble_eq_true rfl) rfl dX12_set_159 (fun H locs hw91 => ?_)
    refine lv_iconst (pc := 162) (v := 1) E.1 E.2.1 dX12_set_162 (by decide +kernel) ?_
    exact em_z (w1 := (fun (u : Int32 × (Nat → Int32) × Int32 × Int32 × Int32 × Int32 × (Nat → Int32) × (Nat → Int32) × (Nat → Int32) × Int32) => (MW cI cJ M mr (upd (upd (upd (upd (upd (upd mi 0 u.1) 12 u.2.2.1) 13 u.2.2.2.1) 14 u.2.2.2.2.1) 15 u.2.2.2.2.2.1) 3 u.2.2.2.2.2.2.2.2.2) (va_up (va_up (va_up (va_up mf 1 u.2.1) 8 u.2.2.2.2.2.2.1) 9 u.2.2.2.2.2.2.2.1) 10 u.2.2.2.2.2.2.2.2.1) mg))) E hr hlk (0, (mf 1), (mi 12), (mi 13), (mi 14), (mi 15), g_85, (mf 9), (mf 10), 0) hw91 ⟨h2, (by show 0 ≤ (0 : Int32).toInt ∧ (0 : Int32).toInt ≤ 6; have k_0 : (0 : Int32).toInt = 0 := (by decide +kernel); have k_1 : (0 : Int32).toInt = 0 := (by decide +kernel); have k_2 : (1 : Int32).toInt = 1 := (by decide +kernel); omega), rfl, rfl, (show rowsOK (0 : Int32).toInt (mi 6).toInt (mf 2) from (rowsOK_nil (by decide +kernel))), (show pplOK (mi 6).toInt g_85 from (pplOK_upd lf_people eg_85 (by omega))), (Or.inr (Or.inl ⟨rfl, rfl⟩))⟩ (by decide +kernel) (Nat.le_of_ble_eq_true rfl) (Nat.le_of_ble_eq_true rfl) dX12_set_163
  · skip
    have ha_22 : 0 ≤ z_what.toInt := ha_22
    have ha_23 : z_what.toInt ≤ 2 := ha_23
    refine lv_if_ne (pc := 12) (tgt := 17) E.1 E.2.1 dX12_set_12 (by decide) (fun _ => ?_) (fun c_92 => absurd c_92 (mneE (a := 1) (b := 0) (by decide +kernel) (by decide +kernel) (by omega)))
    refine lv_iload_n (pc := 17) E.1 E.2.1 dX12_set_17 rfl (lv_at hl3 1 rfl) ?_
    refine lv_if_ne (pc := 18) (tgt := 28) E.1 E.2.1 dX12_set_18 (by decide) (fun c_93 => ?_) (fun c_93 => ?_)
    · skip
      have hc_93 := neE (a := z_what.toInt) (b := 0) rfl (by decide +kernel) c_93
      refine lv_iload_n (pc := 28) E.1 E.2.1 dX12_set_28 rfl (lv_at hl3 1 rfl) ?_
      refine lv_iconst (pc := 29) (v := 1) E.1 E.2.1 dX12_set_29 (by decide +kernel) ?_
      refine lv_icmp_ne (pc := 30) (tgt := 38) E.1 E.2.1 dX12_set_30 (by decide) (fun c_94 => ?_) (fun c_94 => ?_)
      · skip
        have hc_94 := neE (a := z_what.toInt) (b := 1) rfl (by decide +kernel) c_94
        refine lv_iload_n (pc := 38) E.1 E.2.1 dX12_set_38 rfl (lv_at hl3 1 rfl) ?_
        refine lv_iconst (pc := 39) (v := 2) E.1 E.2.1 dX12_set_39 (by decide +kernel) ?_
        refine lv_icmp_ne (pc := 40) (tgt := 48) E.1 E.2.1 dX12_set_40 (by decide) (fun c_95 => absurd (meqE (a := z_what.toInt) (b := 2) rfl (by decide +kernel) (by omega)) c_95) (fun _ => ?_)
        refine lv_aload_n (pc := 43) E.1 E.2.1 dX12_set_43 rfl (lv_at hl3 0 rfl) ?_
        refine lv_iload_n (pc := 44) E.1 E.2.1 dX12_set_44 rfl (lv_at hl3 3 rfl) ?_
        refine x_put (pc := 45) (T := TX12) (N := 70) (ci := 12) (ws' := (MW cI cJ M mr (upd (upd mi 0 0) 13 z_v) mf mg)) E hw8 inX12 tyX12_ok nmX12 0 13 q_1412 rfl rfl (by decide) rfl rfl rfl rfl (Nat.le_of_ble_eq_true rfl) rfl dX12_set_45 (fun H locs hw96 => ?_)
        refine lv_iload_n (pc := 48) E.1 E.2.1 dX12_set_48 rfl (lv_at hl3 1 rfl) ?_
        refine lv_iconst (pc := 49) (v := 3) E.1 E.2.1 dX12_set_49 (by decide +kernel) ?_
        refine lv_icmp_ne (pc := 50) (tgt := 61) E.1 E.2.1 dX12_set_50 (by decide) (fun _ => ?_) (fun c_97 => absurd c_97 (mneE (a := z_what.toInt) (b := 3) rfl (by decide +kernel) (by omega)))
        refine lv_iload_n (pc := 61) E.1 E.2.1 dX12_set_61 rfl (lv_at hl3 1 rfl) ?_
        refine lv_iconst (pc := 62) (v := 4) E.1 E.2.1 dX12_set_62 (by decide +kernel) ?_
        refine lv_icmp_ne (pc := 63) (tgt := 74) E.1 E.2.1 dX12_set_63 (by decide) (fun _ => ?_) (fun c_98 => absurd c_98 (mneE (a := z_what.toInt) (b := 4) rfl (by decide +kernel) (by omega)))
        refine lv_iload_n (pc := 74) E.1 E.2.1 dX12_set_74 rfl (lv_at hl3 1 rfl) ?_
        refine lv_iconst (pc := 75) (v := 5) E.1 E.2.1 dX12_set_75 (by decide +kernel) ?_
        refine lv_icmp_ne (pc := 76) (tgt := 86) E.1 E.2.1 dX12_set_76 (by decide) (fun _ => ?_) (fun c_99 => absurd c_99 (mneE (a := z_what.toInt) (b := 5) rfl (by decide +kernel) (by omega)))
        refine lv_iload_n (pc := 86) E.1 E.2.1 dX12_set_86 rfl (lv_at hl3 1 rfl) ?_
        refine lv_bipush (pc := 87) (v := 6) E.1 E.2.1 dX12_set_87 (by decide +kernel) ?_
        refine lv_icmp_ne (pc := 89) (tgt := 99) E.1 E.2.1 dX12_set_89 (by decide) (fun _ => ?_) (fun c_100 => absurd c_100 (mneE (a := z_what.toInt) (b := 6) rfl (by decide +kernel) (by omega)))
        refine lv_iload_n (pc := 99) E.1 E.2.1 dX12_set_99 rfl (lv_at hl3 1 rfl) ?_
        refine lv_bipush (pc := 100) (v := 7) E.1 E.2.1 dX12_set_100 (by decide +kernel) ?_
        refine lv_icmp_ne (pc := 102) (tgt := 115) E.1 E.2.1 dX12_set_102 (by decide) (fun _ => ?_) (fun c_101 => absurd c_101 (mneE (a := z_what.toInt) (b := 7) rfl (by decide +kernel) (by omega)))
        refine lv_iload_n (pc := 115) E.1 E.2.1 dX12_set_115 rfl (lv_at hl3 1 rfl) ?_
        refine lv_bipush (pc := 116) (v := 8) E.1 E.2.1 dX12_set_116 (by decide +kernel) ?_
        refine lv_icmp_ne (pc := 118) (tgt := 131) E.1 E.2.1 dX12_set_118 (by decide) (fun _ => ?_) (fun c_102 => absurd c_102 (mneE (a := z_what.toInt) (b := 8) rfl (by decide +kernel) (by omega)))
        refine lv_iload_n (pc := 131) E.1 E.2.1 dX12_set_131 rfl (lv_at hl3 1 rfl) ?_
        refine lv_bipush (pc := 132) (v := 9) E.1 E.2.1 dX12_set_132 (by decide +kernel) ?_
        refine lv_icmp_ne (pc := 134) (tgt := 144) E.1 E.2.1 dX12_set_134 (by decide) (fun _ => ?_) (fun c_103 => absurd c_103 (mneE (a := z_what.toInt) (b := 9) rfl (by decide +kernel) (by omega)))
        refine lv_iload_n (pc := 144) E.1 E.2.1 dX12_set_144 rfl (lv_at hl3 1 rfl) ?_
        refine lv_bipush (pc := 145) (v := 10) E.1 E.2.1 dX12_set_145 (by decide +kernel) ?_
        refine lv_icmp_ne (pc := 147) (tgt := 157) E.1 E.2.1 dX12_set_147 (by decide) (fun _ => ?_) (fun c_104 => absurd c_104 (mneE (a := z_what.toInt) (b := 10) rfl (by decide +kernel) (by omega)))
        refine lv_aload_n (pc := 157) E.1 E.2.1 dX12_set_157 rfl (lv_at hl3 0 rfl) ?_
        refine lv_iconst (pc := 158) (v := 0) E.1 E.2.1 dX12_set_158 (by decide +kernel) ?_
        refine x_put (pc := 159) (T := TX12) (N := 70) (ci := 12) (ws' := (MW cI cJ M mr (upd (upd (upd mi 0 0) 3 0) 13 z_v) mf mg)) E hw96 inX12 tyX12_ok nmX12 0 3 q_1402 rfl rfl (by decide) rfl rfl rfl rfl (Nat.le_of_ble_eq_true rfl) rfl dX12_set_159 (fun H locs hw105 => ?_)
        refine lv_iconst (pc := 162) (v := 1) E.1 E.2.1 dX12_set_162 (by decide +kernel) ?_
        exact em_z (w1 := (fun (u : Int32 × (Nat → Int32) × Int32 × Int32 × Int32 × Int32 × (Nat → Int32) × (Nat → Int32) × (Nat → Int32) × Int32) => (MW cI cJ M mr (upd (upd (upd (upd (upd (upd mi 0 u.1) 12 u.2.2.1) 13 u.2.2.2.1) 14 u.2.2.2.2.1) 15 u.2.2.2.2.2.1) 3 u.2.2.2.2.2.2.2.2.2) (va_up (va_up (va_up (va_up mf 1 u.2.1) 8 u.2.2.2.2.2.2.1) 9 u.2.2.2.2.2.2.2.1) 10 u.2.2.2.2.2.2.2.2.1) mg))) E hr hlk (0, (mf 1), (mi 12), z_v, (mi 14), (mi 15), (mf 8), (mf 9), (mf 10), 0) hw105 ⟨h2, (by show 0 ≤ (0 : Int32).toInt ∧ (0 : Int32).toInt ≤ 6; have k_0 : (0 : Int32).toInt = 0 := (by decide +kernel); have k_1 : (0 : Int32).toInt = 0 := (by decide +kernel); have k_2 : (1 : Int32).toInt = 1 := (by decide +kernel); omega), rfl, rfl, (show rowsOK (0 : Int32).toInt (mi 6).toInt (mf 2) from (rowsOK_nil (by decide +kernel))), (show pplOK (mi 6).toInt (mf 8) from lf_people), (Or.inr (Or.inl ⟨rfl, rfl⟩))⟩ (by decide +kernel) (Nat.le_of_ble_eq_true rfl) (Nat.le_of_ble_eq_true rfl) dX12_set_163
      · skip
        have hc_94 := eqE (a := z_what.toInt) (b := 1) rfl (by decide +kernel) c_94
        refine lv_aload_n (pc := 33) E.1 E.2.1 dX12_set_33 rfl (lv_at hl3 0 rfl) ?_
        refine lv_iload_n (pc := 34) E.1 E.2.1 dX12_set_34 rfl (lv_at hl3 3 rfl) ?_
        refine x_put (pc := 35) (T := TX12) (N := 70) (ci := 12) (ws' := (MW cI cJ M mr (upd (upd mi 0 0) 12 z_v) mf mg)) E hw8 inX12 tyX12_ok nmX12 0 12 q_1411 rfl rfl (by decide) rfl rfl rfl rfl (Nat.le_of_ble_eq_true rfl) rfl dX12_set_35 (fun H locs hw106 => ?_)
        refine lv_iload_n (pc := 38) E.1 E.2.1 dX12_set_38 rfl (lv_at hl3 1 rfl) ?_
        refine lv_iconst (pc := 39) (v := 2) E.1 E.2.1 dX12_set_39 (by decide +kernel) ?_
        refine lv_icmp_ne (pc := 40) (tgt := 48) E.1 E.2.1 dX12_set_40 (by decide) (fun _ => ?_) (fun c_107 => absurd c_107 (mneE (a := z_what.toInt) (b := 2) rfl (by decide +kernel) (by omega)))
        refine lv_iload_n (pc := 48) E.1 E.2.1 dX12_set_48 rfl (lv_at hl3 1 rfl) ?_
        refine lv_iconst (pc := 49) (v := 3) E.1 E.2.1 dX12_set_49 (by decide +kernel) ?_
        refine lv_icmp_ne (pc := 50) (tgt := 61) E.1 E.2.1 dX12_set_50 (by decide) (fun _ => ?_) (fun c_108 => absurd c_108 (mneE (a := z_what.toInt) (b := 3) rfl (by decide +kernel) (by omega)))
        refine lv_iload_n (pc := 61) E.1 E.2.1 dX12_set_61 rfl (lv_at hl3 1 rfl) ?_
        refine lv_iconst (pc := 62) (v := 4) E.1 E.2.1 dX12_set_62 (by decide +kernel) ?_
        refine lv_icmp_ne (pc := 63) (tgt := 74) E.1 E.2.1 dX12_set_63 (by decide) (fun _ => ?_) (fun c_109 => absurd c_109 (mneE (a := z_what.toInt) (b := 4) rfl (by decide +kernel) (by omega)))
        refine lv_iload_n (pc := 74) E.1 E.2.1 dX12_set_74 rfl (lv_at hl3 1 rfl) ?_
        refine lv_iconst (pc := 75) (v := 5) E.1 E.2.1 dX12_set_75 (by decide +kernel) ?_
        refine lv_icmp_ne (pc := 76) (tgt := 86) E.1 E.2.1 dX12_set_76 (by decide) (fun _ => ?_) (fun c_110 => absurd c_110 (mneE (a := z_what.toInt) (b := 5) rfl (by decide +kernel) (by omega)))
        refine lv_iload_n (pc := 86) E.1 E.2.1 dX12_set_86 rfl (lv_at hl3 1 rfl) ?_
        refine lv_bipush (pc := 87) (v := 6) E.1 E.2.1 dX12_set_87 (by decide +kernel) ?_
        refine lv_icmp_ne (pc := 89) (tgt := 99) E.1 E.2.1 dX12_set_89 (by decide) (fun _ => ?_) (fun c_111 => absurd c_111 (mneE (a := z_what.toInt) (b := 6) rfl (by decide +kernel) (by omega)))
        refine lv_iload_n (pc := 99) E.1 E.2.1 dX12_set_99 rfl (lv_at hl3 1 rfl) ?_
        refine lv_bipush (pc := 100) (v := 7) E.1 E.2.1 dX12_set_100 (by decide +kernel) ?_
        refine lv_icmp_ne (pc := 102) (tgt := 115) E.1 E.2.1 dX12_set_102 (by decide) (fun _ => ?_) (fun c_112 => absurd c_112 (mneE (a := z_what.toInt) (b := 7) rfl (by decide +kernel) (by omega)))
        refine lv_iload_n (pc := 115) E.1 E.2.1 dX12_set_115 rfl (lv_at hl3 1 rfl) ?_
        refine lv_bipush (pc := 116) (v := 8) E.1 E.2.1 dX12_set_116 (by decide +kernel) ?_
        refine lv_icmp_ne (pc := 118) (tgt := 131) E.1 E.2.1 dX12_set_118 (by decide) (fun _ => ?_) (fun c_113 => absurd c_113 (mneE (a := z_what.toInt) (b := 8) rfl (by decide +kernel) (by omega)))
        refine lv_iload_n (pc := 131) E.1 E.2.1 dX12_set_131 rfl (lv_at hl3 1 rfl) ?_
        refine lv_bipush (pc := 132) (v := 9) E.1 E.2.1 dX12_set_132 (by decide +kernel) ?_
        refine lv_icmp_ne (pc := 134) (tgt := 144) E.1 E.2.1 dX12_set_134 (by decide) (fun _ => ?_) (fun c_114 => absurd c_114 (mneE (a := z_what.toInt) (b := 9) rfl (by decide +kernel) (by omega)))
        refine lv_iload_n (pc := 144) E.1 E.2.1 dX12_set_144 rfl (lv_at hl3 1 rfl) ?_
        refine lv_bipush (pc := 145) (v := 10) E.1 E.2.1 dX12_set_145 (by decide +kernel) ?_
        refine lv_icmp_ne (pc := 147) (tgt := 157) E.1 E.2.1 dX12_set_147 (by decide) (fun _ => ?_) (fun c_115 => absurd c_115 (mneE (a := z_what.toInt) (b := 10) rfl (by decide +kernel) (by omega)))
        refine lv_aload_n (pc := 157) E.1 E.2.1 dX12_set_157 rfl (lv_at hl3 0 rfl) ?_
        refine lv_iconst (pc := 158) (v := 0) E.1 E.2.1 dX12_set_158 (by decide +kernel) ?_
        refine x_put (pc := 159) (T := TX12) (N := 70) (ci := 12) (ws' := (MW cI cJ M mr (upd (upd (upd mi 0 0) 3 0) 12 z_v) mf mg)) E hw106 inX12 tyX12_ok nmX12 0 3 q_1402 rfl rfl (by decide) rfl rfl rfl rfl (Nat.le_of_ble_eq_true rfl) rfl dX12_set_159 (fun H locs hw116 => ?_)
        refine lv_iconst (pc := 162) (v := 1) E.1 E.2.1 dX12_set_162 (by decide +kernel) ?_
        exact em_z (w1 := (fun (u : Int32 × (Nat → Int32) × Int32 × Int32 × Int32 × Int32 × (Nat → Int32) × (Nat → Int32) × (Nat → Int32) × Int32) => (MW cI cJ M mr (upd (upd (upd (upd (upd (upd mi 0 u.1) 12 u.2.2.1) 13 u.2.2.2.1) 14 u.2.2.2.2.1) 15 u.2.2.2.2.2.1) 3 u.2.2.2.2.2.2.2.2.2) (va_up (va_up (va_up (va_up mf 1 u.2.1) 8 u.2.2.2.2.2.2.1) 9 u.2.2.2.2.2.2.2.1) 10 u.2.2.2.2.2.2.2.2.1) mg))) E hr hlk (0, (mf 1), z_v, (mi 13), (mi 14), (mi 15), (mf 8), (mf 9), (mf 10), 0) hw116 ⟨h2, (by show 0 ≤ (0 : Int32).toInt ∧ (0 : Int32).toInt ≤ 6; have k_0 : (0 : Int32).toInt = 0 := (by decide +kernel); have k_1 : (0 : Int32).toInt = 0 := (by decide +kernel); have k_2 : (1 : Int32).toInt = 1 := (by decide +kernel); omega), rfl, rfl, (show rowsOK (0 : Int32).toInt (mi 6).toInt (mf 2) from (rowsOK_nil (by decide +kernel))), (show pplOK (mi 6).toInt (mf 8) from lf_people), (Or.inr (Or.inl ⟨rfl, rfl⟩))⟩ (by decide +kernel) (Nat.le_of_ble_eq_true rfl) (Nat.le_of_ble_eq_true rfl) dX12_set_163
    · skip
      have hc_93 := eqE (a := z_what.toInt) (b := 0) rfl (by decide +kernel) c_93
      refine lv_aload_n (pc := 21) E.1 E.2.1 dX12_set_21 rfl (lv_at hl3 0 rfl) ?_
      refine x_get (pc := 22) (T := TX12) (N := 70) (ci := 12) (v := .ref (mr 1)) E hw8 inX12 0 1 q_1400 rfl rfl (by decide) rfl rfl dX12_set_22 ?_
      refine lv_iconst (pc := 25) (v := 4) E.1 E.2.1 dX12_set_25 (by decide +kernel) ?_
      refine lv_iload_n (pc := 26) E.1 E.2.1 dX12_set_26 rfl (lv_at hl3 3 rfl) ?_
      refine x_iastG (pc := 27) (f := (mf 1)) (wf := fun g => (MW cI cJ M mr (upd mi 0 0) (va_up mf 1 g) mg)) E hw8 1 rfl (inbE (a := 4) (by decide +kernel) (by omega)) (fun _ => rfl) dX12_set_27 (fun g_117 H locs eg_117 hw118 => ?_)
      have ht_119 : (g_117 2).toInt = ((mf 1) 2).toInt := by rw [eg_117]; rfl
      have ht_120 : (g_117 3).toInt = ((mf 1) 3).toInt := by rw [eg_117]; rfl
      have ht_121 : (g_117 5).toInt = ((mf 1) 5).toInt := by rw [eg_117]; rfl
      refine lv_iload_n (pc := 28) E.1 E.2.1 dX12_set_28 rfl (lv_at hl3 1 rfl) ?_
      refine lv_iconst (pc := 29) (v := 1) E.1 E.2.1 dX12_set_29 (by decide +kernel) ?_
      refine lv_icmp_ne (pc := 30) (tgt := 38) E.1 E.2.1 dX12_set_30 (by decide) (fun _ => ?_) (fun c_122 => absurd c_122 (mneE (a := z_what.toInt) (b := 1) rfl (by decide +kernel) (by omega)))
      refine lv_iload_n (pc := 38) E.1 E.2.1 dX12_set_38 rfl (lv_at hl3 1 rfl) ?_
      refine lv_iconst (pc := 39) (v := 2) E.1 E.2.1 dX12_set_39 (by decide +kernel) ?_
      refine lv_icmp_ne (pc := 40) (tgt := 48) E.1 E.2.1 dX12_set_40 (by decide) (fun _ => ?_) (fun c_123 => absurd c_123 (mneE (a := z_what.toInt) (b := 2) rfl (by decide +kernel) (by omega)))
      refine lv_iload_n (pc := 48) E.1 E.2.1 dX12_set_48 rfl (lv_at hl3 1 rfl) ?_
      refine lv_iconst (pc := 49) (v := 3) E.1 E.2.1 dX12_set_49 (by decide +kernel) ?_
      refine lv_icmp_ne (pc := 50) (tgt := 61) E.1 E.2.1 dX12_set_50 (by decide) (fun _ => ?_) (fun c_124 => absurd c_124 (mneE (a := z_what.toInt) (b := 3) rfl (by decide +kernel) (by omega)))
      refine lv_iload_n (pc := 61) E.1 E.2.1 dX12_set_61 rfl (lv_at hl3 1 rfl) ?_
      refine lv_iconst (pc := 62) (v := 4) E.1 E.2.1 dX12_set_62 (by decide +kernel) ?_
      refine lv_icmp_ne (pc := 63) (tgt := 74) E.1 E.2.1 dX12_set_63 (by decide) (fun _ => ?_) (fun c_125 => absurd c_125 (mneE (a := z_what.toInt) (b := 4) rfl (by decide +kernel) (by omega)))
      refine lv_iload_n (pc := 74) E.1 E.2.1 dX12_set_74 rfl (lv_at hl3 1 rfl) ?_
      refine lv_iconst (pc := 75) (v := 5) E.1 E.2.1 dX12_set_75 (by decide +kernel) ?_
      refine lv_icmp_ne (pc := 76) (tgt := 86) E.1 E.2.1 dX12_set_76 (by decide) (fun _ => ?_) (fun c_126 => absurd c_126 (mneE (a := z_what.toInt) (b := 5) rfl (by decide +kernel) (by omega)))
      refine lv_iload_n (pc := 86) E.1 E.2.1 dX12_set_86 rfl (lv_at hl3 1 rfl) ?_
      refine lv_bipush (pc := 87) (v := 6) E.1 E.2.1 dX12_set_87 (by decide +kernel) ?_
      refine lv_icmp_ne (pc := 89) (tgt := 99) E.1 E.2.1 dX12_set_89 (by decide) (fun _ => ?_) (fun c_127 => absurd c_127 (mneE (a := z_what.toInt) (b := 6) rfl (by decide +kernel) (by omega)))
      refine lv_iload_n (pc := 99) E.1 E.2.1 dX12_set_99 rfl (lv_at hl3 1 rfl) ?_
      refine lv_bipush (pc := 100) (v := 7) E.1 E.2.1 dX12_set_100 (by decide +kernel) ?_
      refine lv_icmp_ne (pc := 102) (tgt := 115) E.1 E.2.1 dX12_set_102 (by decide) (fun _ => ?_) (fun c_128 => absurd c_128 (mneE (a := z_what.toInt) (b := 7) rfl (by decide +kernel) (by omega)))
      refine lv_iload_n (pc := 115) E.1 E.2.1 dX12_set_115 rfl (lv_at hl3 1 rfl) ?_
      refine lv_bipush (pc := 116) (v := 8) E.1 E.2.1 dX12_set_116 (by decide +kernel) ?_
      refine lv_icmp_ne (pc := 118) (tgt := 131) E.1 E.2.1 dX12_set_118 (by decide) (fun _ => ?_) (fun c_129 => absurd c_129 (mneE (a := z_what.toInt) (b := 8) rfl (by decide +kernel) (by omega)))
      refine lv_iload_n (pc := 131) E.1 E.2.1 dX12_set_131 rfl (lv_at hl3 1 rfl) ?_
      refine lv_bipush (pc := 132) (v := 9) E.1 E.2.1 dX12_set_132 (by decide +kernel) ?_
      refine lv_icmp_ne (pc := 134) (tgt := 144) E.1 E.2.1 dX12_set_134 (by decide) (fun _ => ?_) (fun c_130 => absurd c_130 (mneE (a := z_what.toInt) (b := 9) rfl (by decide +kernel) (by omega)))
      refine lv_iload_n (pc := 144) E.1 E.2.1 dX12_set_144 rfl (lv_at hl3 1 rfl) ?_
      refine lv_bipush (pc := 145) (v := 10) E.1 E.2.1 dX12_set_145 (by decide +kernel) ?_
      refine lv_icmp_ne (pc := 147) (tgt := 157) E.1 E.2.1 dX12_set_147 (by decide) (fun _ => ?_) (fun c_131 => absurd c_131 (mneE (a := z_what.toInt) (b := 10) rfl (by decide +kernel) (by omega)))
      refine lv_aload_n (pc := 157) E.1 E.2.1 dX12_set_157 rfl (lv_at hl3 0 rfl) ?_
      refine lv_iconst (pc := 158) (v := 0) E.1 E.2.1 dX12_set_158 (by decide +kernel) ?_
      refine x_put (pc := 159) (T := TX12) (N := 70) (ci := 12) (ws' := (MW cI cJ M mr (upd (upd mi 0 0) 3 0) (va_up mf 1 g_117) mg)) E hw118 inX12 tyX12_ok nmX12 0 3 q_1402 rfl rfl (by decide) rfl rfl rfl rfl (Nat.le_of_ble_eq_true rfl) rfl dX12_set_159 (fun H locs hw132 => ?_)
      refine lv_iconst (pc := 162) (v := 1) E.1 E.2.1 dX12_set_162 (by decide +kernel) ?_
      exact em_z (w1 := (fun (u : Int32 × (Nat → Int32) × Int32 × Int32 × Int32 × Int32 × (Nat → Int32) × (Nat → Int32) × (Nat → Int32) × Int32) => (MW cI cJ M mr (upd (upd (upd (upd (upd (upd mi 0 u.1) 12 u.2.2.1) 13 u.2.2.2.1) 14 u.2.2.2.2.1) 15 u.2.2.2.2.2.1) 3 u.2.2.2.2.2.2.2.2.2) (va_up (va_up (va_up (va_up mf 1 u.2.1) 8 u.2.2.2.2.2.2.1) 9 u.2.2.2.2.2.2.2.1) 10 u.2.2.2.2.2.2.2.2.1) mg))) E hr hlk (0, g_117, (mi 12), (mi 13), (mi 14), (mi 15), (mf 8), (mf 9), (mf 10), 0) hw132 ⟨h2, (by show 0 ≤ (0 : Int32).toInt ∧ (0 : Int32).toInt ≤ 6; have k_0 : (0 : Int32).toInt = 0 := (by decide +kernel); have k_1 : (0 : Int32).toInt = 0 := (by decide +kernel); have k_2 : (1 : Int32).toInt = 1 := (by decide +kernel); omega), (by show (g_117 2).toInt = ((mf 1) 2).toInt; have k_0 : (0 : Int32).toInt = 0 := (by decide +kernel); have k_1 : (0 : Int32).toInt = 0 := (by decide +kernel); have k_2 : (1 : Int32).toInt = 1 := (by decide +kernel); omega), (by show (g_117 5).toInt = ((mf 1) 5).toInt; have k_0 : (0 : Int32).toInt = 0 := (by decide +kernel); have k_1 : (0 : Int32).toInt = 0 := (by decide +kernel); have k_2 : (1 : Int32).toInt = 1 := (by decide +kernel); omega), (show rowsOK (0 : Int32).toInt (mi 6).toInt (mf 2) from (rowsOK_nil (by decide +kernel))), (show pplOK (mi 6).toInt (mf 8) from lf_people), (Or.inr (Or.inl ⟨rfl, (by show (g_117 3).toInt = ((mf 1) 3).toInt; omega)⟩))⟩ (by decide +kernel) (Nat.le_of_ble_eq_true rfl) (Nat.le_of_ble_eq_true rfl) dX12_set_163
  · skip
    have ha_24 : 7 ≤ z_what.toInt := ha_24
    have ha_25 : z_what.toInt ≤ 10 := ha_25
    have ha_26 : 0 ≤ z_who.toInt := ha_26
    have ha_27 : z_who.toInt + 1 ≤ (mi 6).toInt := ha_27
    refine lv_if_ne (pc := 12) (tgt := 17) E.1 E.2.1 dX12_set_12 (by decide) (fun _ => ?_) (fun c_133 => absurd c_133 (mneE (a := 1) (b := 0) (by decide +kernel) (by decide +kernel) (by omega)))
    refine lv_iload_n (pc := 17) E.1 E.2.1 dX12_set_17 rfl (lv_at hl3 1 rfl) ?_
    refine lv_if_ne (pc := 18) (tgt := 28) E.1 E.2.1 dX12_set_18 (by decide) (fun _ => ?_) (fun c_134 => absurd c_134 (mneE (a := z_what.toInt) (b := 0) rfl (by decide +kernel) (by omega)))
    refine lv_iload_n (pc := 28) E.1 E.2.1 dX12_set_28 rfl (lv_at hl3 1 rfl) ?_
    refine lv_iconst (pc := 29) (v := 1) E.1 E.2.1 dX12_set_29 (by decide +kernel) ?_
    refine lv_icmp_ne (pc := 30) (tgt := 38) E.1 E.2.1 dX12_set_30 (by decide) (fun _ => ?_) (fun c_135 => absurd c_135 (mneE (a := z_what.toInt) (b := 1) rfl (by decide +kernel) (by omega)))
    refine lv_iload_n (pc := 38) E.1 E.2.1 dX12_set_38 rfl (lv_at hl3 1 rfl) ?_
    refine lv_iconst (pc := 39) (v := 2) E.1 E.2.1 dX12_set_39 (by decide +kernel) ?_
    refine lv_icmp_ne (pc := 40) (tgt := 48) E.1 E.2.1 dX12_set_40 (by decide) (fun _ => ?_) (fun c_136 => absurd c_136 (mneE (a := z_what.toInt) (b := 2) rfl (by decide +kernel) (by omega)))
    refine lv_iload_n (pc := 48) E.1 E.2.1 dX12_set_48 rfl (lv_at hl3 1 rfl) ?_
    refine lv_iconst (pc := 49) (v := 3) E.1 E.2.1 dX12_set_49 (by decide +kernel) ?_
    refine lv_icmp_ne (pc := 50) (tgt := 61) E.1 E.2.1 dX12_set_50 (by decide) (fun _ => ?_) (fun c_137 => absurd c_137 (mneE (a := z_what.toInt) (b := 3) rfl (by decide +kernel) (by omega)))
    refine lv_iload_n (pc := 61) E.1 E.2.1 dX12_set_61 rfl (lv_at hl3 1 rfl) ?_
    refine lv_iconst (pc := 62) (v := 4) E.1 E.2.1 dX12_set_62 (by decide +kernel) ?_
    refine lv_icmp_ne (pc := 63) (tgt := 74) E.1 E.2.1 dX12_set_63 (by decide) (fun _ => ?_) (fun c_138 => absurd c_138 (mneE (a := z_what.toInt) (b := 4) rfl (by decide +kernel) (by omega)))
    refine lv_iload_n (pc := 74) E.1 E.2.1 dX12_set_74 rfl (lv_at hl3 1 rfl) ?_
    refine lv_iconst (pc := 75) (v := 5) E.1 E.2.1 dX12_set_75 (by decide +kernel) ?_
    refine lv_icmp_ne (pc := 76) (tgt := 86) E.1 E.2.1 dX12_set_76 (by decide) (fun _ => ?_) (fun c_139 => absurd c_139 (mneE (a := z_what.toInt) (b := 5) rfl (by decide +kernel) (by omega)))
    refine lv_iload_n (pc := 86) E.1 E.2.1 dX12_set_86 rfl (lv_at hl3 1 rfl) ?_
    refine lv_bipush (pc := 87) (v := 6) E.1 E.2.1 dX12_set_87 (by decide +kernel) ?_
    refine lv_icmp_ne (pc := 89) (tgt := 99) E.1 E.2.1 dX12_set_89 (by decide) (fun _ => ?_) (fun c_140 => absurd c_140 (mneE (a := z_what.toInt) (b := 6) rfl (by decide +kernel) (by omega)))
    refine lv_iload_n (pc := 99) E.1 E.2.1 dX12_set_99 rfl (lv_at hl3 1 rfl) ?_
    refine lv_bipush (pc := 100) (v := 7) E.1 E.2.1 dX12_set_100 (by decide +kernel) ?_
    refine lv_icmp_ne (pc := 102) (tgt := 115) E.1 E.2.1 dX12_set_102 (by decide) (fun c_141 => ?_) (fun c_141 => ?_)
    · skip
      have hc_141 := neE (a := z_what.toInt) (b := 7) rfl (by decide +kernel) c_141
      refine lv_iload_n (pc := 115) E.1 E.2.1 dX12_set_115 rfl (lv_at hl3 1 rfl) ?_
      refine lv_bipush (pc := 116) (v := 8) E.1 E.2.1 dX12_set_116 (by decide +kernel) ?_
      refine lv_icmp_ne (pc := 118) (tgt := 131) E.1 E.2.1 dX12_set_118 (by decide) (fun c_142 => ?_) (fun c_142 => ?_)
      · skip
        have hc_142 := neE (a := z_what.toInt) (b := 8) rfl (by decide +kernel) c_142
        refine lv_iload_n (pc := 131) E.1 E.2.1 dX12_set_131 rfl (lv_at hl3 1 rfl) ?_
        refine lv_bipush (pc := 132) (v := 9) E.1 E.2.1 dX12_set_132 (by decide +kernel) ?_
        refine lv_icmp_ne (pc := 134) (tgt := 144) E.1 E.2.1 dX12_set_134 (by decide) (fun c_143 => ?_) (fun c_143 => ?_)
        · skip
          have hc_143 := neE (a := z_what.toInt) (b := 9) rfl (by decide +kernel) c_143
          refine lv_iload_n (pc := 144) E.1 E.2.1 dX12_set_144 rfl (lv_at hl3 1 rfl) ?_
          refine lv_bipush (pc := 145) (v := 10) E.1 E.2.1 dX12_set_145 (by decide +kernel) ?_
          refine lv_icmp_ne (pc := 147) (tgt := 157) E.1 E.2.1 dX12_set_147 (by decide) (fun c_144 => absurd (meqE (a := z_what.toInt) (b := 10) rfl (by decide +kernel) (by omega)) c_144) (fun _ => ?_)
          refine lv_aload_n (pc := 150) E.1 E.2.1 dX12_set_150 rfl (lv_at hl3 0 rfl) ?_
          refine x_get (pc := 151) (T := TX12) (N := 70) (ci := 12) (v := .ref (mr 10)) E hw8 inX12 0 10 q_1409 rfl rfl (by decide) rfl rfl dX12_set_151 ?_
          refine lv_iload_n (pc := 154) E.1 E.2.1 dX12_set_154 rfl (lv_at hl3 2 rfl) ?_
          refine lv_iload_n (pc := 155) E.1 E.2.1 dX12_set_155 rfl (lv_at hl3 3 rfl) ?_
          refine x_iastG (pc := 156) (f := (mf 10)) (wf := fun g => (MW cI cJ M mr (upd mi 0 0) (va_up mf 10 g) mg)) E hw8 7 rfl (inbE (a := z_who.toInt) rfl (by omega)) (fun _ => rfl) dX12_set_156 (fun g_145 H locs eg_145 hw146 => ?_)
          refine lv_aload_n (pc := 157) E.1 E.2.1 dX12_set_157 rfl (lv_at hl3 0 rfl) ?_
          refine lv_iconst (pc := 158) (v := 0) E.1 E.2.1 dX12_set_158 (by decide +kernel) ?_
          refine x_put (pc := 159) (T := TX12) (N := 70) (ci := 12) (ws' := (MW cI cJ M mr (upd (upd mi 0 0) 3 0) (va_up mf 10 g_145) mg)) E hw146 inX12 tyX12_ok nmX12 0 3 q_1402 rfl rfl (by decide) rfl rfl rfl rfl (Nat.le_of_ble_eq_true rfl) rfl dX12_set_159 (fun H locs hw147 => ?_)
          refine lv_iconst (pc := 162) (v := 1) E.1 E.2.1 dX12_set_162 (by decide +kernel) ?_
          exact em_z (w1 := (fun (u : Int32 × (Nat → Int32) × Int32 × Int32 × Int32 × Int32 × (Nat → Int32) × (Nat → Int32) × (Nat → Int32) × Int32) => (MW cI cJ M mr (upd (upd (upd (upd (upd (upd mi 0 u.1) 12 u.2.2.1) 13 u.2.2.2.1) 14 u.2.2.2.2.1) 15 u.2.2.2.2.2.1) 3 u.2.2.2.2.2.2.2.2.2) (va_up (va_up (va_up (va_up mf 1 u.2.1) 8 u.2.2.2.2.2.2.1) 9 u.2.2.2.2.2.2.2.1) 10 u.2.2.2.2.2.2.2.2.1) mg))) E hr hlk (0, (mf 1), (mi 12), (mi 13), (mi 14), (mi 15), (mf 8), (mf 9), g_145, 0) hw147 ⟨h2, (by show 0 ≤ (0 : Int32).toInt ∧ (0 : Int32).toInt ≤ 6; have k_0 : (0 : Int32).toInt = 0 := (by decide +kernel); have k_1 : (0 : Int32).toInt = 0 := (by decide +kernel); have k_2 : (1 : Int32).toInt = 1 := (by decide +kernel); omega), rfl, rfl, (show rowsOK (0 : Int32).toInt (mi 6).toInt (mf 2) from (rowsOK_nil (by decide +kernel))), (show pplOK (mi 6).toInt (mf 8) from lf_people), (Or.inr (Or.inl ⟨rfl, rfl⟩))⟩ (by decide +kernel) (Nat.le_of_ble_eq_true rfl) (Nat.le_of_ble_eq_true rfl) dX12_set_163
        · skip
          have hc_143 := eqE (a := z_what.toInt) (b := 9) rfl (by decide +kernel) c_143
          refine lv_aload_n (pc := 137) E.1 E.2.1 dX12_set_137 rfl (lv_at hl3 0 rfl) ?_
          refine x_get (pc := 138) (T := TX12) (N := 70) (ci := 12) (v := .ref (mr 9)) E hw8 inX12 0 9 q_1408 rfl rfl (by decide) rfl rfl dX12_set_138 ?_
          refine lv_iload_n (pc := 141) E.1 E.2.1 dX12_set_141 rfl (lv_at hl3 2 rfl) ?_
          refine lv_iload_n (pc := 142) E.1 E.2.1 dX12_set_142 rfl (lv_at hl3 3 rfl) ?_
          refine x_iastG (pc := 143) (f := (mf 9)) (wf := fun g => (MW cI cJ M mr (upd mi 0 0) (va_up mf 9 g) mg)) E hw8 6 rfl (inbE (a := z_who.toInt) rfl (by omega)) (fun _ => rfl) dX12_set_143 (fun g_148 H locs eg_148 hw149 => ?_)
          refine lv_iload_n (pc := 144) E.1 E.2.1 dX12_set_144 rfl (lv_at hl3 1 rfl) ?_
          refine lv_bipush (pc := 145) (v := 10) E.1 E.2.1 dX12_set_145 (by decide +kernel) ?_
          refine lv_icmp_ne (pc := 147) (tgt := 157) E.1 E.2.1 dX12_set_147 (by decide) (fun _ => ?_) (fun c_150 => absurd c_150 (mneE (a := z_what.toInt) (b := 10) rfl (by decide +kernel) (by omega)))
          refine lv_aload_n (pc := 157) E.1 E.2.1 dX12_set_157 rfl (lv_at hl3 0 rfl) ?_
          refine lv_iconst (pc := 158) (v := 0) E.1 E.2.1 dX12_set_158 (by decide +kernel) ?_
          refine x_put (pc := 159) (T := TX12) (N := 70) (ci := 12) (ws' := (MW cI cJ M mr (upd (upd mi 0 0) 3 0) (va_up mf 9 g_148) mg)) E hw149 inX12 tyX12_ok nmX12 0 3 q_1402 rfl rfl (by decide) rfl rfl rfl rfl (Nat.le_of_ble_eq_true rfl) rfl dX12_set_159 (fun H locs hw151 => ?_)
          refine lv_iconst (pc := 162) (v := 1) E.1 E.2.1 dX12_set_162 (by decide +kernel) ?_
          exact em_z (w1 := (fun (u : Int32 × (Nat → Int32) × Int32 × Int32 × Int32 × Int32 × (Nat → Int32) × (Nat → Int32) × (Nat → Int32) × Int32) => (MW cI cJ M mr (upd (upd (upd (upd (upd (upd mi 0 u.1) 12 u.2.2.1) 13 u.2.2.2.1) 14 u.2.2.2.2.1) 15 u.2.2.2.2.2.1) 3 u.2.2.2.2.2.2.2.2.2) (va_up (va_up (va_up (va_up mf 1 u.2.1) 8 u.2.2.2.2.2.2.1) 9 u.2.2.2.2.2.2.2.1) 10 u.2.2.2.2.2.2.2.2.1) mg))) E hr hlk (0, (mf 1), (mi 12), (mi 13), (mi 14), (mi 15), (mf 8), g_148, (mf 10), 0) hw151 ⟨h2, (by show 0 ≤ (0 : Int32).toInt ∧ (0 : Int32).toInt ≤ 6; have k_0 : (0 : Int32).toInt = 0 := (by decide +kernel); have k_1 : (0 : Int32).toInt = 0 := (by decide +kernel); have k_2 : (1 : Int32).toInt = 1 := (by decide +kernel); omega), rfl, rfl, (show rowsOK (0 : Int32).toInt (mi 6).toInt (mf 2) from (rowsOK_nil (by decide +kernel))), (show pplOK (mi 6).toInt (mf 8) from lf_people), (Or.inr (Or.inl ⟨rfl, rfl⟩))⟩ (by decide +kernel) (Nat.le_of_ble_eq_true rfl) (Nat.le_of_ble_eq_true rfl) dX12_set_163
      · skip
        have hc_142 := eqE (a := z_what.toInt) (b := 8) rfl (by decide +kernel) c_142
        refine lv_aload_n (pc := 121) E.1 E.2.1 dX12_set_121 rfl (lv_at hl3 0 rfl) ?_
        refine x_get (pc := 122) (T := TX12) (N := 70) (ci := 12) (v := .ref (mr 1)) E hw8 inX12 0 1 q_1400 rfl rfl (by decide) rfl rfl dX12_set_122 ?_
        refine lv_bipush (pc := 125) (v := 16) E.1 E.2.1 dX12_set_125 (by decide +kernel) ?_
        refine lv_iload_n (pc := 127) E.1 E.2.1 dX12_set_127 rfl (lv_at hl3 2 rfl) ?_
        refine lv_iadd (pc := 128) E.1 E.2.1 dX12_set_128 ?_
        refine lv_topi (fun v_152 ev_152 => ?_)
        have hv_152 : v_152.toInt = 16 + z_who.toInt := by rw [ev_152]; exact addE (by decide +kernel) rfl (by omega)
        refine lv_iload_n (pc := 129) E.1 E.2.1 dX12_set_129 rfl (lv_at hl3 3 rfl) ?_
        refine x_iastG (pc := 130) (f := (mf 1)) (wf := fun g => (MW cI cJ M mr (upd mi 0 0) (va_up mf 1 g) mg)) E hw8 1 rfl (inbE (a := v_152.toInt) rfl (by omega)) (fun _ => rfl) dX12_set_130 (fun g_153 H locs eg_153 hw154 => ?_)
        have ht_155 : (g_153 2).toInt = ((mf 1) 2).toInt := by rw [eg_153, pk_un (by have q9 := idxI (x := v_152) (by omega); omega)]
        have ht_156 : (g_153 3).toInt = ((mf 1) 3).toInt := by rw [eg_153, pk_un (by have q9 := idxI (x := v_152) (by omega); omega)]
        have ht_157 : (g_153 5).toInt = ((mf 1) 5).toInt := by rw [eg_153, pk_un (by have q9 := idxI (x := v_152) (by omega); omega)]
        refine lv_iload_n (pc := 131) E.1 E.2.1 dX12_set_131 rfl (lv_at hl3 1 rfl) ?_
        refine lv_bipush (pc := 132) (v := 9) E.1 E.2.1 dX12_set_132 (by decide +kernel) ?_
        refine lv_icmp_ne (pc := 134) (tgt := 144) E.1 E.2.1 dX12_set_134 (by decide) (fun _ => ?_) (fun c_158 => absurd c_158 (mneE (a := z_what.toInt) (b := 9) rfl (by decide +kernel) (by omega)))
        refine lv_iload_n (pc := 144) E.1 E.2.1 dX12_set_144 rfl (lv_at hl3 1 rfl) ?_
        refine lv_bipush (pc := 145) (v := 10) E.1 E.2.1 dX12_set_145 (by decide +kernel) ?_
        refine lv_icmp_ne (pc := 147) (tgt := 157) E.1 E.2.1 dX12_set_147 (by decide) (fun _ => ?_) (fun c_159 => absurd c_159 (mneE (a := z_what.toInt) (b := 10) rfl (by decide +kernel) (by omega)))
        refine lv_aload_n (pc := 157) E.1 E.2.1 dX12_set_157 rfl (lv_at hl3 0 rfl) ?_
        refine lv_iconst (pc := 158) (v := 0) E.1 E.2.1 dX12_set_158 (by decide +kernel) ?_
        refine x_put (pc := 159) (T := TX12) (N := 70) (ci := 12) (ws' := (MW cI cJ M mr (upd (upd mi 0 0) 3 0) (va_up mf 1 g_153) mg)) E hw154 inX12 tyX12_ok nmX12 0 3 q_1402 rfl rfl (by decide) rfl rfl rfl rfl (Nat.le_of_ble_eq_true rfl) rfl dX12_set_159 (fun H locs hw160 => ?_)
        refine lv_iconst (pc := 162) (v := 1) E.1 E.2.1 dX12_set_162 (by decide +kernel) ?_
        exact em_z (w1 := (fun (u : Int32 × (Nat → Int32) × Int32 × Int32 × Int32 × Int32 × (Nat → Int32) × (Nat → Int32) × (Nat → Int32) × Int32) => (MW cI cJ M mr (upd (upd (upd (upd (upd (upd mi 0 u.1) 12 u.2.2.1) 13 u.2.2.2.1) 14 u.2.2.2.2.1) 15 u.2.2.2.2.2.1) 3 u.2.2.2.2.2.2.2.2.2) (va_up (va_up (va_up (va_up mf 1 u.2.1) 8 u.2.2.2.2.2.2.1) 9 u.2.2.2.2.2.2.2.1) 10 u.2.2.2.2.2.2.2.2.1) mg))) E hr hlk (0, g_153, (mi 12), (mi 13), (mi 14), (mi 15), (mf 8), (mf 9), (mf 10), 0) hw160 ⟨h2, (by show 0 ≤ (0 : Int32).toInt ∧ (0 : Int32).toInt ≤ 6; have k_0 : (0 : Int32).toInt = 0 := (by decide +kernel); have k_1 : (0 : Int32).toInt = 0 := (by decide +kernel); have k_2 : (1 : Int32).toInt = 1 := (by decide +kernel); omega), (by show (g_153 2).toInt = ((mf 1) 2).toInt; have k_0 : (0 : Int32).toInt = 0 := (by decide +kernel); have k_1 : (0 : Int32).toInt = 0 := (by decide +kernel); have k_2 : (1 : Int32).toInt = 1 := (by decide +kernel); omega), (by show (g_153 5).toInt = ((mf 1) 5).toInt; have k_0 : (0 : Int32).toInt = 0 := (by decide +kernel); have k_1 : (0 : Int32).toInt = 0 := (by decide +kernel); have k_2 : (1 : Int32).toInt = 1 := (by decide +kernel); omega), (show rowsOK (0 : Int32).toInt (mi 6).toInt (mf 2) from (rowsOK_nil (by decide +kernel))), (show pplOK (mi 6).toInt (mf 8) from lf_people), (Or.inr (Or.inl ⟨rfl, (by show (g_153 3).toInt = ((mf 1) 3).toInt; omega)⟩))⟩ (by decide +kernel) (Nat.le_of_ble_eq_true rfl) (Nat.le_of_ble_eq_true rfl) dX12_set_163
    · skip
      have hc_141 := eqE (a := z_what.toInt) (b := 7) rfl (by decide +kernel) c_141
      refine lv_aload_n (pc := 105) E.1 E.2.1 dX12_set_105 rfl (lv_at hl3 0 rfl) ?_
      refine x_get (pc := 106) (T := TX12) (N := 70) (ci := 12) (v := .ref (mr 1)) E hw8 inX12 0 1 q_1400 rfl rfl (by decide) rfl rfl dX12_set_106 ?_
      refine lv_bipush (pc := 109) (v := 6) E.1 E.2.1 dX12_set_109 (by decide +kernel) ?_
      refine lv_iload_n (pc := 111) E.1 E.2.1 dX12_set_111 rfl (lv_at hl3 2 rfl) ?_
      refine lv_iadd (pc := 112) E.1 E.2.1 dX12_set_112 ?_
      refine lv_topi (fun v_161 ev_161 => ?_)
      have hv_161 : v_161.toInt = 6 + z_who.toInt := by rw [ev_161]; exact addE (by decide +kernel) rfl (by omega)
      refine lv_iload_n (pc := 113) E.1 E.2.1 dX12_set_113 rfl (lv_at hl3 3 rfl) ?_
      refine x_iastG (pc := 114) (f := (mf 1)) (wf := fun g => (MW cI cJ M mr (upd mi 0 0) (va_up mf 1 g) mg)) E hw8 1 rfl (inbE (a := v_161.toInt) rfl (by omega)) (fun _ => rfl) dX12_set_114 (fun g_162 H locs eg_162 hw163 => ?_)
      have ht_164 : (g_162 2).toInt = ((mf 1) 2).toInt := by rw [eg_162, pk_un (by have q9 := idxI (x := v_161) (by omega); omega)]
      have ht_165 : (g_162 3).toInt = ((mf 1) 3).toInt := by rw [eg_162, pk_un (by have q9 := idxI (x := v_161) (by omega); omega)]
      have ht_166 : (g_162 5).toInt = ((mf 1) 5).toInt := by rw [eg_162, pk_un (by have q9 := idxI (x := v_161) (by omega); omega)]
      refine lv_iload_n (pc := 115) E.1 E.2.1 dX12_set_115 rfl (lv_at hl3 1 rfl) ?_
      refine lv_bipush (pc := 116) (v := 8) E.1 E.2.1 dX12_set_116 (by decide +kernel) ?_
      refine lv_icmp_ne (pc := 118) (tgt := 131) E.1 E.2.1 dX12_set_118 (by decide) (fun _ => ?_) (fun c_167 => absurd c_167 (mneE (a := z_what.toInt) (b := 8) rfl (by decide +kernel) (by omega)))
      refine lv_iload_n (pc := 131) E.1 E.2.1 dX12_set_131 rfl (lv_at hl3 1 rfl) ?_
      refine lv_bipush (pc := 132) (v := 9) E.1 E.2.1 dX12_set_132 (by decide +kernel) ?_
      refine lv_icmp_ne (pc := 134) (tgt := 144) E.1 E.2.1 dX12_set_134 (by decide) (fun _ => ?_) (fun c_168 => absurd c_168 (mneE (a := z_what.toInt) (b := 9) rfl (by decide +kernel) (by omega)))
      refine lv_iload_n (pc := 144) E.1 E.2.1 dX12_set_144 rfl (lv_at hl3 1 rfl) ?_
      refine lv_bipush (pc := 145) (v := 10) E.1 E.2.1 dX12_set_145 (by decide +kernel) ?_
      refine lv_icmp_ne (pc := 147) (tgt := 157) E.1 E.2.1 dX12_set_147 (by decide) (fun _ => ?_) (fun c_169 => absurd c_169 (mneE (a := z_what.toInt) (b := 10) rfl (by decide +kernel) (by omega)))
      refine lv_aload_n (pc := 157) E.1 E.2.1 dX12_set_157 rfl (lv_at hl3 0 rfl) ?_
      refine lv_iconst (pc := 158) (v := 0) E.1 E.2.1 dX12_set_158 (by decide +kernel) ?_
      refine x_put (pc := 159) (T := TX12) (N := 70) (ci := 12) (ws' := (MW cI cJ M mr (upd (upd mi 0 0) 3 0) (va_up mf 1 g_162) mg)) E hw163 inX12 tyX12_ok nmX12 0 3 q_1402 rfl rfl (by decide) rfl rfl rfl rfl (Nat.le_of_ble_eq_true rfl) rfl dX12_set_159 (fun H locs hw170 => ?_)
      refine lv_iconst (pc := 162) (v := 1) E.1 E.2.1 dX12_set_162 (by decide +kernel) ?_
      exact em_z (w1 := (fun (u : Int32 × (Nat → Int32) × Int32 × Int32 × Int32 × Int32 × (Nat → Int32) × (Nat → Int32) × (Nat → Int32) × Int32) => (MW cI cJ M mr (upd (upd (upd (upd (upd (upd mi 0 u.1) 12 u.2.2.1) 13 u.2.2.2.1) 14 u.2.2.2.2.1) 15 u.2.2.2.2.2.1) 3 u.2.2.2.2.2.2.2.2.2) (va_up (va_up (va_up (va_up mf 1 u.2.1) 8 u.2.2.2.2.2.2.1) 9 u.2.2.2.2.2.2.2.1) 10 u.2.2.2.2.2.2.2.2.1) mg))) E hr hlk (0, g_162, (mi 12), (mi 13), (mi 14), (mi 15), (mf 8), (mf 9), (mf 10), 0) hw170 ⟨h2, (by show 0 ≤ (0 : Int32).toInt ∧ (0 : Int32).toInt ≤ 6; have k_0 : (0 : Int32).toInt = 0 := (by decide +kernel); have k_1 : (0 : Int32).toInt = 0 := (by decide +kernel); have k_2 : (1 : Int32).toInt = 1 := (by decide +kernel); omega), (by show (g_162 2).toInt = ((mf 1) 2).toInt; have k_0 : (0 : Int32).toInt = 0 := (by decide +kernel); have k_1 : (0 : Int32).toInt = 0 := (by decide +kernel); have k_2 : (1 : Int32).toInt = 1 := (by decide +kernel); omega), (by show (g_162 5).toInt = ((mf 1) 5).toInt; have k_0 : (0 : Int32).toInt = 0 := (by decide +kernel); have k_1 : (0 : Int32).toInt = 0 := (by decide +kernel); have k_2 : (1 : Int32).toInt = 1 := (by decide +kernel); omega), (show rowsOK (0 : Int32).toInt (mi 6).toInt (mf 2) from (rowsOK_nil (by decide +kernel))), (show pplOK (mi 6).toInt (mf 8) from lf_people), (Or.inr (Or.inl ⟨rfl, (by show (g_162 3).toInt = ((mf 1) 3).toInt; omega)⟩))⟩ (by decide +kernel) (Nat.le_of_ble_eq_true rfl) (Nat.le_of_ble_eq_true rfl) dX12_set_163
