set_option maxHeartbeats 4000000 in
set_option maxRecDepth 100000 in
theorem s_mostOf2 (l : Launch) (D : va_G) (cI cJ : ClassId) (sz M : Nat) (mr : Nat → Nat) (mi : Nat → Int32) (mf : Nat → Nat → Int32) (mg : Nat → Nat → Int64) (z_what : Int32) (h0 : 0 ≤ (mi 6).toInt ∧ (mi 6).toInt ≤ 10) : Met l yX12_mostOf (Cond.code yX12_mostOf cX12_mostOf 2 (some .int) :: GW) ({ frames := 1, cells := 0, slots := 0, locals := 40 } : Room) (va_Pc [.ref M, .int z_what] (PW D cI cJ sz (MW cI cJ M mr mi mf mg) xT)) (va_Qi (fun (r : Int32) (u : Unit) => ((r = 9 ∧ z_what.toInt = 0) ∨ (r = 1000 ∧ z_what.toInt = 1) ∨ (z_what.toInt = 5 ∧ r.toInt = (mi 6).toInt - 1) ∨ (r = 20 ∧ z_what.toInt = 6) ∨ (r = 999 ∧ z_what.toInt = 7) ∨ (r = 9999 ∧ z_what.toInt = 10) ∨ (r = 99 ∧ ¬ z_what.toInt = 0 ∧ ¬ z_what.toInt = 1 ∧ ¬ z_what.toInt = 5 ∧ ¬ z_what.toInt = 6 ∧ ¬ z_what.toInt = 7 ∧ ¬ z_what.toInt = 10))) (fun u => QW D cI cJ (va_A (MW cI cJ M mr mi mf mg) sz) ((fun (u : Unit) => (MW cI cJ M mr mi mf mg)) u)) (va_A (MW cI cJ M mr mi mf mg) sz)) 0 0 (va_A (MW cI cJ M mr mi mf mg) sz) := by
  refine mk_met (y := yX12_mostOf) (bytes := cX12_mostOf) (maxL := 2) (avs := [.ref M, .int z_what]) (WS := (MW cI cJ M mr mi mf mg)) (Qf := fun A => va_Qi (fun (r : Int32) (u : Unit) => ((r = 9 ∧ z_what.toInt = 0) ∨ (r = 1000 ∧ z_what.toInt = 1) ∨ (z_what.toInt = 5 ∧ r.toInt = (mi 6).toInt - 1) ∨ (r = 20 ∧ z_what.toInt = 6) ∨ (r = 999 ∧ z_what.toInt = 7) ∨ (r = 9999 ∧ z_what.toInt = 10) ∨ (r = 99 ∧ ¬ z_what.toInt = 0 ∧ ¬ z_what.toInt = 1 ∧ ¬ z_what.toInt = 5 ∧ ¬ z_what.toInt = 6 ∧ ¬ z_what.toInt = 7 ∧ ¬ z_what.toInt = 10))) (fun u => QW D cI cJ A ((fun (u : Unit) => (MW cI cJ M mr mi mf mg)) u)) A) (by decide) (Nat.le_of_ble_eq_true rfl) ?_
  intro p e s m below meth c A ls E hr hlk hnm hX hw1 hl2
  have hl3 : lv_has ls 2 [(0, .ref M), (1, .int z_what)] := hl2
  refine lv_iload_n (pc := 0) E.1 E.2.1 dX12_mostOf_0 rfl (lv_at hl3 1 rfl) ?_
  refine lv_if_ne (pc := 1) (tgt := 7) E.1 E.2.1 dX12_mostOf_1 (by decide) (fun c_4 => ?_) (fun c_4 => ?_)
  · skip
    have hc_4 := neE (a := z_what.toInt) (b := 0) rfl (by decide +kernel) c_4
    refine lv_iload_n (pc := 7) E.1 E.2.1 dX12_mostOf_7 rfl (lv_at hl3 1 rfl) ?_
    refine lv_iconst (pc := 8) (v := 1) E.1 E.2.1 dX12_mostOf_8 (by decide +kernel) ?_
    refine lv_icmp_ne (pc := 9) (tgt := 16) E.1 E.2.1 dX12_mostOf_9 (by decide) (fun c_5 => ?_) (fun c_5 => ?_)
    · skip
      have hc_5 := neE (a := z_what.toInt) (b := 1) rfl (by decide +kernel) c_5
      refine lv_iload_n (pc := 16) E.1 E.2.1 dX12_mostOf_16 rfl (lv_at hl3 1 rfl) ?_
      refine lv_iconst (pc := 17) (v := 5) E.1 E.2.1 dX12_mostOf_17 (by decide +kernel) ?_
      refine lv_icmp_ne (pc := 18) (tgt := 28) E.1 E.2.1 dX12_mostOf_18 (by decide) (fun c_6 => ?_) (fun c_6 => ?_)
      · skip
        have hc_6 := neE (a := z_what.toInt) (b := 5) rfl (by decide +kernel) c_6
        refine lv_iload_n (pc := 28) E.1 E.2.1 dX12_mostOf_28 rfl (lv_at hl3 1 rfl) ?_
        refine lv_bipush (pc := 29) (v := 6) E.1 E.2.1 dX12_mostOf_29 (by decide +kernel) ?_
        refine lv_icmp_ne (pc := 31) (tgt := 37) E.1 E.2.1 dX12_mostOf_31 (by decide) (fun c_7 => ?_) (fun c_7 => ?_)
        · skip
          have hc_7 := neE (a := z_what.toInt) (b := 6) rfl (by decide +kernel) c_7
          refine lv_iload_n (pc := 37) E.1 E.2.1 dX12_mostOf_37 rfl (lv_at hl3 1 rfl) ?_
          refine lv_bipush (pc := 38) (v := 7) E.1 E.2.1 dX12_mostOf_38 (by decide +kernel) ?_
          refine lv_icmp_ne (pc := 40) (tgt := 49) E.1 E.2.1 dX12_mostOf_40 (by decide) (fun c_8 => ?_) (fun c_8 => ?_)
          · skip
            have hc_8 := neE (a := z_what.toInt) (b := 7) rfl (by decide +kernel) c_8
            refine lv_iload_n (pc := 49) E.1 E.2.1 dX12_mostOf_49 rfl (lv_at hl3 1 rfl) ?_
            refine lv_bipush (pc := 50) (v := 10) E.1 E.2.1 dX12_mostOf_50 (by decide +kernel) ?_
            refine lv_icmp_ne (pc := 52) (tgt := 61) E.1 E.2.1 dX12_mostOf_52 (by decide) (fun c_9 => ?_) (fun c_9 => ?_)
            · skip
              have hc_9 := neE (a := z_what.toInt) (b := 10) rfl (by decide +kernel) c_9
              refine lv_bipush (pc := 61) (v := 99) E.1 E.2.1 dX12_mostOf_61 (by decide +kernel) ?_
              exact em_i (w1 := (fun (u : Unit) => (MW cI cJ M mr mi mf mg))) E hr hlk () hw1 (Or.inr (Or.inr (Or.inr (Or.inr (Or.inr (Or.inr (⟨rfl, (by show ¬ z_what.toInt = 0; omega), (by show ¬ z_what.toInt = 1; omega), (by show ¬ z_what.toInt = 5; omega), (by show ¬ z_what.toInt = 6; omega), (by show ¬ z_what.toInt = 7; omega), (by show ¬ z_what.toInt = 10; omega)⟩))))))) (Nat.le_of_ble_eq_true rfl) (Nat.le_of_ble_eq_true rfl) dX12_mostOf_63
            · skip
              have hc_9 := eqE (a := z_what.toInt) (b := 10) rfl (by decide +kernel) c_9
              refine lv_sipush (pc := 55) (v := 9999) E.1 E.2.1 dX12_mostOf_55 (by decide +kernel) ?_
              refine lv_goto (pc := 58) (tgt := 63) E.1 E.2.1 dX12_mostOf_58 (by decide) ?_
              exact em_i (w1 := (fun (u : Unit) => (MW cI cJ M mr mi mf mg))) E hr hlk () hw1 (Or.inr (Or.inr (Or.inr (Or.inr (Or.inr (Or.inl ⟨rfl, (by show z_what.toInt = 10; omega)⟩)))))) (Nat.le_of_ble_eq_true rfl) (Nat.le_of_ble_eq_true rfl) dX12_mostOf_63
          · skip
            have hc_8 := eqE (a := z_what.toInt) (b := 7) rfl (by decide +kernel) c_8
            refine lv_sipush (pc := 43) (v := 999) E.1 E.2.1 dX12_mostOf_43 (by decide +kernel) ?_
            refine lv_goto (pc := 46) (tgt := 63) E.1 E.2.1 dX12_mostOf_46 (by decide) ?_
            exact em_i (w1 := (fun (u : Unit) => (MW cI cJ M mr mi mf mg))) E hr hlk () hw1 (Or.inr (Or.inr (Or.inr (Or.inr (Or.inl ⟨rfl, (by show z_what.toInt = 7; omega)⟩))))) (Nat.le_of_ble_eq_true rfl) (Nat.le_of_ble_eq_true rfl) dX12_mostOf_63
        · skip
          have hc_7 := eqE (a := z_what.toInt) (b := 6) rfl (by decide +kernel) c_7
          refine lv_bipush (pc := 34) (v := 20) E.1 E.2.1 dX12_mostOf_34 (by decide +kernel) ?_
          exact em_i (w1 := (fun (u : Unit) => (MW cI cJ M mr mi mf mg))) E hr hlk () hw1 (Or.inr (Or.inr (Or.inr (Or.inl ⟨rfl, (by show z_what.toInt = 6; omega)⟩)))) (Nat.le_of_ble_eq_true rfl) (Nat.le_of_ble_eq_true rfl) dX12_mostOf_36
      · skip
        have hc_6 := eqE (a := z_what.toInt) (b := 5) rfl (by decide +kernel) c_6
        refine lv_aload_n (pc := 21) E.1 E.2.1 dX12_mostOf_21 rfl (lv_at hl3 0 rfl) ?_
        refine x_get (pc := 22) (T := TX12) (N := 70) (ci := 12) (v := .int (mi 6)) E hw1 inX12 0 6 q_1405 rfl rfl (by decide) rfl rfl dX12_mostOf_22 ?_
        refine lv_iconst (pc := 25) (v := 1) E.1 E.2.1 dX12_mostOf_25 (by decide +kernel) ?_
        refine lv_isub (pc := 26) E.1 E.2.1 dX12_mostOf_26 ?_
        refine lv_topi (fun v_10 ev_10 => ?_)
        have hv_10 : v_10.toInt = (mi 6).toInt - 1 := by rw [ev_10]; exact subE rfl (by decide +kernel) (by omega)
        exact em_i (w1 := (fun (u : Unit) => (MW cI cJ M mr mi mf mg))) E hr hlk () hw1 (Or.inr (Or.inr (Or.inl ⟨(by show z_what.toInt = 5; omega), (by show v_10.toInt = (mi 6).toInt - 1; omega)⟩))) (Nat.le_of_ble_eq_true rfl) (Nat.le_of_ble_eq_true rfl) dX12_mostOf_27
    · skip
      have hc_5 := eqE (a := z_what.toInt) (b := 1) rfl (by decide +kernel) c_5
      refine lv_sipush (pc := 12) (v := 1000) E.1 E.2.1 dX12_mostOf_12 (by decide +kernel) ?_
      exact em_i (w1 := (fun (u : Unit) => (MW cI cJ M mr mi mf mg))) E hr hlk () hw1 (Or.inr (Or.inl ⟨rfl, (by show z_what.toInt = 1; omega)⟩)) (Nat.le_of_ble_eq_true rfl) (Nat.le_of_ble_eq_true rfl) dX12_mostOf_15
  · skip
    have hc_4 := eqE (a := z_what.toInt) (b := 0) rfl (by decide +kernel) c_4
    refine lv_bipush (pc := 4) (v := 9) E.1 E.2.1 dX12_mostOf_4 (by decide +kernel) ?_
    exact em_i (w1 := (fun (u : Unit) => (MW cI cJ M mr mi mf mg))) E hr hlk () hw1 (Or.inl ⟨rfl, (by show z_what.toInt = 0; omega)⟩) (Nat.le_of_ble_eq_true rfl) (Nat.le_of_ble_eq_true rfl) dX12_mostOf_6

