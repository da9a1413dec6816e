set_option maxHeartbeats 4000000 in
set_option maxRecDepth 100000 in
theorem s_isIn (l : Launch) (D : va_G) (cI cJ : ClassId) (sz M : Nat) (mr : Nat → Nat) (mi : Nat → Int32) (mf : Nat → Nat → Int32) (mg : Nat → Nat → Int64) (z_v : Int32) (z_lo : Int32) (z_hi : Int32)  : Met l yX12_isIn (Cond.code yX12_isIn cX12_isIn 4 (some .boolean) :: GW) ({ frames := 1, cells := 0, slots := 0, locals := 40 } : Room) (va_Pc [.ref M, .int z_v, .int z_lo, .int z_hi] (PW D cI cJ sz (MW cI cJ M mr mi mf mg) xT)) (va_Qi (fun (r : Int32) (u : Unit) => ((r = 0 ∧ z_v.toInt < z_lo.toInt) ∨ (r = 0 ∧ z_hi.toInt < z_v.toInt) ∨ (r = 1 ∧ z_lo.toInt ≤ z_v.toInt ∧ z_v.toInt ≤ z_hi.toInt))) (fun u => QW D cI cJ (va_A (MW cI cJ M mr mi mf mg) sz) ((fun (u : Unit) => (MW cI cJ M mr mi mf mg)) u)) (va_A (MW cI cJ M mr mi mf mg) sz)) 0 0 (va_A (MW cI cJ M mr mi mf mg) sz) := by
  refine mk_met (y := yX12_isIn) (bytes := cX12_isIn) (maxL := 4) (avs := [.ref M, .int z_v, .int z_lo, .int z_hi]) (WS := (MW cI cJ M mr mi mf mg)) (Qf := fun A => va_Qi (fun (r : Int32) (u : Unit) => ((r = 0 ∧ z_v.toInt < z_lo.toInt) ∨ (r = 0 ∧ z_hi.toInt < z_v.toInt) ∨ (r = 1 ∧ z_lo.toInt ≤ z_v.toInt ∧ z_v.toInt ≤ z_hi.toInt))) (fun u => QW D cI cJ A ((fun (u : Unit) => (MW cI cJ M mr mi mf mg)) u)) A) (by decide) (Nat.le_of_ble_eq_true rfl) ?_
  intro p e s m below meth c A ls E hr hlk hnm hX hw1 hl2
  have hl3 : lv_has ls 4 [(0, .ref M), (1, .int z_v), (2, .int z_lo), (3, .int z_hi)] := hl2
  refine lv_iload_n (pc := 0) E.1 E.2.1 dX12_isIn_0 rfl (lv_at hl3 1 rfl) ?_
  refine lv_iload_n (pc := 1) E.1 E.2.1 dX12_isIn_1 rfl (lv_at hl3 2 rfl) ?_
  refine lv_icmp_lt (pc := 2) (tgt := 14) E.1 E.2.1 dX12_isIn_2 (by decide) (fun c_4 => ?_) (fun c_4 => ?_)
  · skip
    have hc_4 := ltE (a := z_v.toInt) (b := z_lo.toInt) rfl rfl c_4
    refine lv_iconst (pc := 14) (v := 0) E.1 E.2.1 dX12_isIn_14 (by decide +kernel) ?_
    exact em_z (w1 := (fun (u : Unit) => (MW cI cJ M mr mi mf mg))) E hr hlk () hw1 (Or.inl ⟨rfl, (by show z_v.toInt < z_lo.toInt; omega)⟩) (by decide +kernel) (Nat.le_of_ble_eq_true rfl) (Nat.le_of_ble_eq_true rfl) dX12_isIn_15
  · skip
    have hc_4 := nltE (a := z_v.toInt) (b := z_lo.toInt) rfl rfl c_4
    refine lv_iload_n (pc := 5) E.1 E.2.1 dX12_isIn_5 rfl (lv_at hl3 1 rfl) ?_
    refine lv_iload_n (pc := 6) E.1 E.2.1 dX12_isIn_6 rfl (lv_at hl3 3 rfl) ?_
    refine lv_icmp_gt (pc := 7) (tgt := 14) E.1 E.2.1 dX12_isIn_7 (by decide) (fun c_5 => ?_) (fun c_5 => ?_)
    · skip
      have hc_5 := ltE (a := z_hi.toInt) (b := z_v.toInt) rfl rfl c_5
      refine lv_iconst (pc := 14) (v := 0) E.1 E.2.1 dX12_isIn_14 (by decide +kernel) ?_
      exact em_z (w1 := (fun (u : Unit) => (MW cI cJ M mr mi mf mg))) E hr hlk () hw1 (Or.inr (Or.inl ⟨rfl, (by show z_hi.toInt < z_v.toInt; omega)⟩)) (by decide +kernel) (Nat.le_of_ble_eq_true rfl) (Nat.le_of_ble_eq_true rfl) dX12_isIn_15
    · skip
      have hc_5 := nltE (a := z_hi.toInt) (b := z_v.toInt) rfl rfl c_5
      refine lv_iconst (pc := 10) (v := 1) E.1 E.2.1 dX12_isIn_10 (by decide +kernel) ?_
      refine lv_goto (pc := 11) (tgt := 15) E.1 E.2.1 dX12_isIn_11 (by decide) ?_
      exact em_z (w1 := (fun (u : Unit) => (MW cI cJ M mr mi mf mg))) E hr hlk () hw1 (Or.inr (Or.inr (⟨rfl, (by show z_lo.toInt ≤ z_v.toInt; omega), (by show z_v.toInt ≤ z_hi.toInt; omega)⟩))) (by decide +kernel) (Nat.le_of_ble_eq_true rfl) (Nat.le_of_ble_eq_true rfl) dX12_isIn_15

set_option maxHeartbeats 4000000 in
set_option maxRecDepth 100000 in
theorem s_held (l : Launch) (D : va_G) (cI cJ : ClassId) (sz M : Nat) (mr : Nat → Nat) (mi : Nat → Int32) (mf : Nat → Nat → Int32) (mg : Nat → Nat → Int64) (z_v : Int32) (z_lo : Int32) (z_hi : Int32) (h0 : z_lo.toInt ≤ z_hi.toInt) : Met l yX12_held (Cond.code yX12_held cX12_held 4 (some .int) :: GW) ({ frames := 1, cells := 0, slots := 0, locals := 40 } : Room) (va_Pc [.ref M, .int z_v, .int z_lo, .int z_hi] (PW D cI cJ sz (MW cI cJ M mr mi mf mg) xT)) (va_Qi (fun (r : Int32) (u : Unit) => (z_lo.toInt ≤ r.toInt ∧ r.toInt ≤ z_hi.toInt)) (fun u => QW D cI cJ (va_A (MW cI cJ M mr mi mf mg) sz) ((fun (u : Unit) => (MW cI cJ M mr mi mf mg)) u)) (va_A (MW cI cJ M mr mi mf mg) sz)) 0 0 (va_A (MW cI cJ M mr mi mf mg) sz) := by
  refine mk_met (y := yX12_held) (bytes := cX12_held) (maxL := 4) (avs := [.ref M, .int z_v, .int z_lo, .int z_hi]) (WS := (MW cI cJ M mr mi mf mg)) (Qf := fun A => va_Qi (fun (r : Int32) (u : Unit) => (z_lo.toInt ≤ r.toInt ∧ r.toInt ≤ z_hi.toInt)) (fun u => QW D cI cJ A ((fun (u : Unit) => (MW cI cJ M mr mi mf mg)) u)) A) (by decide) (Nat.le_of_ble_eq_true rfl) ?_
  intro p e s m below meth c A ls E hr hlk hnm hX hw1 hl2
  have hl3 : lv_has ls 4 [(0, .ref M), (1, .int z_v), (2, .int z_lo), (3, .int z_hi)] := hl2
  refine lv_iload_n (pc := 0) E.1 E.2.1 dX12_held_0 rfl (lv_at hl3 1 rfl) ?_
  refine lv_iload_n (pc := 1) E.1 E.2.1 dX12_held_1 rfl (lv_at hl3 2 rfl) ?_
  refine lv_icmp_ge (pc := 2) (tgt := 9) E.1 E.2.1 dX12_held_2 (by decide) (fun c_4 => ?_) (fun c_4 => ?_)
  · skip
    have hc_4 := leE (a := z_lo.toInt) (b := z_v.toInt) rfl rfl c_4
    refine lv_iload_n (pc := 9) E.1 E.2.1 dX12_held_9 rfl (lv_at hl3 1 rfl) ?_
    refine lv_iload_n (pc := 10) E.1 E.2.1 dX12_held_10 rfl (lv_at hl3 3 rfl) ?_
    refine lv_icmp_le (pc := 11) (tgt := 18) E.1 E.2.1 dX12_held_11 (by decide) (fun c_5 => ?_) (fun c_5 => ?_)
    · skip
      have hc_5 := leE (a := z_v.toInt) (b := z_hi.toInt) rfl rfl c_5
      refine lv_iload_n (pc := 18) E.1 E.2.1 dX12_held_18 rfl (lv_at hl3 1 rfl) ?_
      exact em_i (w1 := (fun (u : Unit) => (MW cI cJ M mr mi mf mg))) E hr hlk () hw1 (by show z_lo.toInt ≤ z_v.toInt ∧ z_v.toInt ≤ z_hi.toInt; omega) (Nat.le_of_ble_eq_true rfl) (Nat.le_of_ble_eq_true rfl) dX12_held_19
    · skip
      have hc_5 := nleE (a := z_v.toInt) (b := z_hi.toInt) rfl rfl c_5
      refine lv_iload_n (pc := 14) E.1 E.2.1 dX12_held_14 rfl (lv_at hl3 3 rfl) ?_
      refine lv_goto (pc := 15) (tgt := 19) E.1 E.2.1 dX12_held_15 (by decide) ?_
      exact em_i (w1 := (fun (u : Unit) => (MW cI cJ M mr mi mf mg))) E hr hlk () hw1 (by show z_lo.toInt ≤ z_hi.toInt ∧ z_hi.toInt ≤ z_hi.toInt; omega) (Nat.le_of_ble_eq_true rfl) (Nat.le_of_ble_eq_true rfl) dX12_held_19
  · skip
    have hc_4 := nleE (a := z_lo.toInt) (b := z_v.toInt) rfl rfl c_4
    refine lv_iload_n (pc := 5) E.1 E.2.1 dX12_held_5 rfl (lv_at hl3 2 rfl) ?_
    refine lv_goto (pc := 6) (tgt := 19) E.1 E.2.1 dX12_held_6 (by decide) ?_
    exact em_i (w1 := (fun (u : Unit) => (MW cI cJ M mr mi mf mg))) E hr hlk () hw1 (by show z_lo.toInt ≤ z_lo.toInt ∧ z_lo.toInt ≤ z_hi.toInt; omega) (Nat.le_of_ble_eq_true rfl) (Nat.le_of_ble_eq_true rfl) dX12_held_19

set_option maxHeartbeats 4000000 in
set_option maxRecDepth 100000 in
theorem s_greater (l : Launch) (D : va_G) (cI cJ : ClassId) (sz M : Nat) (mr : Nat → Nat) (mi : Nat → Int32) (mf : Nat → Nat → Int32) (mg : Nat → Nat → Int64) (z_a : Int32) (z_b : Int32)  : Met l yX12_greater (Cond.code yX12_greater cX12_greater 3 (some .int) :: GW) ({ frames := 1, cells := 0, slots := 0, locals := 40 } : Room) (va_Pc [.ref M, .int z_a, .int z_b] (PW D cI cJ sz (MW cI cJ M mr mi mf mg) xT)) (va_Qi (fun (r : Int32) (u : Unit) => (z_a.toInt ≤ r.toInt) ∧ (z_b.toInt ≤ r.toInt)) (fun u => QW D cI cJ (va_A (MW cI cJ M mr mi mf mg) sz) ((fun (u : Unit) => (MW cI cJ M mr mi mf mg)) u)) (va_A (MW cI cJ M mr mi mf mg) sz)) 0 0 (va_A (MW cI cJ M mr mi mf mg) sz) := by
  refine mk_met (y := yX12_greater) (bytes := cX12_greater) (maxL := 3) (avs := [.ref M, .int z_a, .int z_b]) (WS := (MW cI cJ M mr mi mf mg)) (Qf := fun A => va_Qi (fun (r : Int32) (u : Unit) => (z_a.toInt ≤ r.toInt) ∧ (z_b.toInt ≤ r.toInt)) (fun u => QW D cI cJ A ((fun (u : Unit) => (MW cI cJ M mr mi mf mg)) u)) A) (by decide) (Nat.le_of_ble_eq_true rfl) ?_
  intro p e s m below meth c A ls E hr hlk hnm hX hw1 hl2
  have hl3 : lv_has ls 3 [(0, .ref M), (1, .int z_a), (2, .int z_b)] := hl2
  refine lv_iload_n (pc := 0) E.1 E.2.1 dX12_greater_0 rfl (lv_at hl3 1 rfl) ?_
  refine lv_iload_n (pc := 1) E.1 E.2.1 dX12_greater_1 rfl (lv_at hl3 2 rfl) ?_
  refine lv_icmp_le (pc := 2) (tgt := 9) E.1 E.2.1 dX12_greater_2 (by decide) (fun c_4 => ?_) (fun c_4 => ?_)
  · skip
    have hc_4 := leE (a := z_a.toInt) (b := z_b.toInt) rfl rfl c_4
    refine lv_iload_n (pc := 9) E.1 E.2.1 dX12_greater_9 rfl (lv_at hl3 2 rfl) ?_
    exact em_i (w1 := (fun (u : Unit) => (MW cI cJ M mr mi mf mg))) E hr hlk () hw1 ⟨(by show z_a.toInt ≤ z_b.toInt; omega), (by show z_b.toInt ≤ z_b.toInt; omega)⟩ (Nat.le_of_ble_eq_true rfl) (Nat.le_of_ble_eq_true rfl) dX12_greater_10
  · skip
    have hc_4 := nleE (a := z_a.toInt) (b := z_b.toInt) rfl rfl c_4
    refine lv_iload_n (pc := 5) E.1 E.2.1 dX12_greater_5 rfl (lv_at hl3 1 rfl) ?_
    refine lv_goto (pc := 6) (tgt := 10) E.1 E.2.1 dX12_greater_6 (by decide) ?_
    exact em_i (w1 := (fun (u : Unit) => (MW cI cJ M mr mi mf mg))) E hr hlk () hw1 ⟨(by show z_a.toInt ≤ z_a.toInt; omega), (by show z_b.toInt ≤ z_a.toInt; omega)⟩ (Nat.le_of_ble_eq_true rfl) (Nat.le_of_ble_eq_true rfl) dX12_greater_10

set_option maxHeartbeats 4000000 in
set_option maxRecDepth 100000 in
theorem s_dusk (l : Launch) (D : va_G) (cI cJ : ClassId) (sz M : Nat) (mr : Nat → Nat) (mi : Nat → Int32) (mf : Nat → Nat → Int32) (mg : Nat → Nat → Int64)   : Met l yX12_dusk (Cond.code yX12_dusk cX12_dusk 1 (some .int) :: GW) ({ frames := 1, cells := 0, slots := 0, locals := 40 } : Room) (va_Pc [.ref M] (PW D cI cJ sz (MW cI cJ M mr mi mf mg) xT)) (va_Qi (fun (r : Int32) (u : Unit) => True) (fun u => QW D cI cJ (va_A (MW cI cJ M mr mi mf mg) sz) ((fun (u : Unit) => (MW cI cJ M mr mi mf mg)) u)) (va_A (MW cI cJ M mr mi mf mg) sz)) 0 0 (va_A (MW cI cJ M mr mi mf mg) sz) := by
  refine mk_met (y := yX12_dusk) (bytes := cX12_dusk) (maxL := 1) (avs := [.ref M]) (WS := (MW cI cJ M mr mi mf mg)) (Qf := fun A => va_Qi (fun (r : Int32) (u : Unit) => True) (fun u => QW D cI cJ A ((fun (u : Unit) => (MW cI cJ M mr mi mf mg)) u)) A) (by decide) (Nat.le_of_ble_eq_true rfl) ?_
  intro p e s m below meth c A ls E hr hlk hnm hX hw1 hl2
  have hl3 : lv_has ls 1 [(0, .ref M)] := hl2
  refine lv_aload_n (pc := 0) E.1 E.2.1 dX12_dusk_0 rfl (lv_at hl3 0 rfl) ?_
  refine x_get (pc := 1) (T := TX12) (N := 70) (ci := 12) (v := .int (mi 14)) E hw1 inX12 0 14 q_1413 rfl rfl (by decide) rfl rfl dX12_dusk_1 ?_
  refine lv_bipush (pc := 4) (v := 20) E.1 E.2.1 dX12_dusk_4 (by decide +kernel) ?_
  refine lv_iadd (pc := 6) E.1 E.2.1 dX12_dusk_6 ?_
  refine lv_topi (fun v_4 ev_4 => ?_)
  exact em_i (w1 := (fun (u : Unit) => (MW cI cJ M mr mi mf mg))) E hr hlk () hw1 trivial (Nat.le_of_ble_eq_true rfl) (Nat.le_of_ble_eq_true rfl) dX12_dusk_7

set_option maxHeartbeats 4000000 in
set_option maxRecDepth 100000 in
theorem s_due (l : Launch) (D : va_G) (cI cJ : ClassId) (sz M : Nat) (mr : Nat → Nat) (mi : Nat → Int32) (mf : Nat → Nat → Int32) (mg : Nat → Nat → Int64)  (h0 : (-29) ≤ (mi 15).toInt ∧ (mi 15).toInt ≤ 69) : Met l yX12_due (Cond.code yX12_due cX12_due 1 (some .int) :: GW) ({ frames := 1, cells := 0, slots := 0, locals := 40 } : Room) (va_Pc [.ref M] (PW D cI cJ sz (MW cI cJ M mr mi mf mg) xT)) (va_Qi (fun (r : Int32) (u : Unit) => (1 ≤ r.toInt ∧ r.toInt ≤ 99)) (fun u => QW D cI cJ (va_A (MW cI cJ M mr mi mf mg) sz) ((fun (u : Unit) => (MW cI cJ M mr mi mf mg)) u)) (va_A (MW cI cJ M mr mi mf mg) sz)) 0 0 (va_A (MW cI cJ M mr mi mf mg) sz) := by
  refine mk_met (y := yX12_due) (bytes := cX12_due) (maxL := 1) (avs := [.ref M]) (WS := (MW cI cJ M mr mi mf mg)) (Qf := fun A => va_Qi (fun (r : Int32) (u : Unit) => (1 ≤ r.toInt ∧ r.toInt ≤ 99)) (fun u => QW D cI cJ A ((fun (u : Unit) => (MW cI cJ M mr mi mf mg)) u)) A) (by decide) (Nat.le_of_ble_eq_true rfl) ?_
  intro p e s m below meth c A ls E hr hlk hnm hX hw1 hl2
  have hl3 : lv_has ls 1 [(0, .ref M)] := hl2
  refine lv_aload_n (pc := 0) E.1 E.2.1 dX12_due_0 rfl (lv_at hl3 0 rfl) ?_
  refine x_get (pc := 1) (T := TX12) (N := 70) (ci := 12) (v := .int (mi 15)) E hw1 inX12 0 15 q_1414 rfl rfl (by decide) rfl rfl dX12_due_1 ?_
  refine lv_bipush (pc := 4) (v := 30) E.1 E.2.1 dX12_due_4 (by decide +kernel) ?_
  refine lv_iadd (pc := 6) E.1 E.2.1 dX12_due_6 ?_
  refine lv_topi (fun v_4 ev_4 => ?_)
  have hv_4 : v_4.toInt = (mi 15).toInt + 30 := by rw [ev_4]; exact addE rfl (by decide +kernel) (by omega)
  exact em_i (w1 := (fun (u : Unit) => (MW cI cJ M mr mi mf mg))) E hr hlk () hw1 (by show 1 ≤ v_4.toInt ∧ v_4.toInt ≤ 99; omega) (Nat.le_of_ble_eq_true rfl) (Nat.le_of_ble_eq_true rfl) dX12_due_7

set_option maxHeartbeats 4000000 in
set_option maxRecDepth 100000 in
theorem s_isHouse (l : Launch) (D : va_G) (cI cJ : ClassId) (sz M : Nat) (mr : Nat → Nat) (mi : Nat → Int32) (mf : Nat → Nat → Int32) (mg : Nat → Nat → Int64) (z_h : Int32)  : Met l yX12_isHouse (Cond.code yX12_isHouse cX12_isHouse 2 (some .boolean) :: GW) ({ frames := 1, cells := 0, slots := 0, locals := 40 } : Room) (va_Pc [.ref M, .int z_h] (PW D cI cJ sz (MW cI cJ M mr mi mf mg) xT)) (va_Qi (fun (r : Int32) (u : Unit) => ((r = 0 ∧ z_h.toInt < 0) ∨ (r = 0 ∧ (mi 6).toInt ≤ z_h.toInt) ∨ (r = 1 ∧ 0 ≤ z_h.toInt ∧ z_h.toInt < (mi 6).toInt))) (fun u => QW D cI cJ (va_A (MW cI cJ M mr mi mf mg) sz) ((fun (u : Unit) => (MW cI cJ M mr mi mf mg)) u)) (va_A (MW cI cJ M mr mi mf mg) sz)) 0 0 (va_A (MW cI cJ M mr mi mf mg) sz) := by
  refine mk_met (y := yX12_isHouse) (bytes := cX12_isHouse) (maxL := 2) (avs := [.ref M, .int z_h]) (WS := (MW cI cJ M mr mi mf mg)) (Qf := fun A => va_Qi (fun (r : Int32) (u : Unit) => ((r = 0 ∧ z_h.toInt < 0) ∨ (r = 0 ∧ (mi 6).toInt ≤ z_h.toInt) ∨ (r = 1 ∧ 0 ≤ z_h.toInt ∧ z_h.toInt < (mi 6).toInt))) (fun u => QW D cI cJ A ((fun (u : Unit) => (MW cI cJ M mr mi mf mg)) u)) A) (by decide) (Nat.le_of_ble_eq_true rfl) ?_
  intro p e s m below meth c A ls E hr hlk hnm hX hw1 hl2
  have hl3 : lv_has ls 2 [(0, .ref M), (1, .int z_h)] := hl2
  refine lv_iload_n (pc := 0) E.1 E.2.1 dX12_isHouse_0 rfl (lv_at hl3 1 rfl) ?_
  refine lv_if_lt (pc := 1) (tgt := 16) E.1 E.2.1 dX12_isHouse_1 (by decide) (fun c_4 => ?_) (fun c_4 => ?_)
  · skip
    have hc_4 := ltE (a := z_h.toInt) (b := 0) rfl (by decide +kernel) c_4
    refine lv_iconst (pc := 16) (v := 0) E.1 E.2.1 dX12_isHouse_16 (by decide +kernel) ?_
    exact em_z (w1 := (fun (u : Unit) => (MW cI cJ M mr mi mf mg))) E hr hlk () hw1 (Or.inl ⟨rfl, (by show z_h.toInt < 0; omega)⟩) (by decide +kernel) (Nat.le_of_ble_eq_true rfl) (Nat.le_of_ble_eq_true rfl) dX12_isHouse_17
  · skip
    have hc_4 := nltE (a := z_h.toInt) (b := 0) rfl (by decide +kernel) c_4
    refine lv_iload_n (pc := 4) E.1 E.2.1 dX12_isHouse_4 rfl (lv_at hl3 1 rfl) ?_
    refine lv_aload_n (pc := 5) E.1 E.2.1 dX12_isHouse_5 rfl (lv_at hl3 0 rfl) ?_
    refine x_get (pc := 6) (T := TX12) (N := 70) (ci := 12) (v := .int (mi 6)) E hw1 inX12 0 6 q_1405 rfl rfl (by decide) rfl rfl dX12_isHouse_6 ?_
    refine lv_icmp_ge (pc := 9) (tgt := 16) E.1 E.2.1 dX12_isHouse_9 (by decide) (fun c_5 => ?_) (fun c_5 => ?_)
    · skip
      have hc_5 := leE (a := (mi 6).toInt) (b := z_h.toInt) rfl rfl c_5
      refine lv_iconst (pc := 16) (v := 0) E.1 E.2.1 dX12_isHouse_16 (by decide +kernel) ?_
      exact em_z (w1 := (fun (u : Unit) => (MW cI cJ M mr mi mf mg))) E hr hlk () hw1 (Or.inr (Or.inl ⟨rfl, (by show (mi 6).toInt ≤ z_h.toInt; omega)⟩)) (by decide +kernel) (Nat.le_of_ble_eq_true rfl) (Nat.le_of_ble_eq_true rfl) dX12_isHouse_17
    · skip
      have hc_5 := nleE (a := (mi 6).toInt) (b := z_h.toInt) rfl rfl c_5
      refine lv_iconst (pc := 12) (v := 1) E.1 E.2.1 dX12_isHouse_12 (by decide +kernel) ?_
      refine lv_goto (pc := 13) (tgt := 17) E.1 E.2.1 dX12_isHouse_13 (by decide) ?_
      exact em_z (w1 := (fun (u : Unit) => (MW cI cJ M mr mi mf mg))) E hr hlk () hw1 (Or.inr (Or.inr (⟨rfl, (by show 0 ≤ z_h.toInt; omega), (by show z_h.toInt < (mi 6).toInt; omega)⟩))) (by decide +kernel) (Nat.le_of_ble_eq_true rfl) (Nat.le_of_ble_eq_true rfl) dX12_isHouse_17

set_option maxHeartbeats 4000000 in
set_option maxRecDepth 100000 in
theorem s_fault (l : Launch) (D : va_G) (cI cJ : ClassId) (sz M : Nat) (mr : Nat → Nat) (mi : Nat → Int32) (mf : Nat → Nat → Int32) (mg : Nat → Nat → Int64) (z_what : Int32)  : Met l yX12_fault (Cond.code yX12_fault cX12_fault 2 (some .int) :: GW) ({ frames := 1, cells := 0, slots := 0, locals := 40 } : Room) (va_Pc [.ref M, .int z_what] (PW D cI cJ sz (MW cI cJ M mr mi mf mg) xT)) (va_Qi (fun (r : Int32) (u : Int32) => True) (fun u => QW D cI cJ (va_A (MW cI cJ M mr mi mf mg) sz) ((fun (u : Int32) => (MW cI cJ M mr (upd mi 0 u) mf mg)) u)) (va_A (MW cI cJ M mr mi mf mg) sz)) 0 0 (va_A (MW cI cJ M mr mi mf mg) sz) := by
  refine mk_met (y := yX12_fault) (bytes := cX12_fault) (maxL := 2) (avs := [.ref M, .int z_what]) (WS := (MW cI cJ M mr mi mf mg)) (Qf := fun A => va_Qi (fun (r : Int32) (u : Int32) => True) (fun u => QW D cI cJ A ((fun (u : Int32) => (MW cI cJ M mr (upd mi 0 u) mf mg)) u)) A) (by decide) (Nat.le_of_ble_eq_true rfl) ?_
  intro p e s m below meth c A ls E hr hlk hnm hX hw1 hl2
  have hl3 : lv_has ls 2 [(0, .ref M), (1, .int z_what)] := hl2
  refine lv_aload_n (pc := 0) E.1 E.2.1 dX12_fault_0 rfl (lv_at hl3 0 rfl) ?_
  refine lv_iconst (pc := 1) (v := 0) E.1 E.2.1 dX12_fault_1 (by decide +kernel) ?_
  refine x_put (pc := 2) (T := TX12) (N := 70) (ci := 12) (ws' := (MW cI cJ M mr (upd mi 0 0) mf mg)) E hw1 inX12 tyX12_ok nmX12 0 0 q_1399 rfl rfl (by decide) rfl rfl rfl rfl (Nat.le_of_ble_eq_true rfl) rfl dX12_fault_2 (fun H locs hw4 => ?_)
  refine lv_iload_n (pc := 5) E.1 E.2.1 dX12_fault_5 rfl (lv_at hl3 1 rfl) ?_
  refine lv_if_ne (pc := 6) (tgt := 16) E.1 E.2.1 dX12_fault_6 (by decide) (fun c_5 => ?_) (fun c_5 => ?_)
  · skip
    have hc_5 := neE (a := z_what.toInt) (b := 0) rfl (by decide +kernel) c_5
    refine lv_iload_n (pc := 16) E.1 E.2.1 dX12_fault_16 rfl (lv_at hl3 1 rfl) ?_
    refine lv_iconst (pc := 17) (v := 1) E.1 E.2.1 dX12_fault_17 (by decide +kernel) ?_
    refine lv_icmp_ne (pc := 18) (tgt := 28) E.1 E.2.1 dX12_fault_18 (by decide) (fun c_6 => ?_) (fun c_6 => ?_)
    · skip
      have hc_6 := neE (a := z_what.toInt) (b := 1) rfl (by decide +kernel) c_6
      refine lv_iconst (pc := 28) (v := (-1)) E.1 E.2.1 dX12_fault_28 (by decide +kernel) ?_
      exact em_i (w1 := (fun (u : Int32) => (MW cI cJ M mr (upd mi 0 u) mf mg))) E hr hlk 0 hw4 trivial (Nat.le_of_ble_eq_true rfl) (Nat.le_of_ble_eq_true rfl) dX12_fault_29
    · skip
      have hc_6 := eqE (a := z_what.toInt) (b := 1) rfl (by decide +kernel) c_6
      refine lv_aload_n (pc := 21) E.1 E.2.1 dX12_fault_21 rfl (lv_at hl3 0 rfl) ?_
      refine x_get (pc := 22) (T := TX12) (N := 70) (ci := 12) (v := .int (mi 41)) E hw4 inX12 0 41 q_1440 rfl rfl (by decide) rfl rfl dX12_fault_22 ?_
      refine lv_goto (pc := 25) (tgt := 29) E.1 E.2.1 dX12_fault_25 (by decide) ?_
      exact em_i (w1 := (fun (u : Int32) => (MW cI cJ M mr (upd mi 0 u) mf mg))) E hr hlk 0 hw4 trivial (Nat.le_of_ble_eq_true rfl) (Nat.le_of_ble_eq_true rfl) dX12_fault_29
  · skip
    have hc_5 := eqE (a := z_what.toInt) (b := 0) rfl (by decide +kernel) c_5
    refine lv_aload_n (pc := 9) E.1 E.2.1 dX12_fault_9 rfl (lv_at hl3 0 rfl) ?_
    refine x_get (pc := 10) (T := TX12) (N := 70) (ci := 12) (v := .int (mi 40)) E hw4 inX12 0 40 q_1439 rfl rfl (by decide) rfl rfl dX12_fault_10 ?_
    refine lv_goto (pc := 13) (tgt := 29) E.1 E.2.1 dX12_fault_13 (by decide) ?_
    exact em_i (w1 := (fun (u : Int32) => (MW cI cJ M mr (upd mi 0 u) mf mg))) E hr hlk 0 hw4 trivial (Nat.le_of_ble_eq_true rfl) (Nat.le_of_ble_eq_true rfl) dX12_fault_29

set_option maxHeartbeats 4000000 in
set_option maxRecDepth 100000 in
theorem s_types (l : Launch) (D : va_G) (cI cJ : ClassId) (sz M : Nat) (mr : Nat → Nat) (mi : Nat → Int32) (mf : Nat → Nat → Int32) (mg : Nat → Nat → Int64) (z_v : Int32) (h0 : 0 ≤ (mi 21).toInt ∧ (mi 21).toInt ≤ 396) : Met l yX12_types (Cond.code yX12_types cX12_types 3 none :: GW) ({ frames := 1, cells := 0, slots := 0, locals := 40 } : Room) (va_Pc [.ref M, .int z_v] (PW D cI cJ sz (MW cI cJ M mr mi mf mg) xT)) (va_Qv (fun (u : (Nat → Int32) × Int32) => (u.2.toInt = (mi 21).toInt + 4)) (fun u => QW D cI cJ (va_A (MW cI cJ M mr mi mf mg) sz) ((fun (u : (Nat → Int32) × Int32) => (MW cI cJ M mr (upd mi 21 u.2) (va_up mf 20 u.1) mg)) u)) (va_A (MW cI cJ M mr mi mf mg) sz)) 0 0 (va_A (MW cI cJ M mr mi mf mg) sz) := by
  refine mk_met (y := yX12_types) (bytes := cX12_types) (maxL := 3) (avs := [.ref M, .int z_v]) (WS := (MW cI cJ M mr mi mf mg)) (Qf := fun A => va_Qv (fun (u : (Nat → Int32) × Int32) => (u.2.toInt = (mi 21).toInt + 4)) (fun u => QW D cI cJ A ((fun (u : (Nat → Int32) × Int32) => (MW cI cJ M mr (upd mi 21 u.2) (va_up mf 20 u.1) mg)) u)) A) (by decide) (Nat.le_of_ble_eq_true rfl) ?_
  intro p e s m below meth c A ls E hr hlk hnm hX hw1 hl2
  have hl3 : lv_has ls 3 [(0, .ref M), (1, .int z_v)] := hl2
  refine lv_bipush (pc := 0) (v := 24) E.1 E.2.1 dX12_types_0 (by decide +kernel) ?_
  refine lv_istore_n (pc := 2) (lv' := [(2, .int 24), (0, .ref M), (1, .int z_v)]) E.1 E.2.1 dX12_types_2 rfl hl3 (by decide) rfl (fun ls hl4 => ?_)
  refine lv_iload_n (pc := 3) E.1 E.2.1 dX12_types_3 rfl (lv_at hl4 0 rfl) ?_
  refine lv_if_lt (pc := 4) (tgt := 39) E.1 E.2.1 dX12_types_4 (by decide) (fun c_5 => absurd c_5 (mnltE (a := 24) (b := 0) (by decide +kernel) (by decide +kernel) (by omega))) (fun _ => ?_)
  refine lv_aload_n (pc := 7) E.1 E.2.1 dX12_types_7 rfl (lv_at hl4 1 rfl) ?_
  refine x_get (pc := 8) (T := TX12) (N := 70) (ci := 12) (v := .ref (mr 20)) E hw1 inX12 0 20 q_1419 rfl rfl (by decide) rfl rfl dX12_types_8 ?_
  refine lv_aload_n (pc := 11) E.1 E.2.1 dX12_types_11 rfl (lv_at hl4 1 rfl) ?_
  refine x_get (pc := 12) (T := TX12) (N := 70) (ci := 12) (v := .int (mi 21)) E hw1 inX12 0 21 q_1420 rfl rfl (by decide) rfl rfl dX12_types_12 ?_
  refine lv_iload_n (pc := 15) E.1 E.2.1 dX12_types_15 rfl (lv_at hl4 2 rfl) ?_
  refine lv_iload_n (pc := 16) E.1 E.2.1 dX12_types_16 rfl (lv_at hl4 0 rfl) ?_
  refine lv_ishr (pc := 17) E.1 E.2.1 dX12_types_17 ?_
  refine lv_topi (fun v_6 ev_6 => ?_)
  refine lv_sipush (pc := 18) (v := 255) E.1 E.2.1 dX12_types_18 (by decide +kernel) ?_
  refine lv_iand (pc := 21) E.1 E.2.1 dX12_types_21 ?_
  refine lv_topi (fun v_7 ev_7 => ?_)
  refine x_iastG (pc := 22) (f := (mf 20)) (wf := fun g => (MW cI cJ M mr mi (va_up mf 20 g) mg)) E hw1 12 rfl (inbE (a := (mi 21).toInt) rfl (by omega)) (fun _ => rfl) dX12_types_22 (fun g_8 H locs eg_8 hw9 => ?_)
  refine lv_aload_n (pc := 23) E.1 E.2.1 dX12_types_23 rfl (lv_at hl4 1 rfl) ?_
  refine lv_aload_n (pc := 24) E.1 E.2.1 dX12_types_24 rfl (lv_at hl4 1 rfl) ?_
  refine x_get (pc := 25) (T := TX12) (N := 70) (ci := 12) (v := .int (mi 21)) E hw9 inX12 0 21 q_1420 rfl rfl (by decide) rfl rfl dX12_types_25 ?_
  refine lv_iconst (pc := 28) (v := 1) E.1 E.2.1 dX12_types_28 (by decide +kernel) ?_
  refine lv_iadd (pc := 29) E.1 E.2.1 dX12_types_29 ?_
  refine lv_topi (fun v_10 ev_10 => ?_)
  have hv_10 : v_10.toInt = (mi 21).toInt + 1 := by rw [ev_10]; exact addE rfl (by decide +kernel) (by omega)
  refine x_put (pc := 30) (T := TX12) (N := 70) (ci := 12) (ws' := (MW cI cJ M mr (upd mi 21 v_10) (va_up mf 20 g_8) mg)) E hw9 inX12 tyX12_ok nmX12 0 21 q_1420 rfl rfl (by decide) rfl rfl rfl rfl (Nat.le_of_ble_eq_true rfl) rfl dX12_types_30 (fun H locs hw11 => ?_)
  refine lv_iinc (pc := 33) (v := 16) (lv' := [(2, .int 16), (0, .ref M), (1, .int z_v)]) E.1 E.2.1 dX12_types_33 hl4 (k := 0) rfl (by decide +kernel) (by decide) rfl (fun ls hl12 => ?_)
  refine lv_goto (pc := 36) (tgt := 3) E.1 E.2.1 dX12_types_36 (by decide) ?_
  refine lv_iload_n (pc := 3) E.1 E.2.1 dX12_types_3 rfl (lv_at hl12 0 rfl) ?_
  refine lv_if_lt (pc := 4) (tgt := 39) E.1 E.2.1 dX12_types_4 (by decide) (fun c_13 => absurd c_13 (mnltE (a := 16) (b := 0) (by decide +kernel) (by decide +kernel) (by omega))) (fun _ => ?_)
  refine lv_aload_n (pc := 7) E.1 E.2.1 dX12_types_7 rfl (lv_at hl12 1 rfl) ?_
  refine x_get (pc := 8) (T := TX12) (N := 70) (ci := 12) (v := .ref (mr 20)) E hw11 inX12 0 20 q_1419 rfl rfl (by decide) rfl rfl dX12_types_8 ?_
  refine lv_aload_n (pc := 11) E.1 E.2.1 dX12_types_11 rfl (lv_at hl12 1 rfl) ?_
  refine x_get (pc := 12) (T := TX12) (N := 70) (ci := 12) (v := .int v_10) E hw11 inX12 0 21 q_1420 rfl rfl (by decide) rfl rfl dX12_types_12 ?_
  refine lv_iload_n (pc := 15) E.1 E.2.1 dX12_types_15 rfl (lv_at hl12 2 rfl) ?_
  refine lv_iload_n (pc := 16) E.1 E.2.1 dX12_types_16 rfl (lv_at hl12 0 rfl) ?_
  refine lv_ishr (pc := 17) E.1 E.2.1 dX12_types_17 ?_
  refine lv_topi (fun v_14 ev_14 => ?_)
  refine lv_sipush (pc := 18) (v := 255) E.1 E.2.1 dX12_types_18 (by decide +kernel) ?_
  refine lv_iand (pc := 21) E.1 E.2.1 dX12_types_21 ?_
  refine lv_topi (fun v_15 ev_15 => ?_)
  refine x_iastG (pc := 22) (f := g_8) (wf := fun g => (MW cI cJ M mr (upd mi 21 v_10) (va_up mf 20 g) mg)) E hw11 12 rfl (inbE (a := v_10.toInt) rfl (by omega)) (fun _ => rfl) dX12_types_22 (fun g_16 H locs eg_16 hw17 => ?_)
  refine lv_aload_n (pc := 23) E.1 E.2.1 dX12_types_23 rfl (lv_at hl12 1 rfl) ?_
  refine lv_aload_n (pc := 24) E.1 E.2.1 dX12_types_24 rfl (lv_at hl12 1 rfl) ?_
  refine x_get (pc := 25) (T := TX12) (N := 70) (ci := 12) (v := .int v_10) E hw17 inX12 0 21 q_1420 rfl rfl (by decide) rfl rfl dX12_types_25 ?_
  refine lv_iconst (pc := 28) (v := 1) E.1 E.2.1 dX12_types_28 (by decide +kernel) ?_
  refine lv_iadd (pc := 29) E.1 E.2.1 dX12_types_29 ?_
  refine lv_topi (fun v_18 ev_18 => ?_)
  have hv_18 : v_18.toInt = v_10.toInt + 1 := by rw [ev_18]; exact addE rfl (by decide +kernel) (by omega)
  refine x_put (pc := 30) (T := TX12) (N := 70) (ci := 12) (ws' := (MW cI cJ M mr (upd mi 21 v_18) (va_up mf 20 g_16) mg)) E hw17 inX12 tyX12_ok nmX12 0 21 q_1420 rfl rfl (by decide) rfl rfl rfl rfl (Nat.le_of_ble_eq_true rfl) rfl dX12_types_30 (fun H locs hw19 => ?_)
  refine lv_iinc (pc := 33) (v := 8) (lv' := [(2, .int 8), (0, .ref M), (1, .int z_v)]) E.1 E.2.1 dX12_types_33 hl12 (k := 0) rfl (by decide +kernel) (by decide) rfl (fun ls hl20 => ?_)
  refine lv_goto (pc := 36) (tgt := 3) E.1 E.2.1 dX12_types_36 (by decide) ?_
  refine lv_iload_n (pc := 3) E.1 E.2.1 dX12_types_3 rfl (lv_at hl20 0 rfl) ?_
  refine lv_if_lt (pc := 4) (tgt := 39) E.1 E.2.1 dX12_types_4 (by decide) (fun c_21 => absurd c_21 (mnltE (a := 8) (b := 0) (by decide +kernel) (by decide +kernel) (by omega))) (fun _ => ?_)
  refine lv_aload_n (pc := 7) E.1 E.2.1 dX12_types_7 rfl (lv_at hl20 1 rfl) ?_
  refine x_get (pc := 8) (T := TX12) (N := 70) (ci := 12) (v := .ref (mr 20)) E hw19 inX12 0 20 q_1419 rfl rfl (by decide) rfl rfl dX12_types_8 ?_
  refine lv_aload_n (pc := 11) E.1 E.2.1 dX12_types_11 rfl (lv_at hl20 1 rfl) ?_
  refine x_get (pc := 12) (T := TX12) (N := 70) (ci := 12) (v := .int v_18) E hw19 inX12 0 21 q_1420 rfl rfl (by decide) rfl rfl dX12_types_12 ?_
  refine lv_iload_n (pc := 15) E.1 E.2.1 dX12_types_15 rfl (lv_at hl20 2 rfl) ?_
  refine lv_iload_n (pc := 16) E.1 E.2.1 dX12_types_16 rfl (lv_at hl20 0 rfl) ?_
  refine lv_ishr (pc := 17) E.1 E.2.1 dX12_types_17 ?_
  refine lv_topi (fun v_22 ev_22 => ?_)
  refine lv_sipush (pc := 18) (v := 255) E.1 E.2.1 dX12_types_18 (by decide +kernel) ?_
  refine lv_iand (pc := 21) E.1 E.2.1 dX12_types_21 ?_
  refine lv_topi (fun v_23 ev_23 => ?_)
  refine x_iastG (pc := 22) (f := g_16) (wf := fun g => (MW cI cJ M mr (upd mi 21 v_18) (va_up mf 20 g) mg)) E hw19 12 rfl (inbE (a := v_18.toInt) rfl (by omega)) (fun _ => rfl) dX12_types_22 (fun g_24 H locs eg_24 hw25 => ?_)
  refine lv_aload_n (pc := 23) E.1 E.2.1 dX12_types_23 rfl (lv_at hl20 1 rfl) ?_
  refine lv_aload_n (pc := 24) E.1 E.2.1 dX12_types_24 rfl (lv_at hl20 1 rfl) ?_
  refine x_get (pc := 25) (T := TX12) (N := 70) (ci := 12) (v := .int v_18) E hw25 inX12 0 21 q_1420 rfl rfl (by decide) rfl rfl dX12_types_25 ?_
  refine lv_iconst (pc := 28) (v := 1) E.1 E.2.1 dX12_types_28 (by decide +kernel) ?_
  refine lv_iadd (pc := 29) E.1 E.2.1 dX12_types_29 ?_
  refine lv_topi (fun v_26 ev_26 => ?_)
  have hv_26 : v_26.toInt = v_18.toInt + 1 := by rw [ev_26]; exact addE rfl (by decide +kernel) (by omega)
  refine x_put (pc := 30) (T := TX12) (N := 70) (ci := 12) (ws' := (MW cI cJ M mr (upd mi 21 v_26) (va_up mf 20 g_24) mg)) E hw25 inX12 tyX12_ok nmX12 0 21 q_1420 rfl rfl (by decide) rfl rfl rfl rfl (Nat.le_of_ble_eq_true rfl) rfl dX12_types_30 (fun H locs hw27 => ?_)
  refine lv_iinc (pc := 33) (v := 0) (lv' := [(2, .int 0), (0, .ref M), (1, .int z_v)]) E.1 E.2.1 dX12_types_33 hl20 (k := 0) rfl (by decide +kernel) (by decide) rfl (fun ls hl28 => ?_)
  refine lv_goto (pc := 36) (tgt := 3) E.1 E.2.1 dX12_types_36 (by decide) ?_
  refine lv_iload_n (pc := 3) E.1 E.2.1 dX12_types_3 rfl (lv_at hl28 0 rfl) ?_
  refine lv_if_lt (pc := 4) (tgt := 39) E.1 E.2.1 dX12_types_4 (by decide) (fun c_29 => absurd c_29 (mnltE (a := 0) (b := 0) (by decide +kernel) (by decide +kernel) (by omega))) (fun _ => ?_)
  refine lv_aload_n (pc := 7) E.1 E.2.1 dX12_types_7 rfl (lv_at hl28 1 rfl) ?_
  refine x_get (pc := 8) (T := TX12) (N := 70) (ci := 12) (v := .ref (mr 20)) E hw27 inX12 0 20 q_1419 rfl rfl (by decide) rfl rfl dX12_types_8 ?_
  refine lv_aload_n (pc := 11) E.1 E.2.1 dX12_types_11 rfl (lv_at hl28 1 rfl) ?_
  refine x_get (pc := 12) (T := TX12) (N := 70) (ci := 12) (v := .int v_26) E hw27 inX12 0 21 q_1420 rfl rfl (by decide) rfl rfl dX12_types_12 ?_
  refine lv_iload_n (pc := 15) E.1 E.2.1 dX12_types_15 rfl (lv_at hl28 2 rfl) ?_
  refine lv_iload_n (pc := 16) E.1 E.2.1 dX12_types_16 rfl (lv_at hl28 0 rfl) ?_
  refine lv_ishr (pc := 17) E.1 E.2.1 dX12_types_17 ?_
  refine lv_topi (fun v_30 ev_30 => ?_)
  refine lv_sipush (pc := 18) (v := 255) E.1 E.2.1 dX12_types_18 (by decide +kernel) ?_
  refine lv_iand (pc := 21) E.1 E.2.1 dX12_types_21 ?_
  refine lv_topi (fun v_31 ev_31 => ?_)
  refine x_iastG (pc := 22) (f := g_24) (wf := fun g => (MW cI cJ M mr (upd mi 21 v_26) (va_up mf 20 g) mg)) E hw27 12 rfl (inbE (a := v_26.toInt) rfl (by omega)) (fun _ => rfl) dX12_types_22 (fun g_32 H locs eg_32 hw33 => ?_)
  refine lv_aload_n (pc := 23) E.1 E.2.1 dX12_types_23 rfl (lv_at hl28 1 rfl) ?_
  refine lv_aload_n (pc := 24) E.1 E.2.1 dX12_types_24 rfl (lv_at hl28 1 rfl) ?_
  refine x_get (pc := 25) (T := TX12) (N := 70) (ci := 12) (v := .int v_26) E hw33 inX12 0 21 q_1420 rfl rfl (by decide) rfl rfl dX12_types_25 ?_
  refine lv_iconst (pc := 28) (v := 1) E.1 E.2.1 dX12_types_28 (by decide +kernel) ?_
  refine lv_iadd (pc := 29) E.1 E.2.1 dX12_types_29 ?_
  refine lv_topi (fun v_34 ev_34 => ?_)
  have hv_34 : v_34.toInt = v_26.toInt + 1 := by rw [ev_34]; exact addE rfl (by decide +kernel) (by omega)
  refine x_put (pc := 30) (T := TX12) (N := 70) (ci := 12) (ws' := (MW cI cJ M mr (upd mi 21 v_34) (va_up mf 20 g_32) mg)) E hw33 inX12 tyX12_ok nmX12 0 21 q_1420 rfl rfl (by decide) rfl rfl rfl rfl (Nat.le_of_ble_eq_true rfl) rfl dX12_types_30 (fun H locs hw35 => ?_)
  refine lv_iinc (pc := 33) (v := (-8)) (lv' := [(2, .int (-8)), (0, .ref M), (1, .int z_v)]) E.1 E.2.1 dX12_types_33 hl28 (k := 0) rfl (by decide +kernel) (by decide) rfl (fun ls hl36 => ?_)
  refine lv_goto (pc := 36) (tgt := 3) E.1 E.2.1 dX12_types_36 (by decide) ?_
  refine lv_iload_n (pc := 3) E.1 E.2.1 dX12_types_3 rfl (lv_at hl36 0 rfl) ?_
  refine lv_if_lt (pc := 4) (tgt := 39) E.1 E.2.1 dX12_types_4 (by decide) (fun _ => ?_) (fun c_37 => absurd (mltE (a := (-8)) (b := 0) (by decide +kernel) (by decide +kernel) (by omega)) c_37)
  exact em_v (w1 := (fun (u : (Nat → Int32) × Int32) => (MW cI cJ M mr (upd mi 21 u.2) (va_up mf 20 u.1) mg))) E hr hlk (g_32, v_34) hw35 (by show v_34.toInt = (mi 21).toInt + 4; omega) (Nat.le_of_ble_eq_true rfl) (Nat.le_of_ble_eq_true rfl) dX12_types_39

set_option maxHeartbeats 4000000 in
set_option maxRecDepth 100000 in
theorem s_thinks (l : Launch) (D : va_G) (cI cJ : ClassId) (sz M : Nat) (mr : Nat → Nat) (mi : Nat → Int32) (mf : Nat → Nat → Int32) (mg : Nat → Nat → Int64)   : Met l yX12_thinks (Cond.code yX12_thinks cX12_thinks 2 none :: GW) ({ frames := 1, cells := 0, slots := 0, locals := 40 } : Room) (va_Pc [.ref M] (PW D cI cJ sz (MW cI cJ M mr mi mf mg) xT)) (va_Qv (fun (u : (Nat → Int32) × Int32) => (u.2.toInt = 1) ∧ ((u.1 2).toInt = ((mf 1) 2).toInt) ∧ ((u.1 3).toInt = ((mf 1) 3).toInt) ∧ ((u.1 5).toInt = ((mf 1) 5).toInt)) (fun u => QW D cI cJ (va_A (MW cI cJ M mr mi mf mg) sz) ((fun (u : (Nat → Int32) × Int32) => (MW cI cJ M mr (upd mi 5 u.2) (va_up mf 4 u.1) mg)) u)) (va_A (MW cI cJ M mr mi mf mg) sz)) 0 0 (va_A (MW cI cJ M mr mi mf mg) sz) := by
  refine mk_met (y := yX12_thinks) (bytes := cX12_thinks) (maxL := 2) (avs := [.ref M]) (WS := (MW cI cJ M mr mi mf mg)) (Qf := fun A => va_Qv (fun (u : (Nat → Int32) × Int32) => (u.2.toInt = 1) ∧ ((u.1 2).toInt = ((mf 1) 2).toInt) ∧ ((u.1 3).toInt = ((mf 1) 3).toInt) ∧ ((u.1 5).toInt = ((mf 1) 5).toInt)) (fun u => QW D cI cJ A ((fun (u : (Nat → Int32) × Int32) => (MW cI cJ M mr (upd mi 5 u.2) (va_up mf 4 u.1) mg)) u)) A) (by decide) (Nat.le_of_ble_eq_true rfl) ?_
  intro p e s m below meth c A ls E hr hlk hnm hX hw1 hl2
  have hl3 : lv_has ls 2 [(0, .ref M)] := hl2
  refine lv_iconst (pc := 0) (v := 0) E.1 E.2.1 dX12_thinks_0 (by decide +kernel) ?_
  refine lv_istore_n (pc := 1) (lv' := [(1, .int 0), (0, .ref M)]) E.1 E.2.1 dX12_thinks_1 rfl hl3 (by decide) rfl (fun ls hl4 => ?_)
  have loop_5 : ∀ (k : Nat) (x_6 : Int32) (g_7 : Nat → Int32) (H : Heap) (locs : List Loc) (ls : Array Slot), (0 ≤ x_6.toInt ∧ x_6.toInt ≤ 66) ∧ (CP g_7 (mf 1) 0 0 x_6.toInt) → 66 - x_6.toInt < (k : Int) → WD D A s.heap (MW cI cJ M mr mi (va_up mf 4 g_7) mg) H locs → lv_has ls 2 [(1, .int x_6), (0, .ref M)] → W p l e ({ frames := 1, cells := 0, slots := 0, locals := 40 } : Room) s m ([.ref M] : List Value).toArray below meth c H locs 0 0 (MQ below (va_Qv (fun (u : (Nat → Int32) × Int32) => (u.2.toInt = 1) ∧ ((u.1 2).toInt = ((mf 1) 2).toInt) ∧ ((u.1 3).toInt = ((mf 1) 3).toInt) ∧ ((u.1 5).toInt = ((mf 1) 5).toInt)) (fun u => QW D cI cJ A ((fun (u : (Nat → Int32) × Int32) => (MW cI cJ M mr (upd mi 5 u.2) (va_up mf 4 u.1) mg)) u)) A) ([.ref M] : List Value).toArray s 0 0 A) (F0 m 2 ls []) := by
    intro k
    induction k with
    | zero =>
      intro x_6 g_7 _ _ _ hinv hm
      obtain ⟨hi_7_0, hi_7_1⟩ := hinv
      exact absurd hm (by omega)
    | succ k ih_8 =>
      intro x_6 g_7 H locs ls hinv hm hw9 hl10
      obtain ⟨hi_7_0, hi_7_1⟩ := hinv
      refine lv_iload_n (pc := 2) E.1 E.2.1 dX12_thinks_2 rfl (lv_at hl10 0 rfl) ?_
      refine lv_bipush (pc := 3) (v := 66) E.1 E.2.1 dX12_thinks_3 (by decide +kernel) ?_
      refine lv_icmp_ge (pc := 5) (tgt := 26) E.1 E.2.1 dX12_thinks_5 (by decide) (fun c_11 => ?_) (fun c_11 => ?_)
      · skip
        have hc_11 := leE (a := 66) (b := x_6.toInt) (by decide +kernel) rfl c_11
        have ht_12 : (g_7 2).toInt = ((mf 1) 2).toInt := congrArg Int32.toInt ((Nat.zero_add 2) ▸ (Nat.zero_add 2) ▸ hi_7_1 2 (by omega))
        have ht_13 : (g_7 3).toInt = ((mf 1) 3).toInt := congrArg Int32.toInt ((Nat.zero_add 3) ▸ (Nat.zero_add 3) ▸ hi_7_1 3 (by omega))
        have ht_14 : (g_7 5).toInt = ((mf 1) 5).toInt := congrArg Int32.toInt ((Nat.zero_add 5) ▸ (Nat.zero_add 5) ▸ hi_7_1 5 (by omega))
        refine lv_aload_n (pc := 26) E.1 E.2.1 dX12_thinks_26 rfl (lv_at hl10 1 rfl) ?_
        refine lv_iconst (pc := 27) (v := 1) E.1 E.2.1 dX12_thinks_27 (by decide +kernel) ?_
        refine x_put (pc := 28) (T := TX12) (N := 70) (ci := 12) (ws' := (MW cI cJ M mr (upd mi 5 1) (va_up mf 4 g_7) mg)) E hw9 inX12 tyX12_ok nmX12 0 5 q_1404 rfl rfl (by decide) rfl rfl rfl rfl (Nat.le_of_ble_eq_true rfl) rfl dX12_thinks_28 (fun H locs hw15 => ?_)
        exact em_v (w1 := (fun (u : (Nat → Int32) × Int32) => (MW cI cJ M mr (upd mi 5 u.2) (va_up mf 4 u.1) mg))) E hr hlk (g_7, 1) hw15 ⟨(by show (1 : Int32).toInt = 1; have k_0 : (1 : Int32).toInt = 1 := (by decide +kernel); omega), (by show (g_7 2).toInt = ((mf 1) 2).toInt; have k_0 : (1 : Int32).toInt = 1 := (by decide +kernel); omega), (by show (g_7 3).toInt = ((mf 1) 3).toInt; have k_0 : (1 : Int32).toInt = 1 := (by decide +kernel); omega), (by show (g_7 5).toInt = ((mf 1) 5).toInt; have k_0 : (1 : Int32).toInt = 1 := (by decide +kernel); omega)⟩ (Nat.le_of_ble_eq_true rfl) (Nat.le_of_ble_eq_true rfl) dX12_thinks_31
      · skip
        have hc_11 := nleE (a := 66) (b := x_6.toInt) (by decide +kernel) rfl c_11
        refine lv_aload_n (pc := 8) E.1 E.2.1 dX12_thinks_8 rfl (lv_at hl10 1 rfl) ?_
        refine x_get (pc := 9) (T := TX12) (N := 70) (ci := 12) (v := .ref (mr 4)) E hw9 inX12 0 4 q_1403 rfl rfl (by decide) rfl rfl dX12_thinks_9 ?_
        refine lv_iload_n (pc := 12) E.1 E.2.1 dX12_thinks_12 rfl (lv_at hl10 0 rfl) ?_
        refine lv_aload_n (pc := 13) E.1 E.2.1 dX12_thinks_13 rfl (lv_at hl10 1 rfl) ?_
        refine x_get (pc := 14) (T := TX12) (N := 70) (ci := 12) (v := .ref (mr 1)) E hw9 inX12 0 1 q_1400 rfl rfl (by decide) rfl rfl dX12_thinks_14 ?_
        refine lv_iload_n (pc := 17) E.1 E.2.1 dX12_thinks_17 rfl (lv_at hl10 0 rfl) ?_
        refine x_iald (pc := 18) (f := (mf 1)) E hw9 1 rfl (inbE (a := x_6.toInt) rfl (by omega)) dX12_thinks_18 ?_
        refine lv_topi (fun v_16 ev_16 => ?_)
        refine x_iastG (pc := 19) (f := g_7) (wf := fun g => (MW cI cJ M mr mi (va_up mf 4 g) mg)) E hw9 3 rfl (inbE (a := x_6.toInt) rfl (by omega)) (fun _ => rfl) dX12_thinks_19 (fun g_17 H locs eg_17 hw18 => ?_)
        obtain ⟨v_22, ev_22⟩ : ∃ z : Int32, x_6 + Int32.ofInt (1) = z := ⟨_, rfl⟩
        have hv_22 : v_22.toInt = x_6.toInt + (1) := by rw [← ev_22]; exact incE rfl (by decide) (by omega)
        refine lv_iinc (pc := 20) (v := v_22) (lv' := [(1, .int v_22), (0, .ref M)]) E.1 E.2.1 dX12_thinks_20 hl10 (k := 0) rfl ev_22 (by decide) rfl (fun ls hl23 => ?_)
        refine lv_goto (pc := 23) (tgt := 2) E.1 E.2.1 dX12_thinks_23 (by decide) ?_
        exact ih_8 v_22 g_17 _ _ _ ⟨(by show 0 ≤ v_22.toInt ∧ v_22.toInt ≤ 66; omega), (CP_step (i := x_6) (j := v_22) hi_7_1 eg_17 ev_16 (by omega) (by omega) (by omega) (by omega))⟩ (by omega) hw18 (lv_sub hl23 [0, 1] rfl)
  exact loop_5 (Int.toNat (66 - 0) + 1) 0 (mf 4) _ _ _ ⟨(by show 0 ≤ (0 : Int32).toInt ∧ (0 : Int32).toInt ≤ 66; have k_0 : (0 : Int32).toInt = 0 := (by decide +kernel); omega), (CP_nil (by decide +kernel))⟩ (by have k_0 : (0 : Int32).toInt = 0 := (by decide +kernel); omega) hw1 (lv_sub hl4 [0, 1] rfl)

set_option maxHeartbeats 4000000 in
set_option maxRecDepth 100000 in
theorem s_endsThought (l : Launch) (D : va_G) (cI cJ : ClassId) (sz M : Nat) (mr : Nat → Nat) (mi : Nat → Int32) (mf : Nat → Nat → Int32) (mg : Nat → Nat → Int64)   : Met l yX12_endsThought (Cond.code yX12_endsThought cX12_endsThought 2 none :: GW) ({ frames := 1, cells := 0, slots := 0, locals := 40 } : Room) (va_Pc [.ref M] (PW D cI cJ sz (MW cI cJ M mr mi mf mg) xT)) (va_Qv (fun (u : (Nat → Int32) × Int32) => (u.2.toInt = 0) ∧ ((u.1 2).toInt = ((mf 4) 2).toInt) ∧ ((u.1 3).toInt = ((mf 4) 3).toInt) ∧ ((u.1 5).toInt = ((mf 4) 5).toInt)) (fun u => QW D cI cJ (va_A (MW cI cJ M mr mi mf mg) sz) ((fun (u : (Nat → Int32) × Int32) => (MW cI cJ M mr (upd mi 5 u.2) (va_up mf 1 u.1) mg)) u)) (va_A (MW cI cJ M mr mi mf mg) sz)) 0 0 (va_A (MW cI cJ M mr mi mf mg) sz) := by
  refine mk_met (y := yX12_endsThought) (bytes := cX12_endsThought) (maxL := 2) (avs := [.ref M]) (WS := (MW cI cJ M mr mi mf mg)) (Qf := fun A => va_Qv (fun (u : (Nat → Int32) × Int32) => (u.2.toInt = 0) ∧ ((u.1 2).toInt = ((mf 4) 2).toInt) ∧ ((u.1 3).toInt = ((mf 4) 3).toInt) ∧ ((u.1 5).toInt = ((mf 4) 5).toInt)) (fun u => QW D cI cJ A ((fun (u : (Nat → Int32) × Int32) => (MW cI cJ M mr (upd mi 5 u.2) (va_up mf 1 u.1) mg)) u)) A) (by decide) (Nat.le_of_ble_eq_true rfl) ?_
  intro p e s m below meth c A ls E hr hlk hnm hX hw1 hl2
  have hl3 : lv_has ls 2 [(0, .ref M)] := hl2
  refine lv_iconst (pc := 0) (v := 0) E.1 E.2.1 dX12_endsThought_0 (by decide +kernel) ?_
  refine lv_istore_n (pc := 1) (lv' := [(1, .int 0), (0, .ref M)]) E.1 E.2.1 dX12_endsThought_1 rfl hl3 (by decide) rfl (fun ls hl4 => ?_)
  have loop_5 : ∀ (k : Nat) (x_6 : Int32) (g_7 : Nat → Int32) (H : Heap) (locs : List Loc) (ls : Array Slot), (0 ≤ x_6.toInt ∧ x_6.toInt ≤ 66) ∧ (CP g_7 (mf 4) 0 0 x_6.toInt) → 66 - x_6.toInt < (k : Int) → WD D A s.heap (MW cI cJ M mr mi (va_up mf 1 g_7) mg) H locs → lv_has ls 2 [(1, .int x_6), (0, .ref M)] → W p l e ({ frames := 1, cells := 0, slots := 0, locals := 40 } : Room) s m ([.ref M] : List Value).toArray below meth c H locs 0 0 (MQ below (va_Qv (fun (u : (Nat → Int32) × Int32) => (u.2.toInt = 0) ∧ ((u.1 2).toInt = ((mf 4) 2).toInt) ∧ ((u.1 3).toInt = ((mf 4) 3).toInt) ∧ ((u.1 5).toInt = ((mf 4) 5).toInt)) (fun u => QW D cI cJ A ((fun (u : (Nat → Int32) × Int32) => (MW cI cJ M mr (upd mi 5 u.2) (va_up mf 1 u.1) mg)) u)) A) ([.ref M] : List Value).toArray s 0 0 A) (F0 m 2 ls []) := by
    intro k
    induction k with
    | zero =>
      intro x_6 g_7 _ _ _ hinv hm
      obtain ⟨hi_7_0, hi_7_1⟩ := hinv
      exact absurd hm (by omega)
    | succ k ih_8 =>
      intro x_6 g_7 H locs ls hinv hm hw9 hl10
      obtain ⟨hi_7_0, hi_7_1⟩ := hinv
      refine lv_iload_n (pc := 2) E.1 E.2.1 dX12_endsThought_2 rfl (lv_at hl10 0 rfl) ?_
      refine lv_bipush (pc := 3) (v := 66) E.1 E.2.1 dX12_endsThought_3 (by decide +kernel) ?_
      refine lv_icmp_ge (pc := 5) (tgt := 26) E.1 E.2.1 dX12_endsThought_5 (by decide) (fun c_11 => ?_) (fun c_11 => ?_)
      · skip
        have hc_11 := leE (a := 66) (b := x_6.toInt) (by decide +kernel) rfl c_11
        have ht_12 : (g_7 2).toInt = ((mf 4) 2).toInt := congrArg Int32.toInt ((Nat.zero_add 2) ▸ (Nat.zero_add 2) ▸ hi_7_1 2 (by omega))
        have ht_13 : (g_7 3).toInt = ((mf 4) 3).toInt := congrArg Int32.toInt ((Nat.zero_add 3) ▸ (Nat.zero_add 3) ▸ hi_7_1 3 (by omega))
        have ht_14 : (g_7 5).toInt = ((mf 4) 5).toInt := congrArg Int32.toInt ((Nat.zero_add 5) ▸ (Nat.zero_add 5) ▸ hi_7_1 5 (by omega))
        refine lv_aload_n (pc := 26) E.1 E.2.1 dX12_endsThought_26 rfl (lv_at hl10 1 rfl) ?_
        refine lv_iconst (pc := 27) (v := 0) E.1 E.2.1 dX12_endsThought_27 (by decide +kernel) ?_
        refine x_put (pc := 28) (T := TX12) (N := 70) (ci := 12) (ws' := (MW cI cJ M mr (upd mi 5 0) (va_up mf 1 g_7) mg)) E hw9 inX12 tyX12_ok nmX12 0 5 q_1404 rfl rfl (by decide) rfl rfl rfl rfl (Nat.le_of_ble_eq_true rfl) rfl dX12_endsThought_28 (fun H locs hw15 => ?_)
        exact em_v (w1 := (fun (u : (Nat → Int32) × Int32) => (MW cI cJ M mr (upd mi 5 u.2) (va_up mf 1 u.1) mg))) E hr hlk (g_7, 0) hw15 ⟨(by show (0 : Int32).toInt = 0; have k_0 : (0 : Int32).toInt = 0 := (by decide +kernel); omega), (by show (g_7 2).toInt = ((mf 4) 2).toInt; have k_0 : (0 : Int32).toInt = 0 := (by decide +kernel); omega), (by show (g_7 3).toInt = ((mf 4) 3).toInt; have k_0 : (0 : Int32).toInt = 0 := (by decide +kernel); omega), (by show (g_7 5).toInt = ((mf 4) 5).toInt; have k_0 : (0 : Int32).toInt = 0 := (by decide +kernel); omega)⟩ (Nat.le_of_ble_eq_true rfl) (Nat.le_of_ble_eq_true rfl) dX12_endsThought_31
      · skip
        have hc_11 := nleE (a := 66) (b := x_6.toInt) (by decide +kernel) rfl c_11
        refine lv_aload_n (pc := 8) E.1 E.2.1 dX12_endsThought_8 rfl (lv_at hl10 1 rfl) ?_
        refine x_get (pc := 9) (T := TX12) (N := 70) (ci := 12) (v := .ref (mr 1)) E hw9 inX12 0 1 q_1400 rfl rfl (by decide) rfl rfl dX12_endsThought_9 ?_
        refine lv_iload_n (pc := 12) E.1 E.2.1 dX12_endsThought_12 rfl (lv_at hl10 0 rfl) ?_
        refine lv_aload_n (pc := 13) E.1 E.2.1 dX12_endsThought_13 rfl (lv_at hl10 1 rfl) ?_
        refine x_get (pc := 14) (T := TX12) (N := 70) (ci := 12) (v := .ref (mr 4)) E hw9 inX12 0 4 q_1403 rfl rfl (by decide) rfl rfl dX12_endsThought_14 ?_
        refine lv_iload_n (pc := 17) E.1 E.2.1 dX12_endsThought_17 rfl (lv_at hl10 0 rfl) ?_
        refine x_iald (pc := 18) (f := (mf 4)) E hw9 3 rfl (inbE (a := x_6.toInt) rfl (by omega)) dX12_endsThought_18 ?_
        refine lv_topi (fun v_16 ev_16 => ?_)
        refine x_iastG (pc := 19) (f := g_7) (wf := fun g => (MW cI cJ M mr mi (va_up mf 1 g) mg)) E hw9 1 rfl (inbE (a := x_6.toInt) rfl (by omega)) (fun _ => rfl) dX12_endsThought_19 (fun g_17 H locs eg_17 hw18 => ?_)
        obtain ⟨v_22, ev_22⟩ : ∃ z : Int32, x_6 + Int32.ofInt (1) = z := ⟨_, rfl⟩
        have hv_22 : v_22.toInt = x_6.toInt + (1) := by rw [← ev_22]; exact incE rfl (by decide) (by omega)
        refine lv_iinc (pc := 20) (v := v_22) (lv' := [(1, .int v_22), (0, .ref M)]) E.1 E.2.1 dX12_endsThought_20 hl10 (k := 0) rfl ev_22 (by decide) rfl (fun ls hl23 => ?_)
        refine lv_goto (pc := 23) (tgt := 2) E.1 E.2.1 dX12_endsThought_23 (by decide) ?_
        exact ih_8 v_22 g_17 _ _ _ ⟨(by show 0 ≤ v_22.toInt ∧ v_22.toInt ≤ 66; omega), (CP_step (i := x_6) (j := v_22) hi_7_1 eg_17 ev_16 (by omega) (by omega) (by omega) (by omega))⟩ (by omega) hw18 (lv_sub hl23 [0, 1] rfl)
  exact loop_5 (Int.toNat (66 - 0) + 1) 0 (mf 1) _ _ _ ⟨(by show 0 ≤ (0 : Int32).toInt ∧ (0 : Int32).toInt ≤ 66; have k_0 : (0 : Int32).toInt = 0 := (by decide +kernel); omega), (CP_nil (by decide +kernel))⟩ (by have k_0 : (0 : Int32).toInt = 0 := (by decide +kernel); omega) hw1 (lv_sub hl4 [0, 1] rfl)

set_option maxHeartbeats 4000000 in
set_option maxRecDepth 100000 in
theorem s_without (l : Launch) (D : va_G) (cI cJ : ClassId) (sz M : Nat) (mr : Nat → Nat) (mi : Nat → Int32) (mf : Nat → Nat → Int32) (mg : Nat → Nat → Int64) (z_v : Int32)  : Met l yX12_without (Cond.code yX12_without cX12_without 2 (some .int) :: GW) ({ frames := 1, cells := 0, slots := 0, locals := 40 } : Room) (va_Pc [.ref M, .int z_v] (PW D cI cJ sz (MW cI cJ M mr mi mf mg) xT)) (va_Qi (fun (r : Int32) (u : Unit) => True) (fun u => QW D cI cJ (va_A (MW cI cJ M mr mi mf mg) sz) ((fun (u : Unit) => (MW cI cJ M mr mi mf mg)) u)) (va_A (MW cI cJ M mr mi mf mg) sz)) 0 0 (va_A (MW cI cJ M mr mi mf mg) sz) := by
  refine mk_met (y := yX12_without) (bytes := cX12_without) (maxL := 2) (avs := [.ref M, .int z_v]) (WS := (MW cI cJ M mr mi mf mg)) (Qf := fun A => va_Qi (fun (r : Int32) (u : Unit) => True) (fun u => QW D cI cJ A ((fun (u : Unit) => (MW cI cJ M mr mi mf mg)) u)) A) (by decide) (Nat.le_of_ble_eq_true rfl) ?_
  intro p e s m below meth c A ls E hr hlk hnm hX hw1 hl2
  have hl3 : lv_has ls 2 [(0, .ref M), (1, .int z_v)] := hl2
  refine lv_iload_n (pc := 0) E.1 E.2.1 dX12_without_0 rfl (lv_at hl3 1 rfl) ?_
  refine lv_if_ge (pc := 1) (tgt := 9) E.1 E.2.1 dX12_without_1 (by decide) (fun c_4 => ?_) (fun c_4 => ?_)
  · skip
    have hc_4 := leE (a := 0) (b := z_v.toInt) (by decide +kernel) rfl c_4
    refine lv_iload_n (pc := 9) E.1 E.2.1 dX12_without_9 rfl (lv_at hl3 1 rfl) ?_
    exact em_i (w1 := (fun (u : Unit) => (MW cI cJ M mr mi mf mg))) E hr hlk () hw1 trivial (Nat.le_of_ble_eq_true rfl) (Nat.le_of_ble_eq_true rfl) dX12_without_10
  · skip
    have hc_4 := nleE (a := 0) (b := z_v.toInt) (by decide +kernel) rfl c_4
    refine lv_iload_n (pc := 4) E.1 E.2.1 dX12_without_4 rfl (lv_at hl3 1 rfl) ?_
    refine lv_ineg (pc := 5) E.1 E.2.1 dX12_without_5 ?_
    refine lv_topi (fun v_5 ev_5 => ?_)
    refine lv_goto (pc := 6) (tgt := 10) E.1 E.2.1 dX12_without_6 (by decide) ?_
    exact em_i (w1 := (fun (u : Unit) => (MW cI cJ M mr mi mf mg))) E hr hlk () hw1 trivial (Nat.le_of_ble_eq_true rfl) (Nat.le_of_ble_eq_true rfl) dX12_without_10

set_option maxHeartbeats 4000000 in
set_option maxRecDepth 100000 in
theorem s_draw (l : Launch) (D : va_G) (cI cJ : ClassId) (sz M : Nat) (mr : Nat → Nat) (mi : Nat → Int32) (mf : Nat → Nat → Int32) (mg : Nat → Nat → Int64) (z_m : Int32) (h0 : 1 ≤ z_m.toInt) : Met l yX12_draw (Cond.code yX12_draw cX12_draw 2 (some .int) :: GW) ({ frames := 1, cells := 0, slots := 0, locals := 40 } : Room) (va_Pc [.ref M, .int z_m] (PW D cI cJ sz (MW cI cJ M mr mi mf mg) xT)) (va_Qi (fun (r : Int32) (u : (Nat → Int32)) => ((u 2).toInt = ((mf 1) 2).toInt) ∧ ((u 3).toInt = ((mf 1) 3).toInt) ∧ ((u 5).toInt = ((mf 1) 5).toInt)) (fun u => QW D cI cJ (va_A (MW cI cJ M mr mi mf mg) sz) ((fun (u : (Nat → Int32)) => (MW cI cJ M mr mi (va_up mf 1 u) mg)) u)) (va_A (MW cI cJ M mr mi mf mg) sz)) 0 0 (va_A (MW cI cJ M mr mi mf mg) sz) := by
  refine mk_met (y := yX12_draw) (bytes := cX12_draw) (maxL := 2) (avs := [.ref M, .int z_m]) (WS := (MW cI cJ M mr mi mf mg)) (Qf := fun A => va_Qi (fun (r : Int32) (u : (Nat → Int32)) => ((u 2).toInt = ((mf 1) 2).toInt) ∧ ((u 3).toInt = ((mf 1) 3).toInt) ∧ ((u 5).toInt = ((mf 1) 5).toInt)) (fun u => QW D cI cJ A ((fun (u : (Nat → Int32)) => (MW cI cJ M mr mi (va_up mf 1 u) mg)) u)) A) (by decide) (Nat.le_of_ble_eq_true rfl) ?_
  intro p e s m below meth c A ls E hr hlk hnm hX hw1 hl2
  have hl3 : lv_has ls 2 [(0, .ref M), (1, .int z_m)] := hl2
  refine lv_aload_n (pc := 0) E.1 E.2.1 dX12_draw_0 rfl (lv_at hl3 0 rfl) ?_
  refine x_get (pc := 1) (T := TX12) (N := 70) (ci := 12) (v := .ref (mr 1)) E hw1 inX12 0 1 q_1400 rfl rfl (by decide) rfl rfl dX12_draw_1 ?_
  refine lv_iconst (pc := 4) (v := 1) E.1 E.2.1 dX12_draw_4 (by decide +kernel) ?_
  refine lv_ldc (pc := 5) (v := 1664525) E.1 E.2.1 E.2.2.2.1 (E.2.2.2.2.1 _ q_1927) dX12_draw_5 ?_
  refine lv_aload_n (pc := 7) E.1 E.2.1 dX12_draw_7 rfl (lv_at hl3 0 rfl) ?_
  refine x_get (pc := 8) (T := TX12) (N := 70) (ci := 12) (v := .ref (mr 1)) E hw1 inX12 0 1 q_1400 rfl rfl (by decide) rfl rfl dX12_draw_8 ?_
  refine lv_iconst (pc := 11) (v := 1) E.1 E.2.1 dX12_draw_11 (by decide +kernel) ?_
  refine x_iald (pc := 12) (f := (mf 1)) E hw1 1 rfl (inbE (a := 1) (by decide +kernel) (by omega)) dX12_draw_12 ?_
  refine lv_topi (fun v_4 ev_4 => ?_)
  refine lv_imul (pc := 13) E.1 E.2.1 dX12_draw_13 ?_
  refine lv_topi (fun v_5 ev_5 => ?_)
  refine lv_ldc (pc := 14) (v := 1013904223) E.1 E.2.1 E.2.2.2.1 (E.2.2.2.2.1 _ q_1928) dX12_draw_14 ?_
  refine lv_iadd (pc := 16) E.1 E.2.1 dX12_draw_16 ?_
  refine lv_topi (fun v_6 ev_6 => ?_)
  refine x_iastG (pc := 17) (f := (mf 1)) (wf := fun g => (MW cI cJ M mr mi (va_up mf 1 g) mg)) E hw1 1 rfl (inbE (a := 1) (by decide +kernel) (by omega)) (fun _ => rfl) dX12_draw_17 (fun g_7 H locs eg_7 hw8 => ?_)
  have ht_9 : (g_7 2).toInt = ((mf 1) 2).toInt := by rw [eg_7]; rfl
  have ht_10 : (g_7 3).toInt = ((mf 1) 3).toInt := by rw [eg_7]; rfl
  have ht_11 : (g_7 5).toInt = ((mf 1) 5).toInt := by rw [eg_7]; rfl
  refine lv_aload_n (pc := 18) E.1 E.2.1 dX12_draw_18 rfl (lv_at hl3 0 rfl) ?_
  refine x_get (pc := 19) (T := TX12) (N := 70) (ci := 12) (v := .ref (mr 1)) E hw8 inX12 0 1 q_1400 rfl rfl (by decide) rfl rfl dX12_draw_19 ?_
  refine lv_iconst (pc := 22) (v := 1) E.1 E.2.1 dX12_draw_22 (by decide +kernel) ?_
  refine x_iald (pc := 23) (f := g_7) E hw8 1 rfl (inbE (a := 1) (by decide +kernel) (by omega)) dX12_draw_23 ?_
  refine lv_topi (fun v_12 ev_12 => ?_)
  refine lv_bipush (pc := 24) (v := 8) E.1 E.2.1 dX12_draw_24 (by decide +kernel) ?_
  refine lv_iushr (pc := 26) E.1 E.2.1 dX12_draw_26 rfl ?_
  refine lv_topi (fun v_13 ev_13 => ?_)
  refine lv_iload_n (pc := 27) E.1 E.2.1 dX12_draw_27 rfl (lv_at hl3 1 rfl) ?_
  refine lv_irem (pc := 28) E.1 E.2.1 dX12_draw_28 (mneE (a := z_m.toInt) (b := 0) rfl (by decide +kernel) (by omega)) ?_
  refine lv_topi (fun v_14 ev_14 => ?_)
  exact em_i (w1 := (fun (u : (Nat → Int32)) => (MW cI cJ M mr mi (va_up mf 1 u) mg))) E hr hlk g_7 hw8 ⟨(by show (g_7 2).toInt = ((mf 1) 2).toInt; omega), (by show (g_7 3).toInt = ((mf 1) 3).toInt; omega), (by show (g_7 5).toInt = ((mf 1) 5).toInt; omega)⟩ (Nat.le_of_ble_eq_true rfl) (Nat.le_of_ble_eq_true rfl) dX12_draw_29

set_option maxHeartbeats 4000000 in
set_option maxRecDepth 100000 in
theorem s_isMarkSign (l : Launch) (D : va_G) (cI cJ : ClassId) (sz M : Nat) (mr : Nat → Nat) (mi : Nat → Int32) (mf : Nat → Nat → Int32) (mg : Nat → Nat → Int64) (z_c : Int32)  : Met l yX12_isMarkSign (Cond.code yX12_isMarkSign cX12_isMarkSign 2 (some .boolean) :: GW) ({ frames := 1, cells := 0, slots := 0, locals := 40 } : Room) (va_Pc [.ref M, .int z_c] (PW D cI cJ sz (MW cI cJ M mr mi mf mg) xT)) (va_Qi (fun (r : Int32) (u : Unit) => (0 ≤ r.toInt ∧ r.toInt ≤ 1)) (fun u => QW D cI cJ (va_A (MW cI cJ M mr mi mf mg) sz) ((fun (u : Unit) => (MW cI cJ M mr mi mf mg)) u)) (va_A (MW cI cJ M mr mi mf mg) sz)) 0 0 (va_A (MW cI cJ M mr mi mf mg) sz) := by
  refine mk_met (y := yX12_isMarkSign) (bytes := cX12_isMarkSign) (maxL := 2) (avs := [.ref M, .int z_c]) (WS := (MW cI cJ M mr mi mf mg)) (Qf := fun A => va_Qi (fun (r : Int32) (u : Unit) => (0 ≤ r.toInt ∧ r.toInt ≤ 1)) (fun u => QW D cI cJ A ((fun (u : Unit) => (MW cI cJ M mr mi mf mg)) u)) A) (by decide) (Nat.le_of_ble_eq_true rfl) ?_
  intro p e s m below meth c A ls E hr hlk hnm hX hw1 hl2
  have hl3 : lv_has ls 2 [(0, .ref M), (1, .int z_c)] := hl2
  refine lv_iload_n (pc := 0) E.1 E.2.1 dX12_isMarkSign_0 rfl (lv_at hl3 1 rfl) ?_
  refine lv_bipush (pc := 1) (v := 59) E.1 E.2.1 dX12_isMarkSign_1 (by decide +kernel) ?_
  refine lv_icmp_eq (pc := 3) (tgt := 60) E.1 E.2.1 dX12_isMarkSign_3 (by decide) (fun c_4 => ?_) (fun c_4 => ?_)
  · skip
    have hc_4 := eqE (a := z_c.toInt) (b := 59) rfl (by decide +kernel) c_4
    refine lv_iconst (pc := 60) (v := 1) E.1 E.2.1 dX12_isMarkSign_60 (by decide +kernel) ?_
    refine lv_goto (pc := 61) (tgt := 65) E.1 E.2.1 dX12_isMarkSign_61 (by decide) ?_
    exact em_z (w1 := (fun (u : Unit) => (MW cI cJ M mr mi mf mg))) E hr hlk () hw1 (by show 0 ≤ (1 : Int32).toInt ∧ (1 : Int32).toInt ≤ 1; have k_0 : (1 : Int32).toInt = 1 := (by decide +kernel); omega) (by decide +kernel) (Nat.le_of_ble_eq_true rfl) (Nat.le_of_ble_eq_true rfl) dX12_isMarkSign_65
  · skip
    have hc_4 := neE (a := z_c.toInt) (b := 59) rfl (by decide +kernel) c_4
    refine lv_iload_n (pc := 6) E.1 E.2.1 dX12_isMarkSign_6 rfl (lv_at hl3 1 rfl) ?_
    refine lv_bipush (pc := 7) (v := 43) E.1 E.2.1 dX12_isMarkSign_7 (by decide +kernel) ?_
    refine lv_icmp_eq (pc := 9) (tgt := 60) E.1 E.2.1 dX12_isMarkSign_9 (by decide) (fun c_5 => ?_) (fun c_5 => ?_)
    · skip
      have hc_5 := eqE (a := z_c.toInt) (b := 43) rfl (by decide +kernel) c_5
      refine lv_iconst (pc := 60) (v := 1) E.1 E.2.1 dX12_isMarkSign_60 (by decide +kernel) ?_
      refine lv_goto (pc := 61) (tgt := 65) E.1 E.2.1 dX12_isMarkSign_61 (by decide) ?_
      exact em_z (w1 := (fun (u : Unit) => (MW cI cJ M mr mi mf mg))) E hr hlk () hw1 (by show 0 ≤ (1 : Int32).toInt ∧ (1 : Int32).toInt ≤ 1; have k_0 : (1 : Int32).toInt = 1 := (by decide +kernel); omega) (by decide +kernel) (Nat.le_of_ble_eq_true rfl) (Nat.le_of_ble_eq_true rfl) dX12_isMarkSign_65
    · skip
      have hc_5 := neE (a := z_c.toInt) (b := 43) rfl (by decide +kernel) c_5
      refine lv_iload_n (pc := 12) E.1 E.2.1 dX12_isMarkSign_12 rfl (lv_at hl3 1 rfl) ?_
      refine lv_bipush (pc := 13) (v := 45) E.1 E.2.1 dX12_isMarkSign_13 (by decide +kernel) ?_
      refine lv_icmp_eq (pc := 15) (tgt := 60) E.1 E.2.1 dX12_isMarkSign_15 (by decide) (fun c_6 => ?_) (fun c_6 => ?_)
      · skip
        have hc_6 := eqE (a := z_c.toInt) (b := 45) rfl (by decide +kernel) c_6
        refine lv_iconst (pc := 60) (v := 1) E.1 E.2.1 dX12_isMarkSign_60 (by decide +kernel) ?_
        refine lv_goto (pc := 61) (tgt := 65) E.1 E.2.1 dX12_isMarkSign_61 (by decide) ?_
        exact em_z (w1 := (fun (u : Unit) => (MW cI cJ M mr mi mf mg))) E hr hlk () hw1 (by show 0 ≤ (1 : Int32).toInt ∧ (1 : Int32).toInt ≤ 1; have k_0 : (1 : Int32).toInt = 1 := (by decide +kernel); omega) (by decide +kernel) (Nat.le_of_ble_eq_true rfl) (Nat.le_of_ble_eq_true rfl) dX12_isMarkSign_65
      · skip
        have hc_6 := neE (a := z_c.toInt) (b := 45) rfl (by decide +kernel) c_6
        refine lv_iload_n (pc := 18) E.1 E.2.1 dX12_isMarkSign_18 rfl (lv_at hl3 1 rfl) ?_
        refine lv_bipush (pc := 19) (v := 42) E.1 E.2.1 dX12_isMarkSign_19 (by decide +kernel) ?_
        refine lv_icmp_eq (pc := 21) (tgt := 60) E.1 E.2.1 dX12_isMarkSign_21 (by decide) (fun c_7 => ?_) (fun c_7 => ?_)
        · skip
          have hc_7 := eqE (a := z_c.toInt) (b := 42) rfl (by decide +kernel) c_7
          refine lv_iconst (pc := 60) (v := 1) E.1 E.2.1 dX12_isMarkSign_60 (by decide +kernel) ?_
          refine lv_goto (pc := 61) (tgt := 65) E.1 E.2.1 dX12_isMarkSign_61 (by decide) ?_
          exact em_z (w1 := (fun (u : Unit) => (MW cI cJ M mr mi mf mg))) E hr hlk () hw1 (by show 0 ≤ (1 : Int32).toInt ∧ (1 : Int32).toInt ≤ 1; have k_0 : (1 : Int32).toInt = 1 := (by decide +kernel); omega) (by decide +kernel) (Nat.le_of_ble_eq_true rfl) (Nat.le_of_ble_eq_true rfl) dX12_isMarkSign_65
        · skip
          have hc_7 := neE (a := z_c.toInt) (b := 42) rfl (by decide +kernel) c_7
          refine lv_iload_n (pc := 24) E.1 E.2.1 dX12_isMarkSign_24 rfl (lv_at hl3 1 rfl) ?_
          refine lv_bipush (pc := 25) (v := 47) E.1 E.2.1 dX12_isMarkSign_25 (by decide +kernel) ?_
          refine lv_icmp_eq (pc := 27) (tgt := 60) E.1 E.2.1 dX12_isMarkSign_27 (by decide) (fun c_8 => ?_) (fun c_8 => ?_)
          · skip
            have hc_8 := eqE (a := z_c.toInt) (b := 47) rfl (by decide +kernel) c_8
            refine lv_iconst (pc := 60) (v := 1) E.1 E.2.1 dX12_isMarkSign_60 (by decide +kernel) ?_
            refine lv_goto (pc := 61) (tgt := 65) E.1 E.2.1 dX12_isMarkSign_61 (by decide) ?_
            exact em_z (w1 := (fun (u : Unit) => (MW cI cJ M mr mi mf mg))) E hr hlk () hw1 (by show 0 ≤ (1 : Int32).toInt ∧ (1 : Int32).toInt ≤ 1; have k_0 : (1 : Int32).toInt = 1 := (by decide +kernel); omega) (by decide +kernel) (Nat.le_of_ble_eq_true rfl) (Nat.le_of_ble_eq_true rfl) dX12_isMarkSign_65
          · skip
            have hc_8 := neE (a := z_c.toInt) (b := 47) rfl (by decide +kernel) c_8
            refine lv_iload_n (pc := 30) E.1 E.2.1 dX12_isMarkSign_30 rfl (lv_at hl3 1 rfl) ?_
            refine lv_bipush (pc := 31) (v := 40) E.1 E.2.1 dX12_isMarkSign_31 (by decide +kernel) ?_
            refine lv_icmp_eq (pc := 33) (tgt := 60) E.1 E.2.1 dX12_isMarkSign_33 (by decide) (fun c_9 => ?_) (fun c_9 => ?_)
            · skip
              have hc_9 := eqE (a := z_c.toInt) (b := 40) rfl (by decide +kernel) c_9
              refine lv_iconst (pc := 60) (v := 1) E.1 E.2.1 dX12_isMarkSign_60 (by decide +kernel) ?_
              refine lv_goto (pc := 61) (tgt := 65) E.1 E.2.1 dX12_isMarkSign_61 (by decide) ?_
              exact em_z (w1 := (fun (u : Unit) => (MW cI cJ M mr mi mf mg))) E hr hlk () hw1 (by show 0 ≤ (1 : Int32).toInt ∧ (1 : Int32).toInt ≤ 1; have k_0 : (1 : Int32).toInt = 1 := (by decide +kernel); omega) (by decide +kernel) (Nat.le_of_ble_eq_true rfl) (Nat.le_of_ble_eq_true rfl) dX12_isMarkSign_65
            · skip
              have hc_9 := neE (a := z_c.toInt) (b := 40) rfl (by decide +kernel) c_9
              refine lv_iload_n (pc := 36) E.1 E.2.1 dX12_isMarkSign_36 rfl (lv_at hl3 1 rfl) ?_
              refine lv_bipush (pc := 37) (v := 41) E.1 E.2.1 dX12_isMarkSign_37 (by decide +kernel) ?_
              refine lv_icmp_eq (pc := 39) (tgt := 60) E.1 E.2.1 dX12_isMarkSign_39 (by decide) (fun c_10 => ?_) (fun c_10 => ?_)
              · skip
                have hc_10 := eqE (a := z_c.toInt) (b := 41) rfl (by decide +kernel) c_10
                refine lv_iconst (pc := 60) (v := 1) E.1 E.2.1 dX12_isMarkSign_60 (by decide +kernel) ?_
                refine lv_goto (pc := 61) (tgt := 65) E.1 E.2.1 dX12_isMarkSign_61 (by decide) ?_
                exact em_z (w1 := (fun (u : Unit) => (MW cI cJ M mr mi mf mg))) E hr hlk () hw1 (by show 0 ≤ (1 : Int32).toInt ∧ (1 : Int32).toInt ≤ 1; have k_0 : (1 : Int32).toInt = 1 := (by decide +kernel); omega) (by decide +kernel) (Nat.le_of_ble_eq_true rfl) (Nat.le_of_ble_eq_true rfl) dX12_isMarkSign_65
              · skip
                have hc_10 := neE (a := z_c.toInt) (b := 41) rfl (by decide +kernel) c_10
                refine lv_iload_n (pc := 42) E.1 E.2.1 dX12_isMarkSign_42 rfl (lv_at hl3 1 rfl) ?_
                refine lv_bipush (pc := 43) (v := 60) E.1 E.2.1 dX12_isMarkSign_43 (by decide +kernel) ?_
                refine lv_icmp_eq (pc := 45) (tgt := 60) E.1 E.2.1 dX12_isMarkSign_45 (by decide) (fun c_11 => ?_) (fun c_11 => ?_)
                · skip
                  have hc_11 := eqE (a := z_c.toInt) (b := 60) rfl (by decide +kernel) c_11
                  refine lv_iconst (pc := 60) (v := 1) E.1 E.2.1 dX12_isMarkSign_60 (by decide +kernel) ?_
                  refine lv_goto (pc := 61) (tgt := 65) E.1 E.2.1 dX12_isMarkSign_61 (by decide) ?_
                  exact em_z (w1 := (fun (u : Unit) => (MW cI cJ M mr mi mf mg))) E hr hlk () hw1 (by show 0 ≤ (1 : Int32).toInt ∧ (1 : Int32).toInt ≤ 1; have k_0 : (1 : Int32).toInt = 1 := (by decide +kernel); omega) (by decide +kernel) (Nat.le_of_ble_eq_true rfl) (Nat.le_of_ble_eq_true rfl) dX12_isMarkSign_65
                · skip
                  have hc_11 := neE (a := z_c.toInt) (b := 60) rfl (by decide +kernel) c_11
                  refine lv_iload_n (pc := 48) E.1 E.2.1 dX12_isMarkSign_48 rfl (lv_at hl3 1 rfl) ?_
                  refine lv_bipush (pc := 49) (v := 61) E.1 E.2.1 dX12_isMarkSign_49 (by decide +kernel) ?_
                  refine lv_icmp_eq (pc := 51) (tgt := 60) E.1 E.2.1 dX12_isMarkSign_51 (by decide) (fun c_12 => ?_) (fun c_12 => ?_)
                  · skip
                    have hc_12 := eqE (a := z_c.toInt) (b := 61) rfl (by decide +kernel) c_12
                    refine lv_iconst (pc := 60) (v := 1) E.1 E.2.1 dX12_isMarkSign_60 (by decide +kernel) ?_
                    refine lv_goto (pc := 61) (tgt := 65) E.1 E.2.1 dX12_isMarkSign_61 (by decide) ?_
                    exact em_z (w1 := (fun (u : Unit) => (MW cI cJ M mr mi mf mg))) E hr hlk () hw1 (by show 0 ≤ (1 : Int32).toInt ∧ (1 : Int32).toInt ≤ 1; have k_0 : (1 : Int32).toInt = 1 := (by decide +kernel); omega) (by decide +kernel) (Nat.le_of_ble_eq_true rfl) (Nat.le_of_ble_eq_true rfl) dX12_isMarkSign_65
                  · skip
                    have hc_12 := neE (a := z_c.toInt) (b := 61) rfl (by decide +kernel) c_12
                    refine lv_iload_n (pc := 54) E.1 E.2.1 dX12_isMarkSign_54 rfl (lv_at hl3 1 rfl) ?_
                    refine lv_bipush (pc := 55) (v := 62) E.1 E.2.1 dX12_isMarkSign_55 (by decide +kernel) ?_
                    refine lv_icmp_ne (pc := 57) (tgt := 64) E.1 E.2.1 dX12_isMarkSign_57 (by decide) (fun c_13 => ?_) (fun c_13 => ?_)
                    · skip
                      have hc_13 := neE (a := z_c.toInt) (b := 62) rfl (by decide +kernel) c_13
                      refine lv_iconst (pc := 64) (v := 0) E.1 E.2.1 dX12_isMarkSign_64 (by decide +kernel) ?_
                      exact em_z (w1 := (fun (u : Unit) => (MW cI cJ M mr mi mf mg))) E hr hlk () hw1 (by show 0 ≤ (0 : Int32).toInt ∧ (0 : Int32).toInt ≤ 1; have k_0 : (0 : Int32).toInt = 0 := (by decide +kernel); omega) (by decide +kernel) (Nat.le_of_ble_eq_true rfl) (Nat.le_of_ble_eq_true rfl) dX12_isMarkSign_65
                    · skip
                      have hc_13 := eqE (a := z_c.toInt) (b := 62) rfl (by decide +kernel) c_13
                      refine lv_iconst (pc := 60) (v := 1) E.1 E.2.1 dX12_isMarkSign_60 (by decide +kernel) ?_
                      refine lv_goto (pc := 61) (tgt := 65) E.1 E.2.1 dX12_isMarkSign_61 (by decide) ?_
                      exact em_z (w1 := (fun (u : Unit) => (MW cI cJ M mr mi mf mg))) E hr hlk () hw1 (by show 0 ≤ (1 : Int32).toInt ∧ (1 : Int32).toInt ≤ 1; have k_0 : (1 : Int32).toInt = 1 := (by decide +kernel); omega) (by decide +kernel) (Nat.le_of_ble_eq_true rfl) (Nat.le_of_ble_eq_true rfl) dX12_isMarkSign_65

set_option maxHeartbeats 4000000 in
set_option maxRecDepth 100000 in
theorem s_ofNeed (l : Launch) (D : va_G) (cI cJ : ClassId) (sz M : Nat) (mr : Nat → Nat) (mi : Nat → Int32) (mf : Nat → Nat → Int32) (mg : Nat → Nat → Int64) (z_i : Int32) (z_what : Int32) (h0 : 0 ≤ z_i.toInt ∧ z_i.toInt ≤ 9) (h1 : 0 ≤ z_what.toInt ∧ z_what.toInt ≤ 4) : Met l yX12_ofNeed (Cond.code yX12_ofNeed cX12_ofNeed 3 (some .int) :: GW) ({ frames := 1, cells := 0, slots := 0, locals := 40 } : Room) (va_Pc [.ref M, .int z_i, .int z_what] (PW D cI cJ sz (MW cI cJ M mr mi mf mg) xT)) (va_Qi (fun (r : Int32) (u : Unit) => True) (fun u => QW D cI cJ (va_A (MW cI cJ M mr mi mf mg) sz) ((fun (u : Unit) => (MW cI cJ M mr mi mf mg)) u)) (va_A (MW cI cJ M mr mi mf mg) sz)) 0 0 (va_A (MW cI cJ M mr mi mf mg) sz) := by
  refine mk_met (y := yX12_ofNeed) (bytes := cX12_ofNeed) (maxL := 3) (avs := [.ref M, .int z_i, .int z_what]) (WS := (MW cI cJ M mr mi mf mg)) (Qf := fun A => va_Qi (fun (r : Int32) (u : Unit) => True) (fun u => QW D cI cJ A ((fun (u : Unit) => (MW cI cJ M mr mi mf mg)) u)) A) (by decide) (Nat.le_of_ble_eq_true rfl) ?_
  intro p e s m below meth c A ls E hr hlk hnm hX hw1 hl2
  have hl3 : lv_has ls 3 [(0, .ref M), (1, .int z_i), (2, .int z_what)] := hl2
  refine lv_aload_n (pc := 0) E.1 E.2.1 dX12_ofNeed_0 rfl (lv_at hl3 0 rfl) ?_
  refine x_get (pc := 1) (T := TX12) (N := 70) (ci := 12) (v := .ref (mr 45)) E hw1 inX12 0 45 q_1444 rfl rfl (by decide) rfl rfl dX12_ofNeed_1 ?_
  refine lv_iconst (pc := 4) (v := 5) E.1 E.2.1 dX12_ofNeed_4 (by decide +kernel) ?_
  refine lv_iload_n (pc := 5) E.1 E.2.1 dX12_ofNeed_5 rfl (lv_at hl3 1 rfl) ?_
  refine lv_imul (pc := 6) E.1 E.2.1 dX12_ofNeed_6 ?_
  refine lv_topi (fun v_4 ev_4 => ?_)
  have hv_4 : v_4.toInt = 5 * z_i.toInt := by rw [ev_4]; exact mulE (by decide +kernel) rfl (by omega)
  refine lv_iload_n (pc := 7) E.1 E.2.1 dX12_ofNeed_7 rfl (lv_at hl3 2 rfl) ?_
  refine lv_iadd (pc := 8) E.1 E.2.1 dX12_ofNeed_8 ?_
  refine lv_topi (fun v_5 ev_5 => ?_)
  have hv_5 : v_5.toInt = v_4.toInt + z_what.toInt := by rw [ev_5]; exact addE rfl rfl (by omega)
  refine x_iald (pc := 9) (f := (mf 45)) E hw1 22 rfl (inbE (a := v_5.toInt) rfl (by omega)) dX12_ofNeed_9 ?_
  refine lv_topi (fun v_6 ev_6 => ?_)
  exact em_i (w1 := (fun (u : Unit) => (MW cI cJ M mr mi mf mg))) E hr hlk () hw1 trivial (Nat.le_of_ble_eq_true rfl) (Nat.le_of_ble_eq_true rfl) dX12_ofNeed_10

set_option maxHeartbeats 4000000 in
set_option maxRecDepth 100000 in
theorem s_sinceLast (l : Launch) (D : va_G) (cI cJ : ClassId) (sz M : Nat) (mr : Nat → Nat) (mi : Nat → Int32) (mf : Nat → Nat → Int32) (mg : Nat → Nat → Int64) (z_h : Int32) (h0 : 0 ≤ z_h.toInt ∧ z_h.toInt ≤ 9) : Met l yX12_sinceLast (Cond.code yX12_sinceLast cX12_sinceLast 2 (some .int) :: GW) ({ frames := 1, cells := 0, slots := 0, locals := 40 } : Room) (va_Pc [.ref M, .int z_h] (PW D cI cJ sz (MW cI cJ M mr mi mf mg) xT)) (va_Qi (fun (r : Int32) (u : Unit) => True) (fun u => QW D cI cJ (va_A (MW cI cJ M mr mi mf mg) sz) ((fun (u : Unit) => (MW cI cJ M mr mi mf mg)) u)) (va_A (MW cI cJ M mr mi mf mg) sz)) 0 0 (va_A (MW cI cJ M mr mi mf mg) sz) := by
  refine mk_met (y := yX12_sinceLast) (bytes := cX12_sinceLast) (maxL := 2) (avs := [.ref M, .int z_h]) (WS := (MW cI cJ M mr mi mf mg)) (Qf := fun A => va_Qi (fun (r : Int32) (u : Unit) => True) (fun u => QW D cI cJ A ((fun (u : Unit) => (MW cI cJ M mr mi mf mg)) u)) A) (by decide) (Nat.le_of_ble_eq_true rfl) ?_
  intro p e s m below meth c A ls E hr hlk hnm hX hw1 hl2
  have hl3 : lv_has ls 2 [(0, .ref M), (1, .int z_h)] := hl2
  refine lv_aload_n (pc := 0) E.1 E.2.1 dX12_sinceLast_0 rfl (lv_at hl3 0 rfl) ?_
  refine x_get (pc := 1) (T := TX12) (N := 70) (ci := 12) (v := .ref (mr 1)) E hw1 inX12 0 1 q_1400 rfl rfl (by decide) rfl rfl dX12_sinceLast_1 ?_
  refine lv_iconst (pc := 4) (v := 0) E.1 E.2.1 dX12_sinceLast_4 (by decide +kernel) ?_
  refine x_iald (pc := 5) (f := (mf 1)) E hw1 1 rfl (inbE (a := 0) (by decide +kernel) (by omega)) dX12_sinceLast_5 ?_
  refine lv_topi (fun v_4 ev_4 => ?_)
  refine lv_aload_n (pc := 6) E.1 E.2.1 dX12_sinceLast_6 rfl (lv_at hl3 0 rfl) ?_
  refine x_get (pc := 7) (T := TX12) (N := 70) (ci := 12) (v := .ref (mr 1)) E hw1 inX12 0 1 q_1400 rfl rfl (by decide) rfl rfl dX12_sinceLast_7 ?_
  refine lv_bipush (pc := 10) (v := 36) E.1 E.2.1 dX12_sinceLast_10 (by decide +kernel) ?_
  refine lv_iload_n (pc := 12) E.1 E.2.1 dX12_sinceLast_12 rfl (lv_at hl3 1 rfl) ?_
  refine lv_iadd (pc := 13) E.1 E.2.1 dX12_sinceLast_13 ?_
  refine lv_topi (fun v_5 ev_5 => ?_)
  have hv_5 : v_5.toInt = 36 + z_h.toInt := by rw [ev_5]; exact addE (by decide +kernel) rfl (by omega)
  refine x_iald (pc := 14) (f := (mf 1)) E hw1 1 rfl (inbE (a := v_5.toInt) rfl (by omega)) dX12_sinceLast_14 ?_
  refine lv_topi (fun v_6 ev_6 => ?_)
  refine lv_iconst (pc := 15) (v := 1) E.1 E.2.1 dX12_sinceLast_15 (by decide +kernel) ?_
  refine lv_isub (pc := 16) E.1 E.2.1 dX12_sinceLast_16 ?_
  refine lv_topi (fun v_7 ev_7 => ?_)
  refine lv_isub (pc := 17) E.1 E.2.1 dX12_sinceLast_17 ?_
  refine lv_topi (fun v_8 ev_8 => ?_)
  exact em_i (w1 := (fun (u : Unit) => (MW cI cJ M mr mi mf mg))) E hr hlk () hw1 trivial (Nat.le_of_ble_eq_true rfl) (Nat.le_of_ble_eq_true rfl) dX12_sinceLast_18

set_option maxHeartbeats 4000000 in
set_option maxRecDepth 100000 in
theorem s_isReached (l : Launch) (D : va_G) (cI cJ : ClassId) (sz M : Nat) (mr : Nat → Nat) (mi : Nat → Int32) (mf : Nat → Nat → Int32) (mg : Nat → Nat → Int64) (z_a : Int32) (z_b : Int32) (h0 : 0 ≤ z_a.toInt ∧ z_a.toInt ≤ 9) (h1 : 0 ≤ z_b.toInt ∧ z_b.toInt ≤ 9) : Met l yX12_isReached (Cond.code yX12_isReached cX12_isReached 3 (some .boolean) :: GW) ({ frames := 2, cells := 0, slots := 0, locals := 60 } : Room) (va_Pc [.ref M, .int z_a, .int z_b] (PW D cI cJ sz (MW cI cJ M mr mi mf mg) xT)) (va_Qi (fun (r : Int32) (u : Unit) => ((r = 1 ∧ z_a.toInt = z_b.toInt) ∨ (r = 1) ∨ (r = 0 ∧ ¬ z_a.toInt = z_b.toInt))) (fun u => QW D cI cJ (va_A (MW cI cJ M mr mi mf mg) sz) ((fun (u : Unit) => (MW cI cJ M mr mi mf mg)) u)) (va_A (MW cI cJ M mr mi mf mg) sz)) 0 0 (va_A (MW cI cJ M mr mi mf mg) sz) := by
  refine mk_met (y := yX12_isReached) (bytes := cX12_isReached) (maxL := 3) (avs := [.ref M, .int z_a, .int z_b]) (WS := (MW cI cJ M mr mi mf mg)) (Qf := fun A => va_Qi (fun (r : Int32) (u : Unit) => ((r = 1 ∧ z_a.toInt = z_b.toInt) ∨ (r = 1) ∨ (r = 0 ∧ ¬ z_a.toInt = z_b.toInt))) (fun u => QW D cI cJ A ((fun (u : Unit) => (MW cI cJ M mr mi mf mg)) u)) A) (by decide) (Nat.le_of_ble_eq_true rfl) ?_
  intro p e s m below meth c A ls E hr hlk hnm hX hw1 hl2
  have hl3 : lv_has ls 3 [(0, .ref M), (1, .int z_a), (2, .int z_b)] := hl2
  refine lv_iload_n (pc := 0) E.1 E.2.1 dX12_isReached_0 rfl (lv_at hl3 1 rfl) ?_
  refine lv_iload_n (pc := 1) E.1 E.2.1 dX12_isReached_1 rfl (lv_at hl3 2 rfl) ?_
  refine lv_icmp_eq (pc := 2) (tgt := 23) E.1 E.2.1 dX12_isReached_2 (by decide) (fun c_4 => ?_) (fun c_4 => ?_)
  · skip
    have hc_4 := eqE (a := z_a.toInt) (b := z_b.toInt) rfl rfl c_4
    refine lv_iconst (pc := 23) (v := 1) E.1 E.2.1 dX12_isReached_23 (by decide +kernel) ?_
    refine lv_goto (pc := 24) (tgt := 28) E.1 E.2.1 dX12_isReached_24 (by decide) ?_
    exact em_z (w1 := (fun (u : Unit) => (MW cI cJ M mr mi mf mg))) E hr hlk () hw1 (Or.inl ⟨rfl, (by show z_a.toInt = z_b.toInt; omega)⟩) (by decide +kernel) (Nat.le_of_ble_eq_true rfl) (Nat.le_of_ble_eq_true rfl) dX12_isReached_28
  · skip
    have hc_4 := neE (a := z_a.toInt) (b := z_b.toInt) rfl rfl c_4
    refine lv_aload_n (pc := 5) E.1 E.2.1 dX12_isReached_5 rfl (lv_at hl3 0 rfl) ?_
    refine x_get (pc := 6) (T := TX12) (N := 70) (ci := 12) (v := .ref (mr 55)) E hw1 inX12 0 55 q_1454 rfl rfl (by decide) rfl rfl dX12_isReached_6 ?_
    refine lv_bipush (pc := 9) (v := 10) E.1 E.2.1 dX12_isReached_9 (by decide +kernel) ?_
    refine lv_iload_n (pc := 11) E.1 E.2.1 dX12_isReached_11 rfl (lv_at hl3 1 rfl) ?_
    refine lv_imul (pc := 12) E.1 E.2.1 dX12_isReached_12 ?_
    refine lv_topi (fun v_5 ev_5 => ?_)
    have hv_5 : v_5.toInt = 10 * z_a.toInt := by rw [ev_5]; exact mulE (by decide +kernel) rfl (by omega)
    refine lv_iload_n (pc := 13) E.1 E.2.1 dX12_isReached_13 rfl (lv_at hl3 2 rfl) ?_
    refine lv_iadd (pc := 14) E.1 E.2.1 dX12_isReached_14 ?_
    refine lv_topi (fun v_6 ev_6 => ?_)
    have hv_6 : v_6.toInt = v_5.toInt + z_b.toInt := by rw [ev_6]; exact addE rfl rfl (by omega)
    refine x_iald (pc := 15) (f := (mf 55)) E hw1 30 rfl (inbE (a := v_6.toInt) rfl (by omega)) dX12_isReached_15 ?_
    refine lv_topi (fun v_7 ev_7 => ?_)
    refine lv_aload_n (pc := 16) E.1 E.2.1 dX12_isReached_16 rfl (lv_at hl3 0 rfl) ?_
    refine cm_i (pc := 17) hw1 (rn_M (As := []) (rest := [.int v_7]) E hw1 (s_dusk l D cI cJ _ M mr mi mf mg ) (gdV q_1847 q_1849 q_94 q_162 q_1850) hdV_X12_dusk ⟨rfl, rfl⟩ ⟨(Nat.le_of_ble_eq_true rfl), (Nat.le_of_ble_eq_true rfl)⟩ ⟨(Nat.le_of_ble_eq_true rfl), (Nat.le_of_ble_eq_true rfl)⟩ 12 rfl rfl rfl rfl hl3.1 rfl (Nat.le_of_ble_eq_true rfl) dX12_isReached_17) (fun r_9 u_8 H1 locs hp hw10 => ?_)
    generalize H1 = H at hw10 ⊢
    have hw11 : WD D A s.heap (MW cI cJ M mr mi mf mg) H locs := hw10
    refine lv_icmp_gt (pc := 20) (tgt := 27) E.1 E.2.1 dX12_isReached_20 (by decide) (fun c_12 => ?_) (fun c_12 => ?_)
    · skip
      have hc_12 := ltE (a := r_9.toInt) (b := v_7.toInt) rfl rfl c_12
      refine lv_iconst (pc := 27) (v := 0) E.1 E.2.1 dX12_isReached_27 (by decide +kernel) ?_
      exact em_z (w1 := (fun (u : Unit) => (MW cI cJ M mr mi mf mg))) E hr hlk () hw11 (Or.inr (Or.inr (⟨rfl, (by show ¬ z_a.toInt = z_b.toInt; omega)⟩))) (by decide +kernel) (Nat.le_of_ble_eq_true rfl) (Nat.le_of_ble_eq_true rfl) dX12_isReached_28
    · skip
      have hc_12 := nltE (a := r_9.toInt) (b := v_7.toInt) rfl rfl c_12
      refine lv_iconst (pc := 23) (v := 1) E.1 E.2.1 dX12_isReached_23 (by decide +kernel) ?_
      refine lv_goto (pc := 24) (tgt := 28) E.1 E.2.1 dX12_isReached_24 (by decide) ?_
      exact em_z (w1 := (fun (u : Unit) => (MW cI cJ M mr mi mf mg))) E hr hlk () hw11 (Or.inr (Or.inl rfl)) (by decide +kernel) (Nat.le_of_ble_eq_true rfl) (Nat.le_of_ble_eq_true rfl) dX12_isReached_28

set_option maxHeartbeats 4000000 in
set_option maxRecDepth 100000 in
theorem s_reachedFrom (l : Launch) (D : va_G) (cI cJ : ClassId) (sz M : Nat) (mr : Nat → Nat) (mi : Nat → Int32) (mf : Nat → Nat → Int32) (mg : Nat → Nat → Int64) (z_h : Int32) (h0 : 0 ≤ (mi 6).toInt ∧ (mi 6).toInt ≤ 10) (h1 : 0 ≤ z_h.toInt ∧ z_h.toInt ≤ 9) : Met l yX12_reachedFrom (Cond.code yX12_reachedFrom cX12_reachedFrom 4 (some .int) :: GW) ({ frames := 3, cells := 0, slots := 0, locals := 82 } : Room) (va_Pc [.ref M, .int z_h] (PW D cI cJ sz (MW cI cJ M mr mi mf mg) xT)) (va_Qi (fun (r : Int32) (u : Unit) => True) (fun u => QW D cI cJ (va_A (MW cI cJ M mr mi mf mg) sz) ((fun (u : Unit) => (MW cI cJ M mr mi mf mg)) u)) (va_A (MW cI cJ M mr mi mf mg) sz)) 0 0 (va_A (MW cI cJ M mr mi mf mg) sz) := by
  refine mk_met (y := yX12_reachedFrom) (bytes := cX12_reachedFrom) (maxL := 4) (avs := [.ref M, .int z_h]) (WS := (MW cI cJ M mr mi mf mg)) (Qf := fun A => va_Qi (fun (r : Int32) (u : Unit) => True) (fun u => QW D cI cJ A ((fun (u : Unit) => (MW cI cJ M mr mi mf mg)) u)) A) (by decide) (Nat.le_of_ble_eq_true rfl) ?_
  intro p e s m below meth c A ls E hr hlk hnm hX hw1 hl2
  have hl3 : lv_has ls 4 [(0, .ref M), (1, .int z_h)] := hl2
  refine lv_iconst (pc := 0) (v := 0) E.1 E.2.1 dX12_reachedFrom_0 (by decide +kernel) ?_
  refine lv_istore_n (pc := 1) (lv' := [(2, .int 0), (0, .ref M), (1, .int z_h)]) E.1 E.2.1 dX12_reachedFrom_1 rfl hl3 (by decide) rfl (fun ls hl4 => ?_)
  refine lv_iconst (pc := 2) (v := 0) E.1 E.2.1 dX12_reachedFrom_2 (by decide +kernel) ?_
  refine lv_istore_n (pc := 3) (lv' := [(3, .int 0), (2, .int 0), (0, .ref M), (1, .int z_h)]) E.1 E.2.1 dX12_reachedFrom_3 rfl hl4 (by decide) rfl (fun ls hl5 => ?_)
  have loop_6 : ∀ (k : Nat) (x_7 : Int32) (x_8 : Int32) (H : Heap) (locs : List Loc) (ls : Array Slot), (0 ≤ x_7.toInt ∧ x_7.toInt ≤ (mi 6).toInt) → (mi 6).toInt - x_7.toInt < (k : Int) → WD D A s.heap (MW cI cJ M mr mi mf mg) H locs → lv_has ls 4 [(3, .int x_7), (2, .int x_8), (0, .ref M), (1, .int z_h)] → W p l e ({ frames := 3, cells := 0, slots := 0, locals := 82 } : Room) s m ([.ref M, .int z_h] : List Value).toArray below meth c H locs 0 0 (MQ below (va_Qi (fun (r : Int32) (u : Unit) => True) (fun u => QW D cI cJ A ((fun (u : Unit) => (MW cI cJ M mr mi mf mg)) u)) A) ([.ref M, .int z_h] : List Value).toArray s 0 0 A) (F0 m 4 ls []) := by
    intro k
    induction k with
    | zero =>
      intro x_7 x_8 _ _ _ hinv hm
      obtain hi_8_0 := hinv
      exact absurd hm (by omega)
    | succ k ih_9 =>
      intro x_7 x_8 H locs ls hinv hm hw10 hl11
      obtain hi_8_0 := hinv
      refine lv_iload_n (pc := 4) E.1 E.2.1 dX12_reachedFrom_4 rfl (lv_at hl11 0 rfl) ?_
      refine lv_aload_n (pc := 5) E.1 E.2.1 dX12_reachedFrom_5 rfl (lv_at hl11 2 rfl) ?_
      refine x_get (pc := 6) (T := TX12) (N := 70) (ci := 12) (v := .int (mi 6)) E hw10 inX12 0 6 q_1405 rfl rfl (by decide) rfl rfl dX12_reachedFrom_6 ?_
      refine lv_icmp_ge (pc := 9) (tgt := 33) E.1 E.2.1 dX12_reachedFrom_9 (by decide) (fun c_12 => ?_) (fun c_12 => ?_)
      · skip
        have hc_12 := leE (a := (mi 6).toInt) (b := x_7.toInt) rfl rfl c_12
        refine lv_iload_n (pc := 33) E.1 E.2.1 dX12_reachedFrom_33 rfl (lv_at hl11 1 rfl) ?_
        exact em_i (w1 := (fun (u : Unit) => (MW cI cJ M mr mi mf mg))) E hr hlk () hw10 trivial (Nat.le_of_ble_eq_true rfl) (Nat.le_of_ble_eq_true rfl) dX12_reachedFrom_34
      · skip
        have hc_12 := nleE (a := (mi 6).toInt) (b := x_7.toInt) rfl rfl c_12
        refine lv_aload_n (pc := 12) E.1 E.2.1 dX12_reachedFrom_12 rfl (lv_at hl11 2 rfl) ?_
        refine lv_iload_n (pc := 13) E.1 E.2.1 dX12_reachedFrom_13 rfl (lv_at hl11 3 rfl) ?_
        refine lv_iload_n (pc := 14) E.1 E.2.1 dX12_reachedFrom_14 rfl (lv_at hl11 0 rfl) ?_
        refine cm_i (pc := 15) hw10 (rn_M (As := [.int z_h, .int x_7]) (rest := []) E hw10 (s_isReached l D cI cJ _ M mr mi mf mg z_h x_7 h1 (by show 0 ≤ x_7.toInt ∧ x_7.toInt ≤ 9; omega)) (gdV q_1843 q_1845 q_93 q_162 q_1846) hdV_X12_isReached ⟨rfl, rfl⟩ ⟨(Nat.le_of_ble_eq_true rfl), (Nat.le_of_ble_eq_true rfl)⟩ ⟨(Nat.le_of_ble_eq_true rfl), (Nat.le_of_ble_eq_true rfl)⟩ 12 rfl rfl rfl rfl hl11.1 rfl (Nat.le_of_ble_eq_true rfl) dX12_reachedFrom_15) (fun r_14 u_13 H1 locs hp hw15 => ?_)
        generalize H1 = H at hw15 ⊢
        have hw16 : WD D A s.heap (MW cI cJ M mr mi mf mg) H locs := hw15
        have hp_17 := hp
        rcases hp_17 with ⟨rfl, ha_18⟩ | rfl | ⟨rfl, ha_19⟩
        · skip
          have ha_18 : z_h.toInt = x_7.toInt := ha_18
          refine lv_if_eq (pc := 18) (tgt := 27) E.1 E.2.1 dX12_reachedFrom_18 (by decide) (fun c_20 => absurd c_20 (mneE (a := 1) (b := 0) (by decide +kernel) (by decide +kernel) (by omega))) (fun _ => ?_)
          refine lv_iload_n (pc := 21) E.1 E.2.1 dX12_reachedFrom_21 rfl (lv_at hl11 1 rfl) ?_
          refine lv_iconst (pc := 22) (v := 1) E.1 E.2.1 dX12_reachedFrom_22 (by decide +kernel) ?_
          refine lv_iload_n (pc := 23) E.1 E.2.1 dX12_reachedFrom_23 rfl (lv_at hl11 0 rfl) ?_
          refine lv_ishl (pc := 24) E.1 E.2.1 dX12_reachedFrom_24 ?_
          refine lv_topi (fun v_21 ev_21 => ?_)
          refine lv_ior (pc := 25) E.1 E.2.1 dX12_reachedFrom_25 ?_
          refine lv_topi (fun v_22 ev_22 => ?_)
          refine lv_istore_n (pc := 26) (lv' := [(2, .int v_22), (3, .int x_7), (0, .ref M), (1, .int z_h)]) E.1 E.2.1 dX12_reachedFrom_26 rfl hl11 (by decide) rfl (fun ls hl23 => ?_)
          obtain ⟨v_24, ev_24⟩ : ∃ z : Int32, x_7 + Int32.ofInt (1) = z := ⟨_, rfl⟩
          have hv_24 : v_24.toInt = x_7.toInt + (1) := by rw [← ev_24]; exact incE rfl (by decide) (by omega)
          refine lv_iinc (pc := 27) (v := v_24) (lv' := [(3, .int v_24), (2, .int v_22), (0, .ref M), (1, .int z_h)]) E.1 E.2.1 dX12_reachedFrom_27 hl23 (k := 1) rfl ev_24 (by decide) rfl (fun ls hl25 => ?_)
          refine lv_goto (pc := 30) (tgt := 4) E.1 E.2.1 dX12_reachedFrom_30 (by decide) ?_
          exact ih_9 v_24 v_22 _ _ _ (by show 0 ≤ v_24.toInt ∧ v_24.toInt ≤ (mi 6).toInt; omega) (by omega) hw16 (lv_sub hl25 [0, 1, 2, 3] rfl)
        · skip
          refine lv_if_eq (pc := 18) (tgt := 27) E.1 E.2.1 dX12_reachedFrom_18 (by decide) (fun c_26 => absurd c_26 (mneE (a := 1) (b := 0) (by decide +kernel) (by decide +kernel) (by omega))) (fun _ => ?_)
          refine lv_iload_n (pc := 21) E.1 E.2.1 dX12_reachedFrom_21 rfl (lv_at hl11 1 rfl) ?_
          refine lv_iconst (pc := 22) (v := 1) E.1 E.2.1 dX12_reachedFrom_22 (by decide +kernel) ?_
          refine lv_iload_n (pc := 23) E.1 E.2.1 dX12_reachedFrom_23 rfl (lv_at hl11 0 rfl) ?_
          refine lv_ishl (pc := 24) E.1 E.2.1 dX12_reachedFrom_24 ?_
          refine lv_topi (fun v_27 ev_27 => ?_)
          refine lv_ior (pc := 25) E.1 E.2.1 dX12_reachedFrom_25 ?_
          refine lv_topi (fun v_28 ev_28 => ?_)
          refine lv_istore_n (pc := 26) (lv' := [(2, .int v_28), (3, .int x_7), (0, .ref M), (1, .int z_h)]) E.1 E.2.1 dX12_reachedFrom_26 rfl hl11 (by decide) rfl (fun ls hl29 => ?_)
          obtain ⟨v_30, ev_30⟩ : ∃ z : Int32, x_7 + Int32.ofInt (1) = z := ⟨_, rfl⟩
          have hv_30 : v_30.toInt = x_7.toInt + (1) := by rw [← ev_30]; exact incE rfl (by decide) (by omega)
          refine lv_iinc (pc := 27) (v := v_30) (lv' := [(3, .int v_30), (2, .int v_28), (0, .ref M), (1, .int z_h)]) E.1 E.2.1 dX12_reachedFrom_27 hl29 (k := 1) rfl ev_30 (by decide) rfl (fun ls hl31 => ?_)
          refine lv_goto (pc := 30) (tgt := 4) E.1 E.2.1 dX12_reachedFrom_30 (by decide) ?_
          exact ih_9 v_30 v_28 _ _ _ (by show 0 ≤ v_30.toInt ∧ v_30.toInt ≤ (mi 6).toInt; omega) (by omega) hw16 (lv_sub hl31 [0, 1, 2, 3] rfl)
        · skip
          have ha_19 : ¬ z_h.toInt = x_7.toInt := ha_19
          refine lv_if_eq (pc := 18) (tgt := 27) E.1 E.2.1 dX12_reachedFrom_18 (by decide) (fun _ => ?_) (fun c_32 => absurd (meqE (a := 0) (b := 0) (by decide +kernel) (by decide +kernel) (by omega)) c_32)
          obtain ⟨v_33, ev_33⟩ : ∃ z : Int32, x_7 + Int32.ofInt (1) = z := ⟨_, rfl⟩
          have hv_33 : v_33.toInt = x_7.toInt + (1) := by rw [← ev_33]; exact incE rfl (by decide) (by omega)
          refine lv_iinc (pc := 27) (v := v_33) (lv' := [(3, .int v_33), (2, .int x_8), (0, .ref M), (1, .int z_h)]) E.1 E.2.1 dX12_reachedFrom_27 hl11 (k := 0) rfl ev_33 (by decide) rfl (fun ls hl34 => ?_)
          refine lv_goto (pc := 30) (tgt := 4) E.1 E.2.1 dX12_reachedFrom_30 (by decide) ?_
          exact ih_9 v_33 x_8 _ _ _ (by show 0 ≤ v_33.toInt ∧ v_33.toInt ≤ (mi 6).toInt; omega) (by omega) hw16 (lv_sub hl34 [0, 1, 2, 3] rfl)
  exact loop_6 (Int.toNat ((mi 6).toInt - 0) + 1) 0 0 _ _ _ (by show 0 ≤ (0 : Int32).toInt ∧ (0 : Int32).toInt ≤ (mi 6).toInt; have k_0 : (0 : Int32).toInt = 0 := (by decide +kernel); omega) (by have k_0 : (0 : Int32).toInt = 0 := (by decide +kernel); have k_1 : (0 : Int32).toInt = 0 := (by decide +kernel); omega) hw1 (lv_sub hl5 [0, 1, 2, 3] rfl)

set_option maxHeartbeats 4000000 in
set_option maxRecDepth 100000 in
theorem s_doesEnvy (l : Launch) (D : va_G) (cI cJ : ClassId) (sz M : Nat) (mr : Nat → Nat) (mi : Nat → Int32) (mf : Nat → Nat → Int32) (mg : Nat → Nat → Int64) (z_a : Int32) (z_b : Int32) (h0 : 0 ≤ z_a.toInt ∧ z_a.toInt ≤ 9) (h1 : 0 ≤ z_b.toInt ∧ z_b.toInt ≤ 9) : Met l yX12_doesEnvy (Cond.code yX12_doesEnvy cX12_doesEnvy 3 (some .boolean) :: GW) ({ frames := 1, cells := 0, slots := 0, locals := 40 } : Room) (va_Pc [.ref M, .int z_a, .int z_b] (PW D cI cJ sz (MW cI cJ M mr mi mf mg) xT)) (va_Qi (fun (r : Int32) (u : Unit) => (0 ≤ r.toInt ∧ r.toInt ≤ 1)) (fun u => QW D cI cJ (va_A (MW cI cJ M mr mi mf mg) sz) ((fun (u : Unit) => (MW cI cJ M mr mi mf mg)) u)) (va_A (MW cI cJ M mr mi mf mg) sz)) 0 0 (va_A (MW cI cJ M mr mi mf mg) sz) := by
  refine mk_met (y := yX12_doesEnvy) (bytes := cX12_doesEnvy) (maxL := 3) (avs := [.ref M, .int z_a, .int z_b]) (WS := (MW cI cJ M mr mi mf mg)) (Qf := fun A => va_Qi (fun (r : Int32) (u : Unit) => (0 ≤ r.toInt ∧ r.toInt ≤ 1)) (fun u => QW D cI cJ A ((fun (u : Unit) => (MW cI cJ M mr mi mf mg)) u)) A) (by decide) (Nat.le_of_ble_eq_true rfl) ?_
  intro p e s m below meth c A ls E hr hlk hnm hX hw1 hl2
  have hl3 : lv_has ls 3 [(0, .ref M), (1, .int z_a), (2, .int z_b)] := hl2
  refine lv_aload_n (pc := 0) E.1 E.2.1 dX12_doesEnvy_0 rfl (lv_at hl3 0 rfl) ?_
  refine x_get (pc := 1) (T := TX12) (N := 70) (ci := 12) (v := .ref (mr 1)) E hw1 inX12 0 1 q_1400 rfl rfl (by decide) rfl rfl dX12_doesEnvy_1 ?_
  refine lv_bipush (pc := 4) (v := 26) E.1 E.2.1 dX12_doesEnvy_4 (by decide +kernel) ?_
  refine lv_iload_n (pc := 6) E.1 E.2.1 dX12_doesEnvy_6 rfl (lv_at hl3 2 rfl) ?_
  refine lv_iadd (pc := 7) E.1 E.2.1 dX12_doesEnvy_7 ?_
  refine lv_topi (fun v_4 ev_4 => ?_)
  have hv_4 : v_4.toInt = 26 + z_b.toInt := by rw [ev_4]; exact addE (by decide +kernel) rfl (by omega)
  refine x_iald (pc := 8) (f := (mf 1)) E hw1 1 rfl (inbE (a := v_4.toInt) rfl (by omega)) dX12_doesEnvy_8 ?_
  refine lv_topi (fun v_5 ev_5 => ?_)
  refine lv_aload_n (pc := 9) E.1 E.2.1 dX12_doesEnvy_9 rfl (lv_at hl3 0 rfl) ?_
  refine x_get (pc := 10) (T := TX12) (N := 70) (ci := 12) (v := .ref (mr 8)) E hw1 inX12 0 8 q_1407 rfl rfl (by decide) rfl rfl dX12_doesEnvy_10 ?_
  refine lv_iload_n (pc := 13) E.1 E.2.1 dX12_doesEnvy_13 rfl (lv_at hl3 1 rfl) ?_
  refine x_iald (pc := 14) (f := (mf 8)) E hw1 5 rfl (inbE (a := z_a.toInt) rfl (by omega)) dX12_doesEnvy_14 ?_
  refine lv_topi (fun v_6 ev_6 => ?_)
  refine lv_imul (pc := 15) E.1 E.2.1 dX12_doesEnvy_15 ?_
  refine lv_topi (fun v_7 ev_7 => ?_)
  refine lv_aload_n (pc := 16) E.1 E.2.1 dX12_doesEnvy_16 rfl (lv_at hl3 0 rfl) ?_
  refine x_get (pc := 17) (T := TX12) (N := 70) (ci := 12) (v := .ref (mr 1)) E hw1 inX12 0 1 q_1400 rfl rfl (by decide) rfl rfl dX12_doesEnvy_17 ?_
  refine lv_bipush (pc := 20) (v := 26) E.1 E.2.1 dX12_doesEnvy_20 (by decide +kernel) ?_
  refine lv_iload_n (pc := 22) E.1 E.2.1 dX12_doesEnvy_22 rfl (lv_at hl3 1 rfl) ?_
  refine lv_iadd (pc := 23) E.1 E.2.1 dX12_doesEnvy_23 ?_
  refine lv_topi (fun v_8 ev_8 => ?_)
  have hv_8 : v_8.toInt = 26 + z_a.toInt := by rw [ev_8]; exact addE (by decide +kernel) rfl (by omega)
  refine x_iald (pc := 24) (f := (mf 1)) E hw1 1 rfl (inbE (a := v_8.toInt) rfl (by omega)) dX12_doesEnvy_24 ?_
  refine lv_topi (fun v_9 ev_9 => ?_)
  refine lv_aload_n (pc := 25) E.1 E.2.1 dX12_doesEnvy_25 rfl (lv_at hl3 0 rfl) ?_
  refine x_get (pc := 26) (T := TX12) (N := 70) (ci := 12) (v := .int (mi 13)) E hw1 inX12 0 13 q_1412 rfl rfl (by decide) rfl rfl dX12_doesEnvy_26 ?_
  refine lv_iadd (pc := 29) E.1 E.2.1 dX12_doesEnvy_29 ?_
  refine lv_topi (fun v_10 ev_10 => ?_)
  refine lv_aload_n (pc := 30) E.1 E.2.1 dX12_doesEnvy_30 rfl (lv_at hl3 0 rfl) ?_
  refine x_get (pc := 31) (T := TX12) (N := 70) (ci := 12) (v := .ref (mr 8)) E hw1 inX12 0 8 q_1407 rfl rfl (by decide) rfl rfl dX12_doesEnvy_31 ?_
  refine lv_iload_n (pc := 34) E.1 E.2.1 dX12_doesEnvy_34 rfl (lv_at hl3 2 rfl) ?_
  refine x_iald (pc := 35) (f := (mf 8)) E hw1 5 rfl (inbE (a := z_b.toInt) rfl (by omega)) dX12_doesEnvy_35 ?_
  refine lv_topi (fun v_11 ev_11 => ?_)
  refine lv_imul (pc := 36) E.1 E.2.1 dX12_doesEnvy_36 ?_
  refine lv_topi (fun v_12 ev_12 => ?_)
  refine lv_icmp_le (pc := 37) (tgt := 44) E.1 E.2.1 dX12_doesEnvy_37 (by decide) (fun c_13 => ?_) (fun c_13 => ?_)
  · skip
    have hc_13 := leE (a := v_7.toInt) (b := v_12.toInt) rfl rfl c_13
    refine lv_iconst (pc := 44) (v := 0) E.1 E.2.1 dX12_doesEnvy_44 (by decide +kernel) ?_
    exact em_z (w1 := (fun (u : Unit) => (MW cI cJ M mr mi mf mg))) E hr hlk () hw1 (by show 0 ≤ (0 : Int32).toInt ∧ (0 : Int32).toInt ≤ 1; have k_0 : (0 : Int32).toInt = 0 := (by decide +kernel); omega) (by decide +kernel) (Nat.le_of_ble_eq_true rfl) (Nat.le_of_ble_eq_true rfl) dX12_doesEnvy_45
  · skip
    have hc_13 := nleE (a := v_7.toInt) (b := v_12.toInt) rfl rfl c_13
    refine lv_iconst (pc := 40) (v := 1) E.1 E.2.1 dX12_doesEnvy_40 (by decide +kernel) ?_
    refine lv_goto (pc := 41) (tgt := 45) E.1 E.2.1 dX12_doesEnvy_41 (by decide) ?_
    exact em_z (w1 := (fun (u : Unit) => (MW cI cJ M mr mi mf mg))) E hr hlk () hw1 (by show 0 ≤ (1 : Int32).toInt ∧ (1 : Int32).toInt ≤ 1; have k_0 : (1 : Int32).toInt = 1 := (by decide +kernel); omega) (by decide +kernel) (Nat.le_of_ble_eq_true rfl) (Nat.le_of_ble_eq_true rfl) dX12_doesEnvy_45

set_option maxHeartbeats 4000000 in
set_option maxRecDepth 100000 in
theorem s_enviedBy (l : Launch) (D : va_G) (cI cJ : ClassId) (sz M : Nat) (mr : Nat → Nat) (mi : Nat → Int32) (mf : Nat → Nat → Int32) (mg : Nat → Nat → Int64) (z_h : Int32) (h0 : 0 ≤ (mi 6).toInt ∧ (mi 6).toInt ≤ 10) (h1 : 0 ≤ z_h.toInt ∧ z_h.toInt ≤ 9) : Met l yX12_enviedBy (Cond.code yX12_enviedBy cX12_enviedBy 4 (some .int) :: GW) ({ frames := 2, cells := 0, slots := 0, locals := 62 } : Room) (va_Pc [.ref M, .int z_h] (PW D cI cJ sz (MW cI cJ M mr mi mf mg) xT)) (va_Qi (fun (r : Int32) (u : Unit) => True) (fun u => QW D cI cJ (va_A (MW cI cJ M mr mi mf mg) sz) ((fun (u : Unit) => (MW cI cJ M mr mi mf mg)) u)) (va_A (MW cI cJ M mr mi mf mg) sz)) 0 0 (va_A (MW cI cJ M mr mi mf mg) sz) := by
  refine mk_met (y := yX12_enviedBy) (bytes := cX12_enviedBy) (maxL := 4) (avs := [.ref M, .int z_h]) (WS := (MW cI cJ M mr mi mf mg)) (Qf := fun A => va_Qi (fun (r : Int32) (u : Unit) => True) (fun u => QW D cI cJ A ((fun (u : Unit) => (MW cI cJ M mr mi mf mg)) u)) A) (by decide) (Nat.le_of_ble_eq_true rfl) ?_
  intro p e s m below meth c A ls E hr hlk hnm hX hw1 hl2
  have hl3 : lv_has ls 4 [(0, .ref M), (1, .int z_h)] := hl2
  refine lv_iconst (pc := 0) (v := 0) E.1 E.2.1 dX12_enviedBy_0 (by decide +kernel) ?_
  refine lv_istore_n (pc := 1) (lv' := [(2, .int 0), (0, .ref M), (1, .int z_h)]) E.1 E.2.1 dX12_enviedBy_1 rfl hl3 (by decide) rfl (fun ls hl4 => ?_)
  refine lv_iconst (pc := 2) (v := 0) E.1 E.2.1 dX12_enviedBy_2 (by decide +kernel) ?_
  refine lv_istore_n (pc := 3) (lv' := [(3, .int 0), (2, .int 0), (0, .ref M), (1, .int z_h)]) E.1 E.2.1 dX12_enviedBy_3 rfl hl4 (by decide) rfl (fun ls hl5 => ?_)
  have loop_6 : ∀ (k : Nat) (x_7 : Int32) (x_8 : Int32) (H : Heap) (locs : List Loc) (ls : Array Slot), (0 ≤ x_7.toInt ∧ x_7.toInt ≤ (mi 6).toInt) → (mi 6).toInt - x_7.toInt < (k : Int) → WD D A s.heap (MW cI cJ M mr mi mf mg) H locs → lv_has ls 4 [(3, .int x_7), (2, .int x_8), (0, .ref M), (1, .int z_h)] → W p l e ({ frames := 2, cells := 0, slots := 0, locals := 62 } : Room) s m ([.ref M, .int z_h] : List Value).toArray below meth c H locs 0 0 (MQ below (va_Qi (fun (r : Int32) (u : Unit) => True) (fun u => QW D cI cJ A ((fun (u : Unit) => (MW cI cJ M mr mi mf mg)) u)) A) ([.ref M, .int z_h] : List Value).toArray s 0 0 A) (F0 m 4 ls []) := by
    intro k
    induction k with
    | zero =>
      intro x_7 x_8 _ _ _ hinv hm
      obtain hi_8_0 := hinv
      exact absurd hm (by omega)
    | succ k ih_9 =>
      intro x_7 x_8 H locs ls hinv hm hw10 hl11
      obtain hi_8_0 := hinv
      refine lv_iload_n (pc := 4) E.1 E.2.1 dX12_enviedBy_4 rfl (lv_at hl11 0 rfl) ?_
      refine lv_aload_n (pc := 5) E.1 E.2.1 dX12_enviedBy_5 rfl (lv_at hl11 2 rfl) ?_
      refine x_get (pc := 6) (T := TX12) (N := 70) (ci := 12) (v := .int (mi 6)) E hw10 inX12 0 6 q_1405 rfl rfl (by decide) rfl rfl dX12_enviedBy_6 ?_
      refine lv_icmp_ge (pc := 9) (tgt := 33) E.1 E.2.1 dX12_enviedBy_9 (by decide) (fun c_12 => ?_) (fun c_12 => ?_)
      · skip
        have hc_12 := leE (a := (mi 6).toInt) (b := x_7.toInt) rfl rfl c_12
        refine lv_iload_n (pc := 33) E.1 E.2.1 dX12_enviedBy_33 rfl (lv_at hl11 1 rfl) ?_
        exact em_i (w1 := (fun (u : Unit) => (MW cI cJ M mr mi mf mg))) E hr hlk () hw10 trivial (Nat.le_of_ble_eq_true rfl) (Nat.le_of_ble_eq_true rfl) dX12_enviedBy_34
      · skip
        have hc_12 := nleE (a := (mi 6).toInt) (b := x_7.toInt) rfl rfl c_12
        refine lv_aload_n (pc := 12) E.1 E.2.1 dX12_enviedBy_12 rfl (lv_at hl11 2 rfl) ?_
        refine lv_iload_n (pc := 13) E.1 E.2.1 dX12_enviedBy_13 rfl (lv_at hl11 3 rfl) ?_
        refine lv_iload_n (pc := 14) E.1 E.2.1 dX12_enviedBy_14 rfl (lv_at hl11 0 rfl) ?_
        refine cm_i (pc := 15) hw10 (rn_M (As := [.int z_h, .int x_7]) (rest := []) E hw10 (s_doesEnvy l D cI cJ _ M mr mi mf mg z_h x_7 h1 (by show 0 ≤ x_7.toInt ∧ x_7.toInt ≤ 9; omega)) (gdV q_1942 q_1944 q_116 q_162 q_1945) hdV_X12_doesEnvy ⟨rfl, rfl⟩ ⟨(Nat.le_of_ble_eq_true rfl), (Nat.le_of_ble_eq_true rfl)⟩ ⟨(Nat.le_of_ble_eq_true rfl), (Nat.le_of_ble_eq_true rfl)⟩ 12 rfl rfl rfl rfl hl11.1 rfl (Nat.le_of_ble_eq_true rfl) dX12_enviedBy_15) (fun r_14 u_13 H1 locs hp hw15 => ?_)
        generalize H1 = H at hw15 ⊢
        have hw16 : WD D A s.heap (MW cI cJ M mr mi mf mg) H locs := hw15
        have hp_17 := hp
        have hp_17 : 0 ≤ r_14.toInt ∧ r_14.toInt ≤ 1 := hp_17
        refine lv_if_eq (pc := 18) (tgt := 27) E.1 E.2.1 dX12_enviedBy_18 (by decide) (fun c_18 => ?_) (fun c_18 => ?_)
        · skip
          have hc_18 := eqE (a := r_14.toInt) (b := 0) rfl (by decide +kernel) c_18
          obtain ⟨v_19, ev_19⟩ : ∃ z : Int32, x_7 + Int32.ofInt (1) = z := ⟨_, rfl⟩
          have hv_19 : v_19.toInt = x_7.toInt + (1) := by rw [← ev_19]; exact incE rfl (by decide) (by omega)
          refine lv_iinc (pc := 27) (v := v_19) (lv' := [(3, .int v_19), (2, .int x_8), (0, .ref M), (1, .int z_h)]) E.1 E.2.1 dX12_enviedBy_27 hl11 (k := 0) rfl ev_19 (by decide) rfl (fun ls hl20 => ?_)
          refine lv_goto (pc := 30) (tgt := 4) E.1 E.2.1 dX12_enviedBy_30 (by decide) ?_
          exact ih_9 v_19 x_8 _ _ _ (by show 0 ≤ v_19.toInt ∧ v_19.toInt ≤ (mi 6).toInt; omega) (by omega) hw16 (lv_sub hl20 [0, 1, 2, 3] rfl)
        · skip
          have hc_18 := neE (a := r_14.toInt) (b := 0) rfl (by decide +kernel) c_18
          refine lv_iload_n (pc := 21) E.1 E.2.1 dX12_enviedBy_21 rfl (lv_at hl11 1 rfl) ?_
          refine lv_iconst (pc := 22) (v := 1) E.1 E.2.1 dX12_enviedBy_22 (by decide +kernel) ?_
          refine lv_iload_n (pc := 23) E.1 E.2.1 dX12_enviedBy_23 rfl (lv_at hl11 0 rfl) ?_
          refine lv_ishl (pc := 24) E.1 E.2.1 dX12_enviedBy_24 ?_
          refine lv_topi (fun v_21 ev_21 => ?_)
          refine lv_ior (pc := 25) E.1 E.2.1 dX12_enviedBy_25 ?_
          refine lv_topi (fun v_22 ev_22 => ?_)
          refine lv_istore_n (pc := 26) (lv' := [(2, .int v_22), (3, .int x_7), (0, .ref M), (1, .int z_h)]) E.1 E.2.1 dX12_enviedBy_26 rfl hl11 (by decide) rfl (fun ls hl23 => ?_)
          obtain ⟨v_24, ev_24⟩ : ∃ z : Int32, x_7 + Int32.ofInt (1) = z := ⟨_, rfl⟩
          have hv_24 : v_24.toInt = x_7.toInt + (1) := by rw [← ev_24]; exact incE rfl (by decide) (by omega)
          refine lv_iinc (pc := 27) (v := v_24) (lv' := [(3, .int v_24), (2, .int v_22), (0, .ref M), (1, .int z_h)]) E.1 E.2.1 dX12_enviedBy_27 hl23 (k := 1) rfl ev_24 (by decide) rfl (fun ls hl25 => ?_)
          refine lv_goto (pc := 30) (tgt := 4) E.1 E.2.1 dX12_enviedBy_30 (by decide) ?_
          exact ih_9 v_24 v_22 _ _ _ (by show 0 ≤ v_24.toInt ∧ v_24.toInt ≤ (mi 6).toInt; omega) (by omega) hw16 (lv_sub hl25 [0, 1, 2, 3] rfl)
  exact loop_6 (Int.toNat ((mi 6).toInt - 0) + 1) 0 0 _ _ _ (by show 0 ≤ (0 : Int32).toInt ∧ (0 : Int32).toInt ≤ (mi 6).toInt; have k_0 : (0 : Int32).toInt = 0 := (by decide +kernel); omega) (by have k_0 : (0 : Int32).toInt = 0 := (by decide +kernel); have k_1 : (0 : Int32).toInt = 0 := (by decide +kernel); omega) hw1 (lv_sub hl5 [0, 1, 2, 3] rfl)

set_option maxHeartbeats 4000000 in
set_option maxRecDepth 100000 in
theorem s_isBetween (l : Launch) (D : va_G) (cI cJ : ClassId) (sz M : Nat) (mr : Nat → Nat) (mi : Nat → Int32) (mf : Nat → Nat → Int32) (mg : Nat → Nat → Int64) (z_c : Int32) (z_a : Int32) (z_b : Int32)  : Met l yX12_isBetween (Cond.code yX12_isBetween cX12_isBetween 9 (some .boolean) :: GW) ({ frames := 1, cells := 0, slots := 0, locals := 40 } : Room) (va_Pc [.ref M, .int z_c, .int z_a, .int z_b] (PW D cI cJ sz (MW cI cJ M mr mi mf mg) xT)) (va_Qi (fun (r : Int32) (u : Unit) => (0 ≤ r.toInt ∧ r.toInt ≤ 1)) (fun u => QW D cI cJ (va_A (MW cI cJ M mr mi mf mg) sz) ((fun (u : Unit) => (MW cI cJ M mr mi mf mg)) u)) (va_A (MW cI cJ M mr mi mf mg) sz)) 0 0 (va_A (MW cI cJ M mr mi mf mg) sz) := by
  refine mk_met (y := yX12_isBetween) (bytes := cX12_isBetween) (maxL := 9) (avs := [.ref M, .int z_c, .int z_a, .int z_b]) (WS := (MW cI cJ M mr mi mf mg)) (Qf := fun A => va_Qi (fun (r : Int32) (u : Unit) => (0 ≤ r.toInt ∧ r.toInt ≤ 1)) (fun u => QW D cI cJ A ((fun (u : Unit) => (MW cI cJ M mr mi mf mg)) u)) A) (by decide) (Nat.le_of_ble_eq_true rfl) ?_
  intro p e s m below meth c A ls E hr hlk hnm hX hw1 hl2
  have hl3 : lv_has ls 9 [(0, .ref M), (1, .int z_c), (2, .int z_a), (3, .int z_b)] := hl2
  refine lv_iload_n (pc := 0) E.1 E.2.1 dX12_isBetween_0 rfl (lv_at hl3 1 rfl) ?_
  refine lv_bipush (pc := 1) (v := 8) E.1 E.2.1 dX12_isBetween_1 (by decide +kernel) ?_
  refine lv_irem (pc := 3) E.1 E.2.1 dX12_isBetween_3 (by decide +kernel) ?_
  refine lv_topi (fun v_4 ev_4 => ?_)
  refine lv_iload_n (pc := 4) E.1 E.2.1 dX12_isBetween_4 rfl (lv_at hl3 2 rfl) ?_
  refine lv_bipush (pc := 5) (v := 8) E.1 E.2.1 dX12_isBetween_5 (by decide +kernel) ?_
  refine lv_irem (pc := 7) E.1 E.2.1 dX12_isBetween_7 (by decide +kernel) ?_
  refine lv_topi (fun v_5 ev_5 => ?_)
  refine lv_isub (pc := 8) E.1 E.2.1 dX12_isBetween_8 ?_
  refine lv_topi (fun v_6 ev_6 => ?_)
  refine lv_istore (pc := 9) (lv' := [(4, .int v_6), (0, .ref M), (1, .int z_c), (2, .int z_a), (3, .int z_b)]) E.1 E.2.1 dX12_isBetween_9 hl3 (by decide) rfl (fun ls hl7 => ?_)
  refine lv_iload_n (pc := 11) E.1 E.2.1 dX12_isBetween_11 rfl (lv_at hl7 2 rfl) ?_
  refine lv_bipush (pc := 12) (v := 8) E.1 E.2.1 dX12_isBetween_12 (by decide +kernel) ?_
  refine lv_idiv (pc := 14) E.1 E.2.1 dX12_isBetween_14 (by decide +kernel) ?_
  refine lv_topi (fun v_8 ev_8 => ?_)
  refine lv_iload_n (pc := 15) E.1 E.2.1 dX12_isBetween_15 rfl (lv_at hl7 3 rfl) ?_
  refine lv_bipush (pc := 16) (v := 8) E.1 E.2.1 dX12_isBetween_16 (by decide +kernel) ?_
  refine lv_idiv (pc := 18) E.1 E.2.1 dX12_isBetween_18 (by decide +kernel) ?_
  refine lv_topi (fun v_9 ev_9 => ?_)
  refine lv_isub (pc := 19) E.1 E.2.1 dX12_isBetween_19 ?_
  refine lv_topi (fun v_10 ev_10 => ?_)
  refine lv_istore (pc := 20) (lv' := [(5, .int v_10), (4, .int v_6), (0, .ref M), (1, .int z_c), (2, .int z_a), (3, .int z_b)]) E.1 E.2.1 dX12_isBetween_20 hl7 (by decide) rfl (fun ls hl11 => ?_)
  refine lv_iload_n (pc := 22) E.1 E.2.1 dX12_isBetween_22 rfl (lv_at hl11 5 rfl) ?_
  refine lv_bipush (pc := 23) (v := 8) E.1 E.2.1 dX12_isBetween_23 (by decide +kernel) ?_
  refine lv_irem (pc := 25) E.1 E.2.1 dX12_isBetween_25 (by decide +kernel) ?_
  refine lv_topi (fun v_12 ev_12 => ?_)
  refine lv_iload_n (pc := 26) E.1 E.2.1 dX12_isBetween_26 rfl (lv_at hl11 4 rfl) ?_
  refine lv_bipush (pc := 27) (v := 8) E.1 E.2.1 dX12_isBetween_27 (by decide +kernel) ?_
  refine lv_irem (pc := 29) E.1 E.2.1 dX12_isBetween_29 (by decide +kernel) ?_
  refine lv_topi (fun v_13 ev_13 => ?_)
  refine lv_isub (pc := 30) E.1 E.2.1 dX12_isBetween_30 ?_
  refine lv_topi (fun v_14 ev_14 => ?_)
  refine lv_istore (pc := 31) (lv' := [(6, .int v_14), (5, .int v_10), (4, .int v_6), (0, .ref M), (1, .int z_c), (2, .int z_a), (3, .int z_b)]) E.1 E.2.1 dX12_isBetween_31 hl11 (by decide) rfl (fun ls hl15 => ?_)
  refine lv_iload_n (pc := 33) E.1 E.2.1 dX12_isBetween_33 rfl (lv_at hl15 6 rfl) ?_
  refine lv_bipush (pc := 34) (v := 8) E.1 E.2.1 dX12_isBetween_34 (by decide +kernel) ?_
  refine lv_idiv (pc := 36) E.1 E.2.1 dX12_isBetween_36 (by decide +kernel) ?_
  refine lv_topi (fun v_16 ev_16 => ?_)
  refine lv_iload_n (pc := 37) E.1 E.2.1 dX12_isBetween_37 rfl (lv_at hl15 5 rfl) ?_
  refine lv_bipush (pc := 38) (v := 8) E.1 E.2.1 dX12_isBetween_38 (by decide +kernel) ?_
  refine lv_idiv (pc := 40) E.1 E.2.1 dX12_isBetween_40 (by decide +kernel) ?_
  refine lv_topi (fun v_17 ev_17 => ?_)
  refine lv_isub (pc := 41) E.1 E.2.1 dX12_isBetween_41 ?_
  refine lv_topi (fun v_18 ev_18 => ?_)
  refine lv_istore (pc := 42) (lv' := [(7, .int v_18), (6, .int v_14), (5, .int v_10), (4, .int v_6), (0, .ref M), (1, .int z_c), (2, .int z_a), (3, .int z_b)]) E.1 E.2.1 dX12_isBetween_42 hl15 (by decide) rfl (fun ls hl19 => ?_)
  refine lv_iload (pc := 44) E.1 E.2.1 dX12_isBetween_44 (lv_at hl19 3 rfl) ?_
  refine lv_iload (pc := 46) E.1 E.2.1 dX12_isBetween_46 (lv_at hl19 0 rfl) ?_
  refine lv_imul (pc := 48) E.1 E.2.1 dX12_isBetween_48 ?_
  refine lv_topi (fun v_20 ev_20 => ?_)
  refine lv_iload (pc := 49) E.1 E.2.1 dX12_isBetween_49 (lv_at hl19 2 rfl) ?_
  refine lv_iload (pc := 51) E.1 E.2.1 dX12_isBetween_51 (lv_at hl19 1 rfl) ?_
  refine lv_imul (pc := 53) E.1 E.2.1 dX12_isBetween_53 ?_
  refine lv_topi (fun v_21 ev_21 => ?_)
  refine lv_icmp_eq (pc := 54) (tgt := 59) E.1 E.2.1 dX12_isBetween_54 (by decide) (fun c_22 => ?_) (fun c_22 => ?_)
  · skip
    have hc_22 := eqE (a := v_20.toInt) (b := v_21.toInt) rfl rfl c_22
    refine lv_iload (pc := 59) E.1 E.2.1 dX12_isBetween_59 (lv_at hl19 3 rfl) ?_
    refine lv_iload (pc := 61) E.1 E.2.1 dX12_isBetween_61 (lv_at hl19 1 rfl) ?_
    refine lv_imul (pc := 63) E.1 E.2.1 dX12_isBetween_63 ?_
    refine lv_topi (fun v_23 ev_23 => ?_)
    refine lv_iload (pc := 64) E.1 E.2.1 dX12_isBetween_64 (lv_at hl19 2 rfl) ?_
    refine lv_iload (pc := 66) E.1 E.2.1 dX12_isBetween_66 (lv_at hl19 0 rfl) ?_
    refine lv_imul (pc := 68) E.1 E.2.1 dX12_isBetween_68 ?_
    refine lv_topi (fun v_24 ev_24 => ?_)
    refine lv_iadd (pc := 69) E.1 E.2.1 dX12_isBetween_69 ?_
    refine lv_topi (fun v_25 ev_25 => ?_)
    refine lv_istore (pc := 70) (lv' := [(8, .int v_25), (7, .int v_18), (6, .int v_14), (5, .int v_10), (4, .int v_6), (0, .ref M), (1, .int z_c), (2, .int z_a), (3, .int z_b)]) E.1 E.2.1 dX12_isBetween_70 hl19 (by decide) rfl (fun ls hl26 => ?_)
    refine lv_iload (pc := 72) E.1 E.2.1 dX12_isBetween_72 (lv_at hl26 0 rfl) ?_
    refine lv_if_le (pc := 74) (tgt := 97) E.1 E.2.1 dX12_isBetween_74 (by decide) (fun c_27 => ?_) (fun c_27 => ?_)
    · skip
      have hc_27 := leE (a := v_25.toInt) (b := 0) rfl (by decide +kernel) c_27
      refine lv_iconst (pc := 97) (v := 0) E.1 E.2.1 dX12_isBetween_97 (by decide +kernel) ?_
      exact em_z (w1 := (fun (u : Unit) => (MW cI cJ M mr mi mf mg))) E hr hlk () hw1 (by show 0 ≤ (0 : Int32).toInt ∧ (0 : Int32).toInt ≤ 1; have k_0 : (0 : Int32).toInt = 0 := (by decide +kernel); omega) (by decide +kernel) (Nat.le_of_ble_eq_true rfl) (Nat.le_of_ble_eq_true rfl) dX12_isBetween_98
    · skip
      have hc_27 := nleE (a := v_25.toInt) (b := 0) rfl (by decide +kernel) c_27
      refine lv_iload (pc := 77) E.1 E.2.1 dX12_isBetween_77 (lv_at hl26 0 rfl) ?_
      refine lv_iload (pc := 79) E.1 E.2.1 dX12_isBetween_79 (lv_at hl26 2 rfl) ?_
      refine lv_iload (pc := 81) E.1 E.2.1 dX12_isBetween_81 (lv_at hl26 2 rfl) ?_
      refine lv_imul (pc := 83) E.1 E.2.1 dX12_isBetween_83 ?_
      refine lv_topi (fun v_28 ev_28 => ?_)
      refine lv_iload (pc := 84) E.1 E.2.1 dX12_isBetween_84 (lv_at hl26 1 rfl) ?_
      refine lv_iload (pc := 86) E.1 E.2.1 dX12_isBetween_86 (lv_at hl26 1 rfl) ?_
      refine lv_imul (pc := 88) E.1 E.2.1 dX12_isBetween_88 ?_
      refine lv_topi (fun v_29 ev_29 => ?_)
      refine lv_iadd (pc := 89) E.1 E.2.1 dX12_isBetween_89 ?_
      refine lv_topi (fun v_30 ev_30 => ?_)
      refine lv_icmp_ge (pc := 90) (tgt := 97) E.1 E.2.1 dX12_isBetween_90 (by decide) (fun c_31 => ?_) (fun c_31 => ?_)
      · skip
        have hc_31 := leE (a := v_30.toInt) (b := v_25.toInt) rfl rfl c_31
        refine lv_iconst (pc := 97) (v := 0) E.1 E.2.1 dX12_isBetween_97 (by decide +kernel) ?_
        exact em_z (w1 := (fun (u : Unit) => (MW cI cJ M mr mi mf mg))) E hr hlk () hw1 (by show 0 ≤ (0 : Int32).toInt ∧ (0 : Int32).toInt ≤ 1; have k_0 : (0 : Int32).toInt = 0 := (by decide +kernel); omega) (by decide +kernel) (Nat.le_of_ble_eq_true rfl) (Nat.le_of_ble_eq_true rfl) dX12_isBetween_98
      · skip
        have hc_31 := nleE (a := v_30.toInt) (b := v_25.toInt) rfl rfl c_31
        refine lv_iconst (pc := 93) (v := 1) E.1 E.2.1 dX12_isBetween_93 (by decide +kernel) ?_
        refine lv_goto (pc := 94) (tgt := 98) E.1 E.2.1 dX12_isBetween_94 (by decide) ?_
        exact em_z (w1 := (fun (u : Unit) => (MW cI cJ M mr mi mf mg))) E hr hlk () hw1 (by show 0 ≤ (1 : Int32).toInt ∧ (1 : Int32).toInt ≤ 1; have k_0 : (1 : Int32).toInt = 1 := (by decide +kernel); omega) (by decide +kernel) (Nat.le_of_ble_eq_true rfl) (Nat.le_of_ble_eq_true rfl) dX12_isBetween_98
  · skip
    have hc_22 := neE (a := v_20.toInt) (b := v_21.toInt) rfl rfl c_22
    refine lv_iconst (pc := 57) (v := 0) E.1 E.2.1 dX12_isBetween_57 (by decide +kernel) ?_
    exact em_z (w1 := (fun (u : Unit) => (MW cI cJ M mr mi mf mg))) E hr hlk () hw1 (by show 0 ≤ (0 : Int32).toInt ∧ (0 : Int32).toInt ≤ 1; have k_0 : (0 : Int32).toInt = 0 := (by decide +kernel); omega) (by decide +kernel) (Nat.le_of_ble_eq_true rfl) (Nat.le_of_ble_eq_true rfl) dX12_isBetween_58

set_option maxHeartbeats 4000000 in
set_option maxRecDepth 100000 in
theorem s_highest (l : Launch) (D : va_G) (cI cJ : ClassId) (sz M : Nat) (mr : Nat → Nat) (mi : Nat → Int32) (mf : Nat → Nat → Int32) (mg : Nat → Nat → Int64) (z_but : Int32) (h0 : 0 ≤ (mi 6).toInt ∧ (mi 6).toInt ≤ 10) : Met l yX12_highest (Cond.code yX12_highest cX12_highest 4 (some .int) :: GW) ({ frames := 1, cells := 0, slots := 0, locals := 40 } : Room) (va_Pc [.ref M, .int z_but] (PW D cI cJ sz (MW cI cJ M mr mi mf mg) xT)) (va_Qi (fun (r : Int32) (u : Unit) => ((-1) ≤ r.toInt) ∧ (r.toInt ≤ (mi 6).toInt - 1)) (fun u => QW D cI cJ (va_A (MW cI cJ M mr mi mf mg) sz) ((fun (u : Unit) => (MW cI cJ M mr mi mf mg)) u)) (va_A (MW cI cJ M mr mi mf mg) sz)) 0 0 (va_A (MW cI cJ M mr mi mf mg) sz) := by
  refine mk_met (y := yX12_highest) (bytes := cX12_highest) (maxL := 4) (avs := [.ref M, .int z_but]) (WS := (MW cI cJ M mr mi mf mg)) (Qf := fun A => va_Qi (fun (r : Int32) (u : Unit) => ((-1) ≤ r.toInt) ∧ (r.toInt ≤ (mi 6).toInt - 1)) (fun u => QW D cI cJ A ((fun (u : Unit) => (MW cI cJ M mr mi mf mg)) u)) A) (by decide) (Nat.le_of_ble_eq_true rfl) ?_
  intro p e s m below meth c A ls E hr hlk hnm hX hw1 hl2
  have hl3 : lv_has ls 4 [(0, .ref M), (1, .int z_but)] := hl2
  refine lv_iconst (pc := 0) (v := (-1)) E.1 E.2.1 dX12_highest_0 (by decide +kernel) ?_
  refine lv_istore_n (pc := 1) (lv' := [(2, .int (-1)), (0, .ref M), (1, .int z_but)]) E.1 E.2.1 dX12_highest_1 rfl hl3 (by decide) rfl (fun ls hl4 => ?_)
  refine lv_iconst (pc := 2) (v := 0) E.1 E.2.1 dX12_highest_2 (by decide +kernel) ?_
  refine lv_istore_n (pc := 3) (lv' := [(3, .int 0), (2, .int (-1)), (0, .ref M), (1, .int z_but)]) E.1 E.2.1 dX12_highest_3 rfl hl4 (by decide) rfl (fun ls hl5 => ?_)
  have loop_6 : ∀ (k : Nat) (x_7 : Int32) (x_8 : Int32) (H : Heap) (locs : List Loc) (ls : Array Slot), (0 ≤ x_7.toInt ∧ x_7.toInt ≤ (mi 6).toInt) ∧ ((-1) ≤ x_8.toInt) ∧ (x_8.toInt ≤ (mi 6).toInt - 1) → (mi 6).toInt - x_7.toInt < (k : Int) → WD D A s.heap (MW cI cJ M mr mi mf mg) H locs → lv_has ls 4 [(3, .int x_7), (2, .int x_8), (0, .ref M), (1, .int z_but)] → W p l e ({ frames := 1, cells := 0, slots := 0, locals := 40 } : Room) s m ([.ref M, .int z_but] : List Value).toArray below meth c H locs 0 0 (MQ below (va_Qi (fun (r : Int32) (u : Unit) => ((-1) ≤ r.toInt) ∧ (r.toInt ≤ (mi 6).toInt - 1)) (fun u => QW D cI cJ A ((fun (u : Unit) => (MW cI cJ M mr mi mf mg)) u)) A) ([.ref M, .int z_but] : List Value).toArray s 0 0 A) (F0 m 4 ls []) := by
    intro k
    induction k with
    | zero =>
      intro x_7 x_8 _ _ _ hinv hm
      obtain ⟨hi_8_0, hi_8_1, hi_8_2⟩ := hinv
      exact absurd hm (by omega)
    | succ k ih_9 =>
      intro x_7 x_8 H locs ls hinv hm hw10 hl11
      obtain ⟨hi_8_0, hi_8_1, hi_8_2⟩ := hinv
      refine lv_iload_n (pc := 4) E.1 E.2.1 dX12_highest_4 rfl (lv_at hl11 0 rfl) ?_
      refine lv_aload_n (pc := 5) E.1 E.2.1 dX12_highest_5 rfl (lv_at hl11 2 rfl) ?_
      refine x_get (pc := 6) (T := TX12) (N := 70) (ci := 12) (v := .int (mi 6)) E hw10 inX12 0 6 q_1405 rfl rfl (by decide) rfl rfl dX12_highest_6 ?_
      refine lv_icmp_ge (pc := 9) (tgt := 54) E.1 E.2.1 dX12_highest_9 (by decide) (fun c_12 => ?_) (fun c_12 => ?_)
      · skip
        have hc_12 := leE (a := (mi 6).toInt) (b := x_7.toInt) rfl rfl c_12
        refine lv_iload_n (pc := 54) E.1 E.2.1 dX12_highest_54 rfl (lv_at hl11 1 rfl) ?_
        exact em_i (w1 := (fun (u : Unit) => (MW cI cJ M mr mi mf mg))) E hr hlk () hw10 ⟨hi_8_1, hi_8_2⟩ (Nat.le_of_ble_eq_true rfl) (Nat.le_of_ble_eq_true rfl) dX12_highest_55
      · skip
        have hc_12 := nleE (a := (mi 6).toInt) (b := x_7.toInt) rfl rfl c_12
        refine lv_iload_n (pc := 12) E.1 E.2.1 dX12_highest_12 rfl (lv_at hl11 0 rfl) ?_
        refine lv_iload_n (pc := 13) E.1 E.2.1 dX12_highest_13 rfl (lv_at hl11 3 rfl) ?_
        refine lv_icmp_eq (pc := 14) (tgt := 48) E.1 E.2.1 dX12_highest_14 (by decide) (fun c_13 => ?_) (fun c_13 => ?_)
        · skip
          have hc_13 := eqE (a := x_7.toInt) (b := z_but.toInt) rfl rfl c_13
          obtain ⟨v_14, ev_14⟩ : ∃ z : Int32, x_7 + Int32.ofInt (1) = z := ⟨_, rfl⟩
          have hv_14 : v_14.toInt = x_7.toInt + (1) := by rw [← ev_14]; exact incE rfl (by decide) (by omega)
          refine lv_iinc (pc := 48) (v := v_14) (lv' := [(3, .int v_14), (2, .int x_8), (0, .ref M), (1, .int z_but)]) E.1 E.2.1 dX12_highest_48 hl11 (k := 0) rfl ev_14 (by decide) rfl (fun ls hl15 => ?_)
          refine lv_goto (pc := 51) (tgt := 4) E.1 E.2.1 dX12_highest_51 (by decide) ?_
          exact ih_9 v_14 x_8 _ _ _ ⟨(by show 0 ≤ v_14.toInt ∧ v_14.toInt ≤ (mi 6).toInt; omega), hi_8_1, hi_8_2⟩ (by omega) hw10 (lv_sub hl15 [0, 1, 2, 3] rfl)
        · skip
          have hc_13 := neE (a := x_7.toInt) (b := z_but.toInt) rfl rfl c_13
          refine lv_aload_n (pc := 17) E.1 E.2.1 dX12_highest_17 rfl (lv_at hl11 2 rfl) ?_
          refine x_get (pc := 18) (T := TX12) (N := 70) (ci := 12) (v := .ref (mr 9)) E hw10 inX12 0 9 q_1408 rfl rfl (by decide) rfl rfl dX12_highest_18 ?_
          refine lv_iload_n (pc := 21) E.1 E.2.1 dX12_highest_21 rfl (lv_at hl11 0 rfl) ?_
          refine x_iald (pc := 22) (f := (mf 9)) E hw10 6 rfl (inbE (a := x_7.toInt) rfl (by omega)) dX12_highest_22 ?_
          refine lv_topi (fun v_16 ev_16 => ?_)
          refine lv_if_le (pc := 23) (tgt := 48) E.1 E.2.1 dX12_highest_23 (by decide) (fun c_17 => ?_) (fun c_17 => ?_)
          · skip
            have hc_17 := leE (a := v_16.toInt) (b := 0) rfl (by decide +kernel) c_17
            obtain ⟨v_18, ev_18⟩ : ∃ z : Int32, x_7 + Int32.ofInt (1) = z := ⟨_, rfl⟩
            have hv_18 : v_18.toInt = x_7.toInt + (1) := by rw [← ev_18]; exact incE rfl (by decide) (by omega)
            refine lv_iinc (pc := 48) (v := v_18) (lv' := [(3, .int v_18), (2, .int x_8), (0, .ref M), (1, .int z_but)]) E.1 E.2.1 dX12_highest_48 hl11 (k := 0) rfl ev_18 (by decide) rfl (fun ls hl19 => ?_)
            refine lv_goto (pc := 51) (tgt := 4) E.1 E.2.1 dX12_highest_51 (by decide) ?_
            exact ih_9 v_18 x_8 _ _ _ ⟨(by show 0 ≤ v_18.toInt ∧ v_18.toInt ≤ (mi 6).toInt; omega), hi_8_1, hi_8_2⟩ (by omega) hw10 (lv_sub hl19 [0, 1, 2, 3] rfl)
          · skip
            have hc_17 := nleE (a := v_16.toInt) (b := 0) rfl (by decide +kernel) c_17
            refine lv_iload_n (pc := 26) E.1 E.2.1 dX12_highest_26 rfl (lv_at hl11 1 rfl) ?_
            refine lv_iconst (pc := 27) (v := (-1)) E.1 E.2.1 dX12_highest_27 (by decide +kernel) ?_
            refine lv_icmp_eq (pc := 28) (tgt := 46) E.1 E.2.1 dX12_highest_28 (by decide) (fun c_20 => ?_) (fun c_20 => ?_)
            · skip
              have hc_20 := eqE (a := x_8.toInt) (b := (-1)) rfl (by decide +kernel) c_20
              refine lv_iload_n (pc := 46) E.1 E.2.1 dX12_highest_46 rfl (lv_at hl11 0 rfl) ?_
              refine lv_istore_n (pc := 47) (lv' := [(2, .int x_7), (3, .int x_7), (0, .ref M), (1, .int z_but)]) E.1 E.2.1 dX12_highest_47 rfl hl11 (by decide) rfl (fun ls hl21 => ?_)
              obtain ⟨v_22, ev_22⟩ : ∃ z : Int32, x_7 + Int32.ofInt (1) = z := ⟨_, rfl⟩
              have hv_22 : v_22.toInt = x_7.toInt + (1) := by rw [← ev_22]; exact incE rfl (by decide) (by omega)
              refine lv_iinc (pc := 48) (v := v_22) (lv' := [(3, .int v_22), (2, .int x_7), (0, .ref M), (1, .int z_but)]) E.1 E.2.1 dX12_highest_48 hl21 (k := 1) rfl ev_22 (by decide) rfl (fun ls hl23 => ?_)
              refine lv_goto (pc := 51) (tgt := 4) E.1 E.2.1 dX12_highest_51 (by decide) ?_
              exact ih_9 v_22 x_7 _ _ _ ⟨(by show 0 ≤ v_22.toInt ∧ v_22.toInt ≤ (mi 6).toInt; omega), (by show (-1) ≤ x_7.toInt; omega), (by show x_7.toInt ≤ (mi 6).toInt - 1; omega)⟩ (by omega) hw10 (lv_sub hl23 [0, 1, 2, 3] rfl)
            · skip
              have hc_20 := neE (a := x_8.toInt) (b := (-1)) rfl (by decide +kernel) c_20
              refine lv_aload_n (pc := 31) E.1 E.2.1 dX12_highest_31 rfl (lv_at hl11 2 rfl) ?_
              refine x_get (pc := 32) (T := TX12) (N := 70) (ci := 12) (v := .ref (mr 9)) E hw10 inX12 0 9 q_1408 rfl rfl (by decide) rfl rfl dX12_highest_32 ?_
              refine lv_iload_n (pc := 35) E.1 E.2.1 dX12_highest_35 rfl (lv_at hl11 0 rfl) ?_
              refine x_iald (pc := 36) (f := (mf 9)) E hw10 6 rfl (inbE (a := x_7.toInt) rfl (by omega)) dX12_highest_36 ?_
              refine lv_topi (fun v_24 ev_24 => ?_)
              refine lv_aload_n (pc := 37) E.1 E.2.1 dX12_highest_37 rfl (lv_at hl11 2 rfl) ?_
              refine x_get (pc := 38) (T := TX12) (N := 70) (ci := 12) (v := .ref (mr 9)) E hw10 inX12 0 9 q_1408 rfl rfl (by decide) rfl rfl dX12_highest_38 ?_
              refine lv_iload_n (pc := 41) E.1 E.2.1 dX12_highest_41 rfl (lv_at hl11 1 rfl) ?_
              refine x_iald (pc := 42) (f := (mf 9)) E hw10 6 rfl (inbE (a := x_8.toInt) rfl (by omega)) dX12_highest_42 ?_
              refine lv_topi (fun v_25 ev_25 => ?_)
              refine lv_icmp_le (pc := 43) (tgt := 48) E.1 E.2.1 dX12_highest_43 (by decide) (fun c_26 => ?_) (fun c_26 => ?_)
              · skip
                have hc_26 := leE (a := v_24.toInt) (b := v_25.toInt) rfl rfl c_26
                obtain ⟨v_27, ev_27⟩ : ∃ z : Int32, x_7 + Int32.ofInt (1) = z := ⟨_, rfl⟩
                have hv_27 : v_27.toInt = x_7.toInt + (1) := by rw [← ev_27]; exact incE rfl (by decide) (by omega)
                refine lv_iinc (pc := 48) (v := v_27) (lv' := [(3, .int v_27), (2, .int x_8), (0, .ref M), (1, .int z_but)]) E.1 E.2.1 dX12_highest_48 hl11 (k := 0) rfl ev_27 (by decide) rfl (fun ls hl28 => ?_)
                refine lv_goto (pc := 51) (tgt := 4) E.1 E.2.1 dX12_highest_51 (by decide) ?_
                exact ih_9 v_27 x_8 _ _ _ ⟨(by show 0 ≤ v_27.toInt ∧ v_27.toInt ≤ (mi 6).toInt; omega), hi_8_1, hi_8_2⟩ (by omega) hw10 (lv_sub hl28 [0, 1, 2, 3] rfl)
              · skip
                have hc_26 := nleE (a := v_24.toInt) (b := v_25.toInt) rfl rfl c_26
                refine lv_iload_n (pc := 46) E.1 E.2.1 dX12_highest_46 rfl (lv_at hl11 0 rfl) ?_
                refine lv_istore_n (pc := 47) (lv' := [(2, .int x_7), (3, .int x_7), (0, .ref M), (1, .int z_but)]) E.1 E.2.1 dX12_highest_47 rfl hl11 (by decide) rfl (fun ls hl29 => ?_)
                obtain ⟨v_30, ev_30⟩ : ∃ z : Int32, x_7 + Int32.ofInt (1) = z := ⟨_, rfl⟩
                have hv_30 : v_30.toInt = x_7.toInt + (1) := by rw [← ev_30]; exact incE rfl (by decide) (by omega)
                refine lv_iinc (pc := 48) (v := v_30) (lv' := [(3, .int v_30), (2, .int x_7), (0, .ref M), (1, .int z_but)]) E.1 E.2.1 dX12_highest_48 hl29 (k := 1) rfl ev_30 (by decide) rfl (fun ls hl31 => ?_)
                refine lv_goto (pc := 51) (tgt := 4) E.1 E.2.1 dX12_highest_51 (by decide) ?_
                exact ih_9 v_30 x_7 _ _ _ ⟨(by show 0 ≤ v_30.toInt ∧ v_30.toInt ≤ (mi 6).toInt; omega), (by show (-1) ≤ x_7.toInt; omega), (by show x_7.toInt ≤ (mi 6).toInt - 1; omega)⟩ (by omega) hw10 (lv_sub hl31 [0, 1, 2, 3] rfl)
  exact loop_6 (Int.toNat ((mi 6).toInt - 0) + 1) 0 (-1) _ _ _ ⟨(by show 0 ≤ (0 : Int32).toInt ∧ (0 : Int32).toInt ≤ (mi 6).toInt; have k_0 : (0 : Int32).toInt = 0 := (by decide +kernel); omega), (by show (-1) ≤ ((-1) : Int32).toInt; have k_0 : ((-1) : Int32).toInt = -1 := (by decide +kernel); omega), (by show ((-1) : Int32).toInt ≤ (mi 6).toInt - 1; have k_0 : ((-1) : Int32).toInt = -1 := (by decide +kernel); omega)⟩ (by have k_0 : (0 : Int32).toInt = 0 := (by decide +kernel); have k_1 : ((-1) : Int32).toInt = -1 := (by decide +kernel); omega) hw1 (lv_sub hl5 [0, 1, 2, 3] rfl)

set_option maxHeartbeats 4000000 in
set_option maxRecDepth 100000 in
theorem s_liars (l : Launch) (D : va_G) (cI cJ : ClassId) (sz M : Nat) (mr : Nat → Nat) (mi : Nat → Int32) (mf : Nat → Nat → Int32) (mg : Nat → Nat → Int64)  (h0 : 0 ≤ (mi 6).toInt ∧ (mi 6).toInt ≤ 10) : Met l yX12_liars (Cond.code yX12_liars cX12_liars 3 (some .int) :: GW) ({ frames := 1, cells := 0, slots := 0, locals := 40 } : Room) (va_Pc [.ref M] (PW D cI cJ sz (MW cI cJ M mr mi mf mg) xT)) (va_Qi (fun (r : Int32) (u : Int32) => True) (fun u => QW D cI cJ (va_A (MW cI cJ M mr mi mf mg) sz) ((fun (u : Int32) => (MW cI cJ M mr (upd mi 0 u) mf mg)) u)) (va_A (MW cI cJ M mr mi mf mg) sz)) 0 0 (va_A (MW cI cJ M mr mi mf mg) sz) := by
  refine mk_met (y := yX12_liars) (bytes := cX12_liars) (maxL := 3) (avs := [.ref M]) (WS := (MW cI cJ M mr mi mf mg)) (Qf := fun A => va_Qi (fun (r : Int32) (u : Int32) => True) (fun u => QW D cI cJ A ((fun (u : Int32) => (MW cI cJ M mr (upd mi 0 u) mf mg)) u)) A) (by decide) (Nat.le_of_ble_eq_true rfl) ?_
  intro p e s m below meth c A ls E hr hlk hnm hX hw1 hl2
  have hl3 : lv_has ls 3 [(0, .ref M)] := hl2
  refine lv_aload_n (pc := 0) E.1 E.2.1 dX12_liars_0 rfl (lv_at hl3 0 rfl) ?_
  refine lv_iconst (pc := 1) (v := 0) E.1 E.2.1 dX12_liars_1 (by decide +kernel) ?_
  refine x_put (pc := 2) (T := TX12) (N := 70) (ci := 12) (ws' := (MW cI cJ M mr (upd mi 0 0) mf mg)) E hw1 inX12 tyX12_ok nmX12 0 0 q_1399 rfl rfl (by decide) rfl rfl rfl rfl (Nat.le_of_ble_eq_true rfl) rfl dX12_liars_2 (fun H locs hw4 => ?_)
  refine lv_iconst (pc := 5) (v := 0) E.1 E.2.1 dX12_liars_5 (by decide +kernel) ?_
  refine lv_istore_n (pc := 6) (lv' := [(1, .int 0), (0, .ref M)]) E.1 E.2.1 dX12_liars_6 rfl hl3 (by decide) rfl (fun ls hl5 => ?_)
  refine lv_iconst (pc := 7) (v := 0) E.1 E.2.1 dX12_liars_7 (by decide +kernel) ?_
  refine lv_istore_n (pc := 8) (lv' := [(2, .int 0), (1, .int 0), (0, .ref M)]) E.1 E.2.1 dX12_liars_8 rfl hl5 (by decide) rfl (fun ls hl6 => ?_)
  have loop_7 : ∀ (k : Nat) (x_8 : Int32) (x_9 : Int32) (H : Heap) (locs : List Loc) (ls : Array Slot), (0 ≤ x_8.toInt ∧ x_8.toInt ≤ (mi 6).toInt) → (mi 6).toInt - x_8.toInt < (k : Int) → WD D A s.heap (MW cI cJ M mr (upd mi 0 0) mf mg) H locs → lv_has ls 3 [(2, .int x_8), (1, .int x_9), (0, .ref M)] → W p l e ({ frames := 1, cells := 0, slots := 0, locals := 40 } : Room) s m ([.ref M] : List Value).toArray below meth c H locs 0 0 (MQ below (va_Qi (fun (r : Int32) (u : Int32) => True) (fun u => QW D cI cJ A ((fun (u : Int32) => (MW cI cJ M mr (upd mi 0 u) mf mg)) u)) A) ([.ref M] : List Value).toArray s 0 0 A) (F0 m 9 ls []) := by
    intro k
    induction k with
    | zero =>
      intro x_8 x_9 _ _ _ hinv hm
      obtain hi_9_0 := hinv
      exact absurd hm (by omega)
    | succ k ih_10 =>
      intro x_8 x_9 H locs ls hinv hm hw11 hl12
      obtain hi_9_0 := hinv
      refine lv_iload_n (pc := 9) E.1 E.2.1 dX12_liars_9 rfl (lv_at hl12 0 rfl) ?_
      refine lv_aload_n (pc := 10) E.1 E.2.1 dX12_liars_10 rfl (lv_at hl12 2 rfl) ?_
      refine x_get (pc := 11) (T := TX12) (N := 70) (ci := 12) (v := .int (mi 6)) E hw11 inX12 0 6 q_1405 rfl rfl (by decide) rfl rfl dX12_liars_11 ?_
      refine lv_icmp_ge (pc := 14) (tgt := 47) E.1 E.2.1 dX12_liars_14 (by decide) (fun c_13 => ?_) (fun c_13 => ?_)
      · skip
        have hc_13 := leE (a := (mi 6).toInt) (b := x_8.toInt) rfl rfl c_13
        refine lv_iload_n (pc := 47) E.1 E.2.1 dX12_liars_47 rfl (lv_at hl12 1 rfl) ?_
        exact em_i (w1 := (fun (u : Int32) => (MW cI cJ M mr (upd mi 0 u) mf mg))) E hr hlk 0 hw11 trivial (Nat.le_of_ble_eq_true rfl) (Nat.le_of_ble_eq_true rfl) dX12_liars_48
      · skip
        have hc_13 := nleE (a := (mi 6).toInt) (b := x_8.toInt) rfl rfl c_13
        refine lv_aload_n (pc := 17) E.1 E.2.1 dX12_liars_17 rfl (lv_at hl12 2 rfl) ?_
        refine x_get (pc := 18) (T := TX12) (N := 70) (ci := 12) (v := .ref (mr 10)) E hw11 inX12 0 10 q_1409 rfl rfl (by decide) rfl rfl dX12_liars_18 ?_
        refine lv_iload_n (pc := 21) E.1 E.2.1 dX12_liars_21 rfl (lv_at hl12 0 rfl) ?_
        refine x_iald (pc := 22) (f := (mf 10)) E hw11 7 rfl (inbE (a := x_8.toInt) rfl (by omega)) dX12_liars_22 ?_
        refine lv_topi (fun v_14 ev_14 => ?_)
        refine lv_aload_n (pc := 23) E.1 E.2.1 dX12_liars_23 rfl (lv_at hl12 2 rfl) ?_
        refine x_get (pc := 24) (T := TX12) (N := 70) (ci := 12) (v := .ref (mr 1)) E hw11 inX12 0 1 q_1400 rfl rfl (by decide) rfl rfl dX12_liars_24 ?_
        refine lv_bipush (pc := 27) (v := 26) E.1 E.2.1 dX12_liars_27 (by decide +kernel) ?_
        refine lv_iload_n (pc := 29) E.1 E.2.1 dX12_liars_29 rfl (lv_at hl12 0 rfl) ?_
        refine lv_iadd (pc := 30) E.1 E.2.1 dX12_liars_30 ?_
        refine lv_topi (fun v_15 ev_15 => ?_)
        have hv_15 : v_15.toInt = 26 + x_8.toInt := by rw [ev_15]; exact addE (by decide +kernel) rfl (by omega)
        refine x_iald (pc := 31) (f := (mf 1)) E hw11 1 rfl (inbE (a := v_15.toInt) rfl (by omega)) dX12_liars_31 ?_
        refine lv_topi (fun v_16 ev_16 => ?_)
        refine lv_icmp_eq (pc := 32) (tgt := 41) E.1 E.2.1 dX12_liars_32 (by decide) (fun c_17 => ?_) (fun c_17 => ?_)
        · skip
          have hc_17 := eqE (a := v_14.toInt) (b := v_16.toInt) rfl rfl c_17
          obtain ⟨v_18, ev_18⟩ : ∃ z : Int32, x_8 + Int32.ofInt (1) = z := ⟨_, rfl⟩
          have hv_18 : v_18.toInt = x_8.toInt + (1) := by rw [← ev_18]; exact incE rfl (by decide) (by omega)
          refine lv_iinc (pc := 41) (v := v_18) (lv' := [(2, .int v_18), (1, .int x_9), (0, .ref M)]) E.1 E.2.1 dX12_liars_41 hl12 (k := 0) rfl ev_18 (by decide) rfl (fun ls hl19 => ?_)
          refine lv_goto (pc := 44) (tgt := 9) E.1 E.2.1 dX12_liars_44 (by decide) ?_
          exact ih_10 v_18 x_9 _ _ _ (by show 0 ≤ v_18.toInt ∧ v_18.toInt ≤ (mi 6).toInt; omega) (by omega) hw11 (lv_sub hl19 [0, 1, 2] rfl)
        · skip
          have hc_17 := neE (a := v_14.toInt) (b := v_16.toInt) rfl rfl c_17
          refine lv_iload_n (pc := 35) E.1 E.2.1 dX12_liars_35 rfl (lv_at hl12 1 rfl) ?_
          refine lv_iconst (pc := 36) (v := 1) E.1 E.2.1 dX12_liars_36 (by decide +kernel) ?_
          refine lv_iload_n (pc := 37) E.1 E.2.1 dX12_liars_37 rfl (lv_at hl12 0 rfl) ?_
          refine lv_ishl (pc := 38) E.1 E.2.1 dX12_liars_38 ?_
          refine lv_topi (fun v_20 ev_20 => ?_)
          refine lv_ior (pc := 39) E.1 E.2.1 dX12_liars_39 ?_
          refine lv_topi (fun v_21 ev_21 => ?_)
          refine lv_istore_n (pc := 40) (lv' := [(1, .int v_21), (2, .int x_8), (0, .ref M)]) E.1 E.2.1 dX12_liars_40 rfl hl12 (by decide) rfl (fun ls hl22 => ?_)
          obtain ⟨v_23, ev_23⟩ : ∃ z : Int32, x_8 + Int32.ofInt (1) = z := ⟨_, rfl⟩
          have hv_23 : v_23.toInt = x_8.toInt + (1) := by rw [← ev_23]; exact incE rfl (by decide) (by omega)
          refine lv_iinc (pc := 41) (v := v_23) (lv' := [(2, .int v_23), (1, .int v_21), (0, .ref M)]) E.1 E.2.1 dX12_liars_41 hl22 (k := 1) rfl ev_23 (by decide) rfl (fun ls hl24 => ?_)
          refine lv_goto (pc := 44) (tgt := 9) E.1 E.2.1 dX12_liars_44 (by decide) ?_
          exact ih_10 v_23 v_21 _ _ _ (by show 0 ≤ v_23.toInt ∧ v_23.toInt ≤ (mi 6).toInt; omega) (by omega) hw11 (lv_sub hl24 [0, 1, 2] rfl)
  exact loop_7 (Int.toNat ((mi 6).toInt - 0) + 1) 0 0 _ _ _ (by show 0 ≤ (0 : Int32).toInt ∧ (0 : Int32).toInt ≤ (mi 6).toInt; have k_0 : (0 : Int32).toInt = 0 := (by decide +kernel); omega) (by have k_0 : (0 : Int32).toInt = 0 := (by decide +kernel); have k_1 : (0 : Int32).toInt = 0 := (by decide +kernel); omega) hw4 (lv_sub hl6 [0, 1, 2] rfl)

set_option maxHeartbeats 4000000 in
set_option maxRecDepth 100000 in
theorem s_findsFar (l : Launch) (D : va_G) (cI cJ : ClassId) (sz M : Nat) (mr : Nat → Nat) (mi : Nat → Int32) (mf : Nat → Nat → Int32) (mg : Nat → Nat → Int64) (z_snow : Int32) (h0 : 0 ≤ (mi 6).toInt ∧ (mi 6).toInt ≤ 10) (h1 : 0 ≤ (mi 42).toInt ∧ (mi 42).toInt ≤ 40) (a_paths : pathsOK (mf 43)) : Met l yX12_findsFar (Cond.code yX12_findsFar cX12_findsFar 6 none :: GW) ({ frames := 1, cells := 0, slots := 0, locals := 40 } : Room) (va_Pc [.ref M, .int z_snow] (PW D cI cJ sz (MW cI cJ M mr mi mf mg) xT)) (va_Qv (fun (u : (Nat → Int32)) => True) (fun u => QW D cI cJ (va_A (MW cI cJ M mr mi mf mg) sz) ((fun (u : (Nat → Int32)) => (MW cI cJ M mr mi (va_up mf 55 u) mg)) u)) (va_A (MW cI cJ M mr mi mf mg) sz)) 0 0 (va_A (MW cI cJ M mr mi mf mg) sz) := by
  refine mk_met (y := yX12_findsFar) (bytes := cX12_findsFar) (maxL := 6) (avs := [.ref M, .int z_snow]) (WS := (MW cI cJ M mr mi mf mg)) (Qf := fun A => va_Qv (fun (u : (Nat → Int32)) => True) (fun u => QW D cI cJ A ((fun (u : (Nat → Int32)) => (MW cI cJ M mr mi (va_up mf 55 u) mg)) u)) A) (by decide) (Nat.le_of_ble_eq_true rfl) ?_
  intro p e s m below meth c A ls E hr hlk hnm hX hw1 hl2
  have hl3 : lv_has ls 6 [(0, .ref M), (1, .int z_snow)] := hl2
  refine lv_iconst (pc := 0) (v := 0) E.1 E.2.1 dX12_findsFar_0 (by decide +kernel) ?_
  refine lv_istore_n (pc := 1) (lv' := [(2, .int 0), (0, .ref M), (1, .int z_snow)]) E.1 E.2.1 dX12_findsFar_1 rfl hl3 (by decide) rfl (fun ls hl4 => ?_)
  have loop_5 : ∀ (k : Nat) (x_6 : Int32) (g_7 : Nat → Int32) (H : Heap) (locs : List Loc) (ls : Array Slot), (0 ≤ x_6.toInt) ∧ (x_6.toInt ≤ 100) → 100 - x_6.toInt < (k : Int) → WD D A s.heap (MW cI cJ M mr mi (va_up mf 55 g_7) mg) H locs → lv_has ls 6 [(2, .int x_6), (0, .ref M), (1, .int z_snow)] → W p l e ({ frames := 1, cells := 0, slots := 0, locals := 40 } : Room) s m ([.ref M, .int z_snow] : List Value).toArray below meth c H locs 0 0 (MQ below (va_Qv (fun (u : (Nat → Int32)) => True) (fun u => QW D cI cJ A ((fun (u : (Nat → Int32)) => (MW cI cJ M mr mi (va_up mf 55 u) mg)) u)) A) ([.ref M, .int z_snow] : List Value).toArray s 0 0 A) (F0 m 2 ls []) := by
    intro k
    induction k with
    | zero =>
      intro x_6 g_7 _ _ _ hinv hm
      obtain ⟨hi_7_0, hi_7_1⟩ := hinv
      exact absurd hm (by omega)
    | succ k ih_8 =>
      intro x_6 g_7 H locs ls hinv hm hw9 hl10
      obtain ⟨hi_7_0, hi_7_1⟩ := hinv
      refine lv_iload_n (pc := 2) E.1 E.2.1 dX12_findsFar_2 rfl (lv_at hl10 0 rfl) ?_
      refine lv_bipush (pc := 3) (v := 100) E.1 E.2.1 dX12_findsFar_3 (by decide +kernel) ?_
      refine lv_icmp_ge (pc := 5) (tgt := 38) E.1 E.2.1 dX12_findsFar_5 (by decide) (fun c_11 => ?_) (fun c_11 => ?_)
      · skip
        have hc_11 := leE (a := 100) (b := x_6.toInt) (by decide +kernel) rfl c_11
        refine lv_iconst (pc := 38) (v := 0) E.1 E.2.1 dX12_findsFar_38 (by decide +kernel) ?_
        refine lv_istore_n (pc := 39) (lv' := [(2, .int 0), (0, .ref M), (1, .int z_snow)]) E.1 E.2.1 dX12_findsFar_39 rfl hl10 (by decide) rfl (fun ls hl12 => ?_)
        have loop_13 : ∀ (k : Nat) (x_14 : Int32) (g_15 : Nat → Int32) (H : Heap) (locs : List Loc) (ls : Array Slot), (0 ≤ x_14.toInt) ∧ (x_14.toInt ≤ (mi 42).toInt) → (mi 42).toInt - x_14.toInt < (k : Int) → WD D A s.heap (MW cI cJ M mr mi (va_up mf 55 g_15) mg) H locs → lv_has ls 6 [(2, .int x_14), (0, .ref M), (1, .int z_snow)] → W p l e ({ frames := 1, cells := 0, slots := 0, locals := 40 } : Room) s m ([.ref M, .int z_snow] : List Value).toArray below meth c H locs 0 0 (MQ below (va_Qv (fun (u : (Nat → Int32)) => True) (fun u => QW D cI cJ A ((fun (u : (Nat → Int32)) => (MW cI cJ M mr mi (va_up mf 55 u) mg)) u)) A) ([.ref M, .int z_snow] : List Value).toArray s 0 0 A) (F0 m 40 ls []) := by
          intro k
          induction k with
          | zero =>
            intro x_14 g_15 _ _ _ hinv hm
            obtain ⟨hi_15_0, hi_15_1⟩ := hinv
            exact absurd hm (by omega)
          | succ k ih_16 =>
            intro x_14 g_15 H locs ls hinv hm hw17 hl18
            obtain ⟨hi_15_0, hi_15_1⟩ := hinv
            refine lv_iload_n (pc := 40) E.1 E.2.1 dX12_findsFar_40 rfl (lv_at hl18 0 rfl) ?_
            refine lv_aload_n (pc := 41) E.1 E.2.1 dX12_findsFar_41 rfl (lv_at hl18 1 rfl) ?_
            refine x_get (pc := 42) (T := TX12) (N := 70) (ci := 12) (v := .int (mi 42)) E hw17 inX12 0 42 q_1441 rfl rfl (by decide) rfl rfl dX12_findsFar_42 ?_
            refine lv_icmp_ge (pc := 45) (tgt := 168) E.1 E.2.1 dX12_findsFar_45 (by decide) (fun c_19 => ?_) (fun c_19 => ?_)
            · skip
              have hc_19 := leE (a := (mi 42).toInt) (b := x_14.toInt) rfl rfl c_19
              refine lv_iconst (pc := 168) (v := 0) E.1 E.2.1 dX12_findsFar_168 (by decide +kernel) ?_
              refine lv_istore_n (pc := 169) (lv' := [(2, .int 0), (0, .ref M), (1, .int z_snow)]) E.1 E.2.1 dX12_findsFar_169 rfl hl18 (by decide) rfl (fun ls hl20 => ?_)
              have loop_21 : ∀ (k : Nat) (x_22 : Int32) (g_23 : Nat → Int32) (H : Heap) (locs : List Loc) (ls : Array Slot), (0 ≤ x_22.toInt) ∧ (x_22.toInt ≤ (mi 6).toInt) → (mi 6).toInt - x_22.toInt < (k : Int) → WD D A s.heap (MW cI cJ M mr mi (va_up mf 55 g_23) mg) H locs → lv_has ls 6 [(2, .int x_22), (0, .ref M), (1, .int z_snow)] → W p l e ({ frames := 1, cells := 0, slots := 0, locals := 40 } : Room) s m ([.ref M, .int z_snow] : List Value).toArray below meth c H locs 0 0 (MQ below (va_Qv (fun (u : (Nat → Int32)) => True) (fun u => QW D cI cJ A ((fun (u : (Nat → Int32)) => (MW cI cJ M mr mi (va_up mf 55 u) mg)) u)) A) ([.ref M, .int z_snow] : List Value).toArray s 0 0 A) (F0 m 170 ls []) := by
                intro k
                induction k with
                | zero =>
                  intro x_22 g_23 _ _ _ hinv hm
                  obtain ⟨hi_23_0, hi_23_1⟩ := hinv
                  exact absurd hm (by omega)
                | succ k ih_24 =>
                  intro x_22 g_23 H locs ls hinv hm hw25 hl26
                  obtain ⟨hi_23_0, hi_23_1⟩ := hinv
                  refine lv_iload_n (pc := 170) E.1 E.2.1 dX12_findsFar_170 rfl (lv_at hl26 0 rfl) ?_
                  refine lv_aload_n (pc := 171) E.1 E.2.1 dX12_findsFar_171 rfl (lv_at hl26 1 rfl) ?_
                  refine x_get (pc := 172) (T := TX12) (N := 70) (ci := 12) (v := .int (mi 6)) E hw25 inX12 0 6 q_1405 rfl rfl (by decide) rfl rfl dX12_findsFar_172 ?_
                  refine lv_icmp_ge (pc := 175) (tgt := 275) E.1 E.2.1 dX12_findsFar_175 (by decide) (fun c_27 => ?_) (fun c_27 => ?_)
                  · skip
                    have hc_27 := leE (a := (mi 6).toInt) (b := x_22.toInt) rfl rfl c_27
                    exact em_v (w1 := (fun (u : (Nat → Int32)) => (MW cI cJ M mr mi (va_up mf 55 u) mg))) E hr hlk g_23 hw25 trivial (Nat.le_of_ble_eq_true rfl) (Nat.le_of_ble_eq_true rfl) dX12_findsFar_275
                  · skip
                    have hc_27 := nleE (a := (mi 6).toInt) (b := x_22.toInt) rfl rfl c_27
                    refine lv_iconst (pc := 178) (v := 0) E.1 E.2.1 dX12_findsFar_178 (by decide +kernel) ?_
                    refine lv_istore_n (pc := 179) (lv' := [(3, .int 0), (2, .int x_22), (0, .ref M), (1, .int z_snow)]) E.1 E.2.1 dX12_findsFar_179 rfl hl26 (by decide) rfl (fun ls hl28 => ?_)
                    have loop_29 : ∀ (k : Nat) (x_30 : Int32) (g_31 : Nat → Int32) (H : Heap) (locs : List Loc) (ls : Array Slot), (0 ≤ x_30.toInt) ∧ (x_30.toInt ≤ (mi 6).toInt) → (mi 6).toInt - x_30.toInt < (k : Int) → WD D A s.heap (MW cI cJ M mr mi (va_up mf 55 g_31) mg) H locs → lv_has ls 6 [(3, .int x_30), (2, .int x_22), (0, .ref M), (1, .int z_snow)] → W p l e ({ frames := 1, cells := 0, slots := 0, locals := 40 } : Room) s m ([.ref M, .int z_snow] : List Value).toArray below meth c H locs 0 0 (MQ below (va_Qv (fun (u : (Nat → Int32)) => True) (fun u => QW D cI cJ A ((fun (u : (Nat → Int32)) => (MW cI cJ M mr mi (va_up mf 55 u) mg)) u)) A) ([.ref M, .int z_snow] : List Value).toArray s 0 0 A) (F0 m 180 ls []) := by
                      intro k
                      induction k with
                      | zero =>
                        intro x_30 g_31 _ _ _ hinv hm
                        obtain ⟨hi_31_0, hi_31_1⟩ := hinv
                        exact absurd hm (by omega)
                      | succ k ih_32 =>
                        intro x_30 g_31 H locs ls hinv hm hw33 hl34
                        obtain ⟨hi_31_0, hi_31_1⟩ := hinv
                        refine lv_iload_n (pc := 180) E.1 E.2.1 dX12_findsFar_180 rfl (lv_at hl34 0 rfl) ?_
                        refine lv_aload_n (pc := 181) E.1 E.2.1 dX12_findsFar_181 rfl (lv_at hl34 2 rfl) ?_
                        refine x_get (pc := 182) (T := TX12) (N := 70) (ci := 12) (v := .int (mi 6)) E hw33 inX12 0 6 q_1405 rfl rfl (by decide) rfl rfl dX12_findsFar_182 ?_
                        refine lv_icmp_ge (pc := 185) (tgt := 269) E.1 E.2.1 dX12_findsFar_185 (by decide) (fun c_35 => ?_) (fun c_35 => ?_)
                        · skip
                          have hc_35 := leE (a := (mi 6).toInt) (b := x_30.toInt) rfl rfl c_35
                          obtain ⟨v_36, ev_36⟩ : ∃ z : Int32, x_22 + Int32.ofInt (1) = z := ⟨_, rfl⟩
                          have hv_36 : v_36.toInt = x_22.toInt + (1) := by rw [← ev_36]; exact incE rfl (by decide) (by omega)
                          refine lv_iinc (pc := 269) (v := v_36) (lv' := [(2, .int v_36), (3, .int x_30), (0, .ref M), (1, .int z_snow)]) E.1 E.2.1 dX12_findsFar_269 hl34 (k := 1) rfl ev_36 (by decide) rfl (fun ls hl37 => ?_)
                          refine lv_goto (pc := 272) (tgt := 170) E.1 E.2.1 dX12_findsFar_272 (by decide) ?_
                          exact ih_24 v_36 g_31 _ _ _ ⟨(by show 0 ≤ v_36.toInt; omega), (by show v_36.toInt ≤ (mi 6).toInt; omega)⟩ (by omega) hw33 (lv_sub hl37 [0, 2, 3] rfl)
                        · skip
                          have hc_35 := nleE (a := (mi 6).toInt) (b := x_30.toInt) rfl rfl c_35
                          refine lv_iconst (pc := 188) (v := 0) E.1 E.2.1 dX12_findsFar_188 (by decide +kernel) ?_
                          refine lv_istore (pc := 189) (lv' := [(4, .int 0), (3, .int x_30), (2, .int x_22), (0, .ref M), (1, .int z_snow)]) E.1 E.2.1 dX12_findsFar_189 hl34 (by decide) rfl (fun ls hl38 => ?_)
                          have loop_39 : ∀ (k : Nat) (x_40 : Int32) (g_41 : Nat → Int32) (H : Heap) (locs : List Loc) (ls : Array Slot), (0 ≤ x_40.toInt) ∧ (x_40.toInt ≤ (mi 6).toInt) → (mi 6).toInt - x_40.toInt < (k : Int) → WD D A s.heap (MW cI cJ M mr mi (va_up mf 55 g_41) mg) H locs → lv_has ls 6 [(4, .int x_40), (3, .int x_30), (2, .int x_22), (0, .ref M), (1, .int z_snow)] → W p l e ({ frames := 1, cells := 0, slots := 0, locals := 40 } : Room) s m ([.ref M, .int z_snow] : List Value).toArray below meth c H locs 0 0 (MQ below (va_Qv (fun (u : (Nat → Int32)) => True) (fun u => QW D cI cJ A ((fun (u : (Nat → Int32)) => (MW cI cJ M mr mi (va_up mf 55 u) mg)) u)) A) ([.ref M, .int z_snow] : List Value).toArray s 0 0 A) (F0 m 191 ls []) := by
                            intro k
                            induction k with
                            | zero =>
                              intro x_40 g_41 _ _ _ hinv hm
                              obtain ⟨hi_41_0, hi_41_1⟩ := hinv
                              exact absurd hm (by omega)
                            | succ k ih_42 =>
                              intro x_40 g_41 H locs ls hinv hm hw43 hl44
                              obtain ⟨hi_41_0, hi_41_1⟩ := hinv
                              refine lv_iload (pc := 191) E.1 E.2.1 dX12_findsFar_191 (lv_at hl44 0 rfl) ?_
                              refine lv_aload_n (pc := 193) E.1 E.2.1 dX12_findsFar_193 rfl (lv_at hl44 3 rfl) ?_
                              refine x_get (pc := 194) (T := TX12) (N := 70) (ci := 12) (v := .int (mi 6)) E hw43 inX12 0 6 q_1405 rfl rfl (by decide) rfl rfl dX12_findsFar_194 ?_
                              refine lv_icmp_ge (pc := 197) (tgt := 263) E.1 E.2.1 dX12_findsFar_197 (by decide) (fun c_45 => ?_) (fun c_45 => ?_)
                              · skip
                                have hc_45 := leE (a := (mi 6).toInt) (b := x_40.toInt) rfl rfl c_45
                                obtain ⟨v_46, ev_46⟩ : ∃ z : Int32, x_30 + Int32.ofInt (1) = z := ⟨_, rfl⟩
                                have hv_46 : v_46.toInt = x_30.toInt + (1) := by rw [← ev_46]; exact incE rfl (by decide) (by omega)
                                refine lv_iinc (pc := 263) (v := v_46) (lv' := [(3, .int v_46), (4, .int x_40), (2, .int x_22), (0, .ref M), (1, .int z_snow)]) E.1 E.2.1 dX12_findsFar_263 hl44 (k := 1) rfl ev_46 (by decide) rfl (fun ls hl47 => ?_)
                                refine lv_goto (pc := 266) (tgt := 180) E.1 E.2.1 dX12_findsFar_266 (by decide) ?_
                                exact ih_32 v_46 g_41 _ _ _ ⟨(by show 0 ≤ v_46.toInt; omega), (by show v_46.toInt ≤ (mi 6).toInt; omega)⟩ (by omega) hw43 (lv_sub hl47 [0, 2, 3, 4] rfl)
                              · skip
                                have hc_45 := nleE (a := (mi 6).toInt) (b := x_40.toInt) rfl rfl c_45
                                refine lv_aload_n (pc := 200) E.1 E.2.1 dX12_findsFar_200 rfl (lv_at hl44 3 rfl) ?_
                                refine x_get (pc := 201) (T := TX12) (N := 70) (ci := 12) (v := .ref (mr 55)) E hw43 inX12 0 55 q_1454 rfl rfl (by decide) rfl rfl dX12_findsFar_201 ?_
                                refine lv_bipush (pc := 204) (v := 10) E.1 E.2.1 dX12_findsFar_204 (by decide +kernel) ?_
                                refine lv_iload_n (pc := 206) E.1 E.2.1 dX12_findsFar_206 rfl (lv_at hl44 1 rfl) ?_
                                refine lv_imul (pc := 207) E.1 E.2.1 dX12_findsFar_207 ?_
                                refine lv_topi (fun v_48 ev_48 => ?_)
                                have hv_48 : v_48.toInt = 10 * x_30.toInt := by rw [ev_48]; exact mulE (by decide +kernel) rfl (by omega)
                                refine lv_iload_n (pc := 208) E.1 E.2.1 dX12_findsFar_208 rfl (lv_at hl44 2 rfl) ?_
                                refine lv_iadd (pc := 209) E.1 E.2.1 dX12_findsFar_209 ?_
                                refine lv_topi (fun v_49 ev_49 => ?_)
                                have hv_49 : v_49.toInt = v_48.toInt + x_22.toInt := by rw [ev_49]; exact addE rfl rfl (by omega)
                                refine x_iald (pc := 210) (f := g_41) E hw43 30 rfl (inbE (a := v_49.toInt) rfl (by omega)) dX12_findsFar_210 ?_
                                refine lv_topi (fun v_50 ev_50 => ?_)
                                refine lv_aload_n (pc := 211) E.1 E.2.1 dX12_findsFar_211 rfl (lv_at hl44 3 rfl) ?_
                                refine x_get (pc := 212) (T := TX12) (N := 70) (ci := 12) (v := .ref (mr 55)) E hw43 inX12 0 55 q_1454 rfl rfl (by decide) rfl rfl dX12_findsFar_212 ?_
                                refine lv_bipush (pc := 215) (v := 10) E.1 E.2.1 dX12_findsFar_215 (by decide +kernel) ?_
                                refine lv_iload_n (pc := 217) E.1 E.2.1 dX12_findsFar_217 rfl (lv_at hl44 2 rfl) ?_
                                refine lv_imul (pc := 218) E.1 E.2.1 dX12_findsFar_218 ?_
                                refine lv_topi (fun v_51 ev_51 => ?_)
                                have hv_51 : v_51.toInt = 10 * x_22.toInt := by rw [ev_51]; exact mulE (by decide +kernel) rfl (by omega)
                                refine lv_iload (pc := 219) E.1 E.2.1 dX12_findsFar_219 (lv_at hl44 0 rfl) ?_
                                refine lv_iadd (pc := 221) E.1 E.2.1 dX12_findsFar_221 ?_
                                refine lv_topi (fun v_52 ev_52 => ?_)
                                have hv_52 : v_52.toInt = v_51.toInt + x_40.toInt := by rw [ev_52]; exact addE rfl rfl (by omega)
                                refine x_iald (pc := 222) (f := g_41) E hw43 30 rfl (inbE (a := v_52.toInt) rfl (by omega)) dX12_findsFar_222 ?_
                                refine lv_topi (fun v_53 ev_53 => ?_)
                                refine lv_iadd (pc := 223) E.1 E.2.1 dX12_findsFar_223 ?_
                                refine lv_topi (fun v_54 ev_54 => ?_)
                                refine lv_istore (pc := 224) (lv' := [(5, .int v_54), (4, .int x_40), (3, .int x_30), (2, .int x_22), (0, .ref M), (1, .int z_snow)]) E.1 E.2.1 dX12_findsFar_224 hl44 (by decide) rfl (fun ls hl55 => ?_)
                                refine lv_iload (pc := 226) E.1 E.2.1 dX12_findsFar_226 (lv_at hl55 0 rfl) ?_
                                refine lv_aload_n (pc := 228) E.1 E.2.1 dX12_findsFar_228 rfl (lv_at hl55 4 rfl) ?_
                                refine x_get (pc := 229) (T := TX12) (N := 70) (ci := 12) (v := .ref (mr 55)) E hw43 inX12 0 55 q_1454 rfl rfl (by decide) rfl rfl dX12_findsFar_229 ?_
                                refine lv_bipush (pc := 232) (v := 10) E.1 E.2.1 dX12_findsFar_232 (by decide +kernel) ?_
                                refine lv_iload_n (pc := 234) E.1 E.2.1 dX12_findsFar_234 rfl (lv_at hl55 2 rfl) ?_
                                refine lv_imul (pc := 235) E.1 E.2.1 dX12_findsFar_235 ?_
                                refine lv_topi (fun v_56 ev_56 => ?_)
                                have hv_56 : v_56.toInt = 10 * x_30.toInt := by rw [ev_56]; exact mulE (by decide +kernel) rfl (by omega)
                                refine lv_iload (pc := 236) E.1 E.2.1 dX12_findsFar_236 (lv_at hl55 1 rfl) ?_
                                refine lv_iadd (pc := 238) E.1 E.2.1 dX12_findsFar_238 ?_
                                refine lv_topi (fun v_57 ev_57 => ?_)
                                have hv_57 : v_57.toInt = v_56.toInt + x_40.toInt := by rw [ev_57]; exact addE rfl rfl (by omega)
                                refine x_iald (pc := 239) (f := g_41) E hw43 30 rfl (inbE (a := v_57.toInt) rfl (by omega)) dX12_findsFar_239 ?_
                                refine lv_topi (fun v_58 ev_58 => ?_)
                                refine lv_icmp_ge (pc := 240) (tgt := 257) E.1 E.2.1 dX12_findsFar_240 (by decide) (fun c_59 => ?_) (fun c_59 => ?_)
                                · skip
                                  have hc_59 := leE (a := v_58.toInt) (b := v_54.toInt) rfl rfl c_59
                                  obtain ⟨v_60, ev_60⟩ : ∃ z : Int32, x_40 + Int32.ofInt (1) = z := ⟨_, rfl⟩
                                  have hv_60 : v_60.toInt = x_40.toInt + (1) := by rw [← ev_60]; exact incE rfl (by decide) (by omega)
                                  refine lv_iinc (pc := 257) (v := v_60) (lv' := [(4, .int v_60), (5, .int v_54), (3, .int x_30), (2, .int x_22), (0, .ref M), (1, .int z_snow)]) E.1 E.2.1 dX12_findsFar_257 hl55 (k := 1) rfl ev_60 (by decide) rfl (fun ls hl61 => ?_)
                                  refine lv_goto (pc := 260) (tgt := 191) E.1 E.2.1 dX12_findsFar_260 (by decide) ?_
                                  exact ih_42 v_60 g_41 _ _ _ ⟨(by show 0 ≤ v_60.toInt; omega), (by show v_60.toInt ≤ (mi 6).toInt; omega)⟩ (by omega) hw43 (lv_sub hl61 [0, 2, 3, 4, 5] rfl)
                                · skip
                                  have hc_59 := nleE (a := v_58.toInt) (b := v_54.toInt) rfl rfl c_59
                                  refine lv_aload_n (pc := 243) E.1 E.2.1 dX12_findsFar_243 rfl (lv_at hl55 4 rfl) ?_
                                  refine x_get (pc := 244) (T := TX12) (N := 70) (ci := 12) (v := .ref (mr 55)) E hw43 inX12 0 55 q_1454 rfl rfl (by decide) rfl rfl dX12_findsFar_244 ?_
                                  refine lv_bipush (pc := 247) (v := 10) E.1 E.2.1 dX12_findsFar_247 (by decide +kernel) ?_
                                  refine lv_iload_n (pc := 249) E.1 E.2.1 dX12_findsFar_249 rfl (lv_at hl55 2 rfl) ?_
                                  refine lv_imul (pc := 250) E.1 E.2.1 dX12_findsFar_250 ?_
                                  refine lv_topi (fun v_62 ev_62 => ?_)
                                  have hv_62 : v_62.toInt = 10 * x_30.toInt := by rw [ev_62]; exact mulE (by decide +kernel) rfl (by omega)
                                  refine lv_iload (pc := 251) E.1 E.2.1 dX12_findsFar_251 (lv_at hl55 1 rfl) ?_
                                  refine lv_iadd (pc := 253) E.1 E.2.1 dX12_findsFar_253 ?_
                                  refine lv_topi (fun v_63 ev_63 => ?_)
                                  have hv_63 : v_63.toInt = v_62.toInt + x_40.toInt := by rw [ev_63]; exact addE rfl rfl (by omega)
                                  refine lv_iload (pc := 254) E.1 E.2.1 dX12_findsFar_254 (lv_at hl55 0 rfl) ?_
                                  refine x_iastG (pc := 256) (f := g_41) (wf := fun g => (MW cI cJ M mr mi (va_up mf 55 g) mg)) E hw43 30 rfl (inbE (a := v_63.toInt) rfl (by omega)) (fun _ => rfl) dX12_findsFar_256 (fun g_64 H locs eg_64 hw65 => ?_)
                                  obtain ⟨v_66, ev_66⟩ : ∃ z : Int32, x_40 + Int32.ofInt (1) = z := ⟨_, rfl⟩
                                  have hv_66 : v_66.toInt = x_40.toInt + (1) := by rw [← ev_66]; exact incE rfl (by decide) (by omega)
                                  refine lv_iinc (pc := 257) (v := v_66) (lv' := [(4, .int v_66), (5, .int v_54), (3, .int x_30), (2, .int x_22), (0, .ref M), (1, .int z_snow)]) E.1 E.2.1 dX12_findsFar_257 hl55 (k := 1) rfl ev_66 (by decide) rfl (fun ls hl67 => ?_)
                                  refine lv_goto (pc := 260) (tgt := 191) E.1 E.2.1 dX12_findsFar_260 (by decide) ?_
                                  exact ih_42 v_66 g_64 _ _ _ ⟨(by show 0 ≤ v_66.toInt; omega), (by show v_66.toInt ≤ (mi 6).toInt; omega)⟩ (by omega) hw65 (lv_sub hl67 [0, 2, 3, 4, 5] rfl)
                          exact loop_39 (Int.toNat ((mi 6).toInt - 0) + 1) 0 g_31 _ _ _ ⟨(by show 0 ≤ (0 : Int32).toInt; have k_0 : (0 : Int32).toInt = 0 := (by decide +kernel); omega), (by show (0 : Int32).toInt ≤ (mi 6).toInt; have k_0 : (0 : Int32).toInt = 0 := (by decide +kernel); omega)⟩ (by have k_0 : (0 : Int32).toInt = 0 := (by decide +kernel); omega) hw33 (lv_sub hl38 [0, 1, 2, 3, 4] rfl)
                    exact loop_29 (Int.toNat ((mi 6).toInt - 0) + 1) 0 g_23 _ _ _ ⟨(by show 0 ≤ (0 : Int32).toInt; have k_0 : (0 : Int32).toInt = 0 := (by decide +kernel); omega), (by show (0 : Int32).toInt ≤ (mi 6).toInt; have k_0 : (0 : Int32).toInt = 0 := (by decide +kernel); omega)⟩ (by have k_0 : (0 : Int32).toInt = 0 := (by decide +kernel); omega) hw25 (lv_sub hl28 [0, 1, 2, 3] rfl)
              exact loop_21 (Int.toNat ((mi 6).toInt - 0) + 1) 0 g_15 _ _ _ ⟨(by show 0 ≤ (0 : Int32).toInt; have k_0 : (0 : Int32).toInt = 0 := (by decide +kernel); omega), (by show (0 : Int32).toInt ≤ (mi 6).toInt; have k_0 : (0 : Int32).toInt = 0 := (by decide +kernel); omega)⟩ (by have k_0 : (0 : Int32).toInt = 0 := (by decide +kernel); omega) hw17 (lv_sub hl20 [0, 1, 2] rfl)
            · skip
              have hc_19 := nleE (a := (mi 42).toInt) (b := x_14.toInt) rfl rfl c_19
              refine lv_iconst (pc := 48) (v := 4) E.1 E.2.1 dX12_findsFar_48 (by decide +kernel) ?_
              refine lv_iload_n (pc := 49) E.1 E.2.1 dX12_findsFar_49 rfl (lv_at hl18 0 rfl) ?_
              refine lv_imul (pc := 50) E.1 E.2.1 dX12_findsFar_50 ?_
              refine lv_topi (fun v_68 ev_68 => ?_)
              have hv_68 : v_68.toInt = 4 * x_14.toInt := by rw [ev_68]; exact mulE (by decide +kernel) rfl (by omega)
              refine lv_istore_n (pc := 51) (lv' := [(3, .int v_68), (2, .int x_14), (0, .ref M), (1, .int z_snow)]) E.1 E.2.1 dX12_findsFar_51 rfl hl18 (by decide) rfl (fun ls hl69 => ?_)
              refine lv_iload_n (pc := 52) E.1 E.2.1 dX12_findsFar_52 rfl (lv_at hl69 3 rfl) ?_
              refine lv_aload_n (pc := 53) E.1 E.2.1 dX12_findsFar_53 rfl (lv_at hl69 2 rfl) ?_
              refine x_get (pc := 54) (T := TX12) (N := 70) (ci := 12) (v := .ref (mr 43)) E hw17 inX12 0 43 q_1442 rfl rfl (by decide) rfl rfl dX12_findsFar_54 ?_
              refine lv_iload_n (pc := 57) E.1 E.2.1 dX12_findsFar_57 rfl (lv_at hl69 0 rfl) ?_
              refine lv_iconst (pc := 58) (v := 3) E.1 E.2.1 dX12_findsFar_58 (by decide +kernel) ?_
              refine lv_iadd (pc := 59) E.1 E.2.1 dX12_findsFar_59 ?_
              refine lv_topi (fun v_70 ev_70 => ?_)
              have hv_70 : v_70.toInt = v_68.toInt + 3 := by rw [ev_70]; exact addE rfl (by decide +kernel) (by omega)
              refine x_iald (pc := 60) (f := (mf 43)) E hw17 21 rfl (inbE (a := v_70.toInt) rfl (by omega)) dX12_findsFar_60 ?_
              refine lv_topi (fun v_71 ev_71 => ?_)
              refine lv_icmp_le (pc := 61) (tgt := 67) E.1 E.2.1 dX12_findsFar_61 (by decide) (fun c_72 => ?_) (fun c_72 => ?_)
              · skip
                have hc_72 := leE (a := z_snow.toInt) (b := v_71.toInt) rfl rfl c_72
                refine lv_bipush (pc := 67) (v := 10) E.1 E.2.1 dX12_findsFar_67 (by decide +kernel) ?_
                refine lv_aload_n (pc := 69) E.1 E.2.1 dX12_findsFar_69 rfl (lv_at hl69 2 rfl) ?_
                refine x_get (pc := 70) (T := TX12) (N := 70) (ci := 12) (v := .ref (mr 43)) E hw17 inX12 0 43 q_1442 rfl rfl (by decide) rfl rfl dX12_findsFar_70 ?_
                refine lv_iload_n (pc := 73) E.1 E.2.1 dX12_findsFar_73 rfl (lv_at hl69 0 rfl) ?_
                refine lv_iconst (pc := 74) (v := 0) E.1 E.2.1 dX12_findsFar_74 (by decide +kernel) ?_
                refine lv_iadd (pc := 75) E.1 E.2.1 dX12_findsFar_75 ?_
                refine lv_topi (fun v_73 ev_73 => ?_)
                have hv_73 : v_73.toInt = v_68.toInt + 0 := by rw [ev_73]; exact addE rfl (by decide +kernel) (by omega)
                refine x_iald (pc := 76) (f := (mf 43)) E hw17 21 rfl (inbE (a := v_73.toInt) rfl (by omega)) dX12_findsFar_76 ?_
                refine lv_topi (fun v_74 ev_74 => ?_)
                have hbv_74 := pathsOK_0 a_paths ev_74 (x := x_14) (by omega) (by omega)
                refine lv_imul (pc := 77) E.1 E.2.1 dX12_findsFar_77 ?_
                refine lv_topi (fun v_75 ev_75 => ?_)
                have hv_75 : v_75.toInt = 10 * v_74.toInt := by rw [ev_75]; exact mulE (by decide +kernel) rfl (by omega)
                refine lv_aload_n (pc := 78) E.1 E.2.1 dX12_findsFar_78 rfl (lv_at hl69 2 rfl) ?_
                refine x_get (pc := 79) (T := TX12) (N := 70) (ci := 12) (v := .ref (mr 43)) E hw17 inX12 0 43 q_1442 rfl rfl (by decide) rfl rfl dX12_findsFar_79 ?_
                refine lv_iload_n (pc := 82) E.1 E.2.1 dX12_findsFar_82 rfl (lv_at hl69 0 rfl) ?_
                refine lv_iconst (pc := 83) (v := 1) E.1 E.2.1 dX12_findsFar_83 (by decide +kernel) ?_
                refine lv_iadd (pc := 84) E.1 E.2.1 dX12_findsFar_84 ?_
                refine lv_topi (fun v_76 ev_76 => ?_)
                have hv_76 : v_76.toInt = v_68.toInt + 1 := by rw [ev_76]; exact addE rfl (by decide +kernel) (by omega)
                refine x_iald (pc := 85) (f := (mf 43)) E hw17 21 rfl (inbE (a := v_76.toInt) rfl (by omega)) dX12_findsFar_85 ?_
                refine lv_topi (fun v_77 ev_77 => ?_)
                have hbv_77 := pathsOK_1 a_paths ev_77 (x := x_14) (by omega) (by omega)
                refine lv_iadd (pc := 86) E.1 E.2.1 dX12_findsFar_86 ?_
                refine lv_topi (fun v_78 ev_78 => ?_)
                have hv_78 : v_78.toInt = v_75.toInt + v_77.toInt := by rw [ev_78]; exact addE rfl rfl (by omega)
                refine lv_istore (pc := 87) (lv' := [(4, .int v_78), (3, .int v_68), (2, .int x_14), (0, .ref M), (1, .int z_snow)]) E.1 E.2.1 dX12_findsFar_87 hl69 (by decide) rfl (fun ls hl79 => ?_)
                refine lv_bipush (pc := 89) (v := 10) E.1 E.2.1 dX12_findsFar_89 (by decide +kernel) ?_
                refine lv_aload_n (pc := 91) E.1 E.2.1 dX12_findsFar_91 rfl (lv_at hl79 3 rfl) ?_
                refine x_get (pc := 92) (T := TX12) (N := 70) (ci := 12) (v := .ref (mr 43)) E hw17 inX12 0 43 q_1442 rfl rfl (by decide) rfl rfl dX12_findsFar_92 ?_
                refine lv_iload_n (pc := 95) E.1 E.2.1 dX12_findsFar_95 rfl (lv_at hl79 1 rfl) ?_
                refine lv_iconst (pc := 96) (v := 1) E.1 E.2.1 dX12_findsFar_96 (by decide +kernel) ?_
                refine lv_iadd (pc := 97) E.1 E.2.1 dX12_findsFar_97 ?_
                refine lv_topi (fun v_80 ev_80 => ?_)
                have hv_80 : v_80.toInt = v_68.toInt + 1 := by rw [ev_80]; exact addE rfl (by decide +kernel) (by omega)
                refine x_iald (pc := 98) (f := (mf 43)) E hw17 21 rfl (inbE (a := v_80.toInt) rfl (by omega)) dX12_findsFar_98 ?_
                refine lv_topi (fun v_81 ev_81 => ?_)
                have hbv_81 := pathsOK_1 a_paths ev_81 (x := x_14) (by omega) (by omega)
                refine lv_imul (pc := 99) E.1 E.2.1 dX12_findsFar_99 ?_
                refine lv_topi (fun v_82 ev_82 => ?_)
                have hv_82 : v_82.toInt = 10 * v_81.toInt := by rw [ev_82]; exact mulE (by decide +kernel) rfl (by omega)
                refine lv_aload_n (pc := 100) E.1 E.2.1 dX12_findsFar_100 rfl (lv_at hl79 3 rfl) ?_
                refine x_get (pc := 101) (T := TX12) (N := 70) (ci := 12) (v := .ref (mr 43)) E hw17 inX12 0 43 q_1442 rfl rfl (by decide) rfl rfl dX12_findsFar_101 ?_
                refine lv_iload_n (pc := 104) E.1 E.2.1 dX12_findsFar_104 rfl (lv_at hl79 1 rfl) ?_
                refine lv_iconst (pc := 105) (v := 0) E.1 E.2.1 dX12_findsFar_105 (by decide +kernel) ?_
                refine lv_iadd (pc := 106) E.1 E.2.1 dX12_findsFar_106 ?_
                refine lv_topi (fun v_83 ev_83 => ?_)
                have hv_83 : v_83.toInt = v_68.toInt + 0 := by rw [ev_83]; exact addE rfl (by decide +kernel) (by omega)
                refine x_iald (pc := 107) (f := (mf 43)) E hw17 21 rfl (inbE (a := v_83.toInt) rfl (by omega)) dX12_findsFar_107 ?_
                refine lv_topi (fun v_84 ev_84 => ?_)
                have hbv_84 := pathsOK_0 a_paths ev_84 (x := x_14) (by omega) (by omega)
                refine lv_iadd (pc := 108) E.1 E.2.1 dX12_findsFar_108 ?_
                refine lv_topi (fun v_85 ev_85 => ?_)
                have hv_85 : v_85.toInt = v_82.toInt + v_84.toInt := by rw [ev_85]; exact addE rfl rfl (by omega)
                refine lv_istore (pc := 109) (lv' := [(5, .int v_85), (4, .int v_78), (3, .int v_68), (2, .int x_14), (0, .ref M), (1, .int z_snow)]) E.1 E.2.1 dX12_findsFar_109 hl79 (by decide) rfl (fun ls hl86 => ?_)
                refine lv_aload_n (pc := 111) E.1 E.2.1 dX12_findsFar_111 rfl (lv_at hl86 4 rfl) ?_
                refine x_get (pc := 112) (T := TX12) (N := 70) (ci := 12) (v := .ref (mr 43)) E hw17 inX12 0 43 q_1442 rfl rfl (by decide) rfl rfl dX12_findsFar_112 ?_
                refine lv_iload_n (pc := 115) E.1 E.2.1 dX12_findsFar_115 rfl (lv_at hl86 2 rfl) ?_
                refine lv_iconst (pc := 116) (v := 2) E.1 E.2.1 dX12_findsFar_116 (by decide +kernel) ?_
                refine lv_iadd (pc := 117) E.1 E.2.1 dX12_findsFar_117 ?_
                refine lv_topi (fun v_87 ev_87 => ?_)
                have hv_87 : v_87.toInt = v_68.toInt + 2 := by rw [ev_87]; exact addE rfl (by decide +kernel) (by omega)
                refine x_iald (pc := 118) (f := (mf 43)) E hw17 21 rfl (inbE (a := v_87.toInt) rfl (by omega)) dX12_findsFar_118 ?_
                refine lv_topi (fun v_88 ev_88 => ?_)
                refine lv_aload_n (pc := 119) E.1 E.2.1 dX12_findsFar_119 rfl (lv_at hl86 4 rfl) ?_
                refine x_get (pc := 120) (T := TX12) (N := 70) (ci := 12) (v := .ref (mr 55)) E hw17 inX12 0 55 q_1454 rfl rfl (by decide) rfl rfl dX12_findsFar_120 ?_
                refine lv_iload (pc := 123) E.1 E.2.1 dX12_findsFar_123 (lv_at hl86 1 rfl) ?_
                refine x_iald (pc := 125) (f := g_15) E hw17 30 rfl (inbE (a := v_78.toInt) rfl (by omega)) dX12_findsFar_125 ?_
                refine lv_topi (fun v_89 ev_89 => ?_)
                refine lv_icmp_lt (pc := 126) (tgt := 132) E.1 E.2.1 dX12_findsFar_126 (by decide) (fun c_90 => ?_) (fun c_90 => ?_)
                · skip
                  have hc_90 := ltE (a := v_88.toInt) (b := v_89.toInt) rfl rfl c_90
                  refine lv_aload_n (pc := 132) E.1 E.2.1 dX12_findsFar_132 rfl (lv_at hl86 4 rfl) ?_
                  refine x_get (pc := 133) (T := TX12) (N := 70) (ci := 12) (v := .ref (mr 55)) E hw17 inX12 0 55 q_1454 rfl rfl (by decide) rfl rfl dX12_findsFar_133 ?_
                  refine lv_iload (pc := 136) E.1 E.2.1 dX12_findsFar_136 (lv_at hl86 1 rfl) ?_
                  refine lv_aload_n (pc := 138) E.1 E.2.1 dX12_findsFar_138 rfl (lv_at hl86 4 rfl) ?_
                  refine x_get (pc := 139) (T := TX12) (N := 70) (ci := 12) (v := .ref (mr 43)) E hw17 inX12 0 43 q_1442 rfl rfl (by decide) rfl rfl dX12_findsFar_139 ?_
                  refine lv_iload_n (pc := 142) E.1 E.2.1 dX12_findsFar_142 rfl (lv_at hl86 2 rfl) ?_
                  refine lv_iconst (pc := 143) (v := 2) E.1 E.2.1 dX12_findsFar_143 (by decide +kernel) ?_
                  refine lv_iadd (pc := 144) E.1 E.2.1 dX12_findsFar_144 ?_
                  refine lv_topi (fun v_91 ev_91 => ?_)
                  have hv_91 : v_91.toInt = v_68.toInt + 2 := by rw [ev_91]; exact addE rfl (by decide +kernel) (by omega)
                  refine x_iald (pc := 145) (f := (mf 43)) E hw17 21 rfl (inbE (a := v_91.toInt) rfl (by omega)) dX12_findsFar_145 ?_
                  refine lv_topi (fun v_92 ev_92 => ?_)
                  refine x_iastG (pc := 146) (f := g_15) (wf := fun g => (MW cI cJ M mr mi (va_up mf 55 g) mg)) E hw17 30 rfl (inbE (a := v_78.toInt) rfl (by omega)) (fun _ => rfl) dX12_findsFar_146 (fun g_93 H locs eg_93 hw94 => ?_)
                  refine lv_aload_n (pc := 147) E.1 E.2.1 dX12_findsFar_147 rfl (lv_at hl86 4 rfl) ?_
                  refine x_get (pc := 148) (T := TX12) (N := 70) (ci := 12) (v := .ref (mr 55)) E hw94 inX12 0 55 q_1454 rfl rfl (by decide) rfl rfl dX12_findsFar_148 ?_
                  refine lv_iload (pc := 151) E.1 E.2.1 dX12_findsFar_151 (lv_at hl86 0 rfl) ?_
                  refine lv_aload_n (pc := 153) E.1 E.2.1 dX12_findsFar_153 rfl (lv_at hl86 4 rfl) ?_
                  refine x_get (pc := 154) (T := TX12) (N := 70) (ci := 12) (v := .ref (mr 43)) E hw94 inX12 0 43 q_1442 rfl rfl (by decide) rfl rfl dX12_findsFar_154 ?_
                  refine lv_iload_n (pc := 157) E.1 E.2.1 dX12_findsFar_157 rfl (lv_at hl86 2 rfl) ?_
                  refine lv_iconst (pc := 158) (v := 2) E.1 E.2.1 dX12_findsFar_158 (by decide +kernel) ?_
                  refine lv_iadd (pc := 159) E.1 E.2.1 dX12_findsFar_159 ?_
                  refine lv_topi (fun v_95 ev_95 => ?_)
                  have hv_95 : v_95.toInt = v_68.toInt + 2 := by rw [ev_95]; exact addE rfl (by decide +kernel) (by omega)
                  refine x_iald (pc := 160) (f := (mf 43)) E hw94 21 rfl (inbE (a := v_95.toInt) rfl (by omega)) dX12_findsFar_160 ?_
                  refine lv_topi (fun v_96 ev_96 => ?_)
                  refine x_iastG (pc := 161) (f := g_93) (wf := fun g => (MW cI cJ M mr mi (va_up mf 55 g) mg)) E hw94 30 rfl (inbE (a := v_85.toInt) rfl (by omega)) (fun _ => rfl) dX12_findsFar_161 (fun g_97 H locs eg_97 hw98 => ?_)
                  obtain ⟨v_99, ev_99⟩ : ∃ z : Int32, x_14 + Int32.ofInt (1) = z := ⟨_, rfl⟩
                  have hv_99 : v_99.toInt = x_14.toInt + (1) := by rw [← ev_99]; exact incE rfl (by decide) (by omega)
                  refine lv_iinc (pc := 162) (v := v_99) (lv' := [(2, .int v_99), (5, .int v_85), (4, .int v_78), (3, .int v_68), (0, .ref M), (1, .int z_snow)]) E.1 E.2.1 dX12_findsFar_162 hl86 (k := 3) rfl ev_99 (by decide) rfl (fun ls hl100 => ?_)
                  refine lv_goto (pc := 165) (tgt := 40) E.1 E.2.1 dX12_findsFar_165 (by decide) ?_
                  exact ih_16 v_99 g_97 _ _ _ ⟨(by show 0 ≤ v_99.toInt; omega), (by show v_99.toInt ≤ (mi 42).toInt; omega)⟩ (by omega) hw98 (lv_sub hl100 [0, 4, 5] rfl)
                · skip
                  have hc_90 := nltE (a := v_88.toInt) (b := v_89.toInt) rfl rfl c_90
                  refine lv_goto (pc := 129) (tgt := 162) E.1 E.2.1 dX12_findsFar_129 (by decide) ?_
                  obtain ⟨v_101, ev_101⟩ : ∃ z : Int32, x_14 + Int32.ofInt (1) = z := ⟨_, rfl⟩
                  have hv_101 : v_101.toInt = x_14.toInt + (1) := by rw [← ev_101]; exact incE rfl (by decide) (by omega)
                  refine lv_iinc (pc := 162) (v := v_101) (lv' := [(2, .int v_101), (5, .int v_85), (4, .int v_78), (3, .int v_68), (0, .ref M), (1, .int z_snow)]) E.1 E.2.1 dX12_findsFar_162 hl86 (k := 3) rfl ev_101 (by decide) rfl (fun ls hl102 => ?_)
                  refine lv_goto (pc := 165) (tgt := 40) E.1 E.2.1 dX12_findsFar_165 (by decide) ?_
                  exact ih_16 v_101 g_15 _ _ _ ⟨(by show 0 ≤ v_101.toInt; omega), (by show v_101.toInt ≤ (mi 42).toInt; omega)⟩ (by omega) hw17 (lv_sub hl102 [0, 4, 5] rfl)
              · skip
                have hc_72 := nleE (a := z_snow.toInt) (b := v_71.toInt) rfl rfl c_72
                refine lv_goto (pc := 64) (tgt := 162) E.1 E.2.1 dX12_findsFar_64 (by decide) ?_
                obtain ⟨v_103, ev_103⟩ : ∃ z : Int32, x_14 + Int32.ofInt (1) = z := ⟨_, rfl⟩
                have hv_103 : v_103.toInt = x_14.toInt + (1) := by rw [← ev_103]; exact incE rfl (by decide) (by omega)
                refine lv_iinc (pc := 162) (v := v_103) (lv' := [(2, .int v_103), (3, .int v_68), (0, .ref M), (1, .int z_snow)]) E.1 E.2.1 dX12_findsFar_162 hl69 (k := 1) rfl ev_103 (by decide) rfl (fun ls hl104 => ?_)
                refine lv_goto (pc := 165) (tgt := 40) E.1 E.2.1 dX12_findsFar_165 (by decide) ?_
                exact ih_16 v_103 g_15 _ _ _ ⟨(by show 0 ≤ v_103.toInt; omega), (by show v_103.toInt ≤ (mi 42).toInt; omega)⟩ (by omega) hw17 (lv_sub hl104 [0, 2, 3] rfl)
        exact loop_13 (Int.toNat ((mi 42).toInt - 0) + 1) 0 g_7 _ _ _ ⟨(by show 0 ≤ (0 : Int32).toInt; have k_0 : (0 : Int32).toInt = 0 := (by decide +kernel); omega), (by show (0 : Int32).toInt ≤ (mi 42).toInt; have k_0 : (0 : Int32).toInt = 0 := (by decide +kernel); omega)⟩ (by have k_0 : (0 : Int32).toInt = 0 := (by decide +kernel); omega) hw9 (lv_sub hl12 [0, 1, 2] rfl)
      · skip
        have hc_11 := nleE (a := 100) (b := x_6.toInt) (by decide +kernel) rfl c_11
        refine lv_aload_n (pc := 8) E.1 E.2.1 dX12_findsFar_8 rfl (lv_at hl10 1 rfl) ?_
        refine x_get (pc := 9) (T := TX12) (N := 70) (ci := 12) (v := .ref (mr 55)) E hw9 inX12 0 55 q_1454 rfl rfl (by decide) rfl rfl dX12_findsFar_9 ?_
        refine lv_iload_n (pc := 12) E.1 E.2.1 dX12_findsFar_12 rfl (lv_at hl10 0 rfl) ?_
        refine lv_iload_n (pc := 13) E.1 E.2.1 dX12_findsFar_13 rfl (lv_at hl10 0 rfl) ?_
        refine lv_bipush (pc := 14) (v := 10) E.1 E.2.1 dX12_findsFar_14 (by decide +kernel) ?_
        refine lv_idiv (pc := 16) E.1 E.2.1 dX12_findsFar_16 (by decide +kernel) ?_
        refine lv_topi (fun v_105 ev_105 => ?_)
        refine lv_iload_n (pc := 17) E.1 E.2.1 dX12_findsFar_17 rfl (lv_at hl10 0 rfl) ?_
        refine lv_bipush (pc := 18) (v := 10) E.1 E.2.1 dX12_findsFar_18 (by decide +kernel) ?_
        refine lv_irem (pc := 20) E.1 E.2.1 dX12_findsFar_20 (by decide +kernel) ?_
        refine lv_topi (fun v_106 ev_106 => ?_)
        refine lv_icmp_ne (pc := 21) (tgt := 28) E.1 E.2.1 dX12_findsFar_21 (by decide) (fun c_107 => ?_) (fun c_107 => ?_)
        · skip
          have hc_107 := neE (a := v_105.toInt) (b := v_106.toInt) rfl rfl c_107
          refine lv_ldcw (pc := 28) (v := 100000) E.1 E.2.1 E.2.2.2.1 (E.2.2.2.2.1 _ q_1826) dX12_findsFar_28 ?_
          refine x_iastG (pc := 31) (f := g_7) (wf := fun g => (MW cI cJ M mr mi (va_up mf 55 g) mg)) E hw9 30 rfl (inbE (a := x_6.toInt) rfl (by omega)) (fun _ => rfl) dX12_findsFar_31 (fun g_108 H locs eg_108 hw109 => ?_)
          obtain ⟨v_110, ev_110⟩ : ∃ z : Int32, x_6 + Int32.ofInt (1) = z := ⟨_, rfl⟩
          have hv_110 : v_110.toInt = x_6.toInt + (1) := by rw [← ev_110]; exact incE rfl (by decide) (by omega)
          refine lv_iinc (pc := 32) (v := v_110) (lv' := [(2, .int v_110), (0, .ref M), (1, .int z_snow)]) E.1 E.2.1 dX12_findsFar_32 hl10 (k := 0) rfl ev_110 (by decide) rfl (fun ls hl111 => ?_)
          refine lv_goto (pc := 35) (tgt := 2) E.1 E.2.1 dX12_findsFar_35 (by decide) ?_
          exact ih_8 v_110 g_108 _ _ _ ⟨(by show 0 ≤ v_110.toInt; omega), (by show v_110.toInt ≤ 100; omega)⟩ (by omega) hw109 (lv_sub hl111 [0, 1, 2] rfl)
        · skip
          have hc_107 := eqE (a := v_105.toInt) (b := v_106.toInt) rfl rfl c_107
          refine lv_iconst (pc := 24) (v := 0) E.1 E.2.1 dX12_findsFar_24 (by decide +kernel) ?_
          refine lv_goto (pc := 25) (tgt := 31) E.1 E.2.1 dX12_findsFar_25 (by decide) ?_
          refine x_iastG (pc := 31) (f := g_7) (wf := fun g => (MW cI cJ M mr mi (va_up mf 55 g) mg)) E hw9 30 rfl (inbE (a := x_6.toInt) rfl (by omega)) (fun _ => rfl) dX12_findsFar_31 (fun g_112 H locs eg_112 hw113 => ?_)
          obtain ⟨v_114, ev_114⟩ : ∃ z : Int32, x_6 + Int32.ofInt (1) = z := ⟨_, rfl⟩
          have hv_114 : v_114.toInt = x_6.toInt + (1) := by rw [← ev_114]; exact incE rfl (by decide) (by omega)
          refine lv_iinc (pc := 32) (v := v_114) (lv' := [(2, .int v_114), (0, .ref M), (1, .int z_snow)]) E.1 E.2.1 dX12_findsFar_32 hl10 (k := 0) rfl ev_114 (by decide) rfl (fun ls hl115 => ?_)
          refine lv_goto (pc := 35) (tgt := 2) E.1 E.2.1 dX12_findsFar_35 (by decide) ?_
          exact ih_8 v_114 g_112 _ _ _ ⟨(by show 0 ≤ v_114.toInt; omega), (by show v_114.toInt ≤ 100; omega)⟩ (by omega) hw113 (lv_sub hl115 [0, 1, 2] rfl)
  exact loop_5 (Int.toNat (100 - 0) + 1) 0 (mf 55) _ _ _ ⟨(by show 0 ≤ (0 : Int32).toInt; have k_0 : (0 : Int32).toInt = 0 := (by decide +kernel); omega), (by show (0 : Int32).toInt ≤ 100; have k_0 : (0 : Int32).toInt = 0 := (by decide +kernel); omega)⟩ (by have k_0 : (0 : Int32).toInt = 0 := (by decide +kernel); omega) hw1 (lv_sub hl4 [0, 1, 2] rfl)

set_option maxHeartbeats 4000000 in
set_option maxRecDepth 100000 in
theorem s_isOpen (l : Launch) (D : va_G) (cI cJ : ClassId) (sz M : Nat) (mr : Nat → Nat) (mi : Nat → Int32) (mf : Nat → Nat → Int32) (mg : Nat → Nat → Int64) (z_i : Int32) (h0 : 0 ≤ z_i.toInt ∧ z_i.toInt ≤ 9) : Met l yX12_isOpen (Cond.code yX12_isOpen cX12_isOpen 2 (some .boolean) :: GW) ({ frames := 2, cells := 0, slots := 0, locals := 63 } : Room) (va_Pc [.ref M, .int z_i] (PW D cI cJ sz (MW cI cJ M mr mi mf mg) xT)) (va_Qi (fun (r : Int32) (u : Unit) => (0 ≤ r.toInt ∧ r.toInt ≤ 1)) (fun u => QW D cI cJ (va_A (MW cI cJ M mr mi mf mg) sz) ((fun (u : Unit) => (MW cI cJ M mr mi mf mg)) u)) (va_A (MW cI cJ M mr mi mf mg) sz)) 0 0 (va_A (MW cI cJ M mr mi mf mg) sz) := by
  refine mk_met (y := yX12_isOpen) (bytes := cX12_isOpen) (maxL := 2) (avs := [.ref M, .int z_i]) (WS := (MW cI cJ M mr mi mf mg)) (Qf := fun A => va_Qi (fun (r : Int32) (u : Unit) => (0 ≤ r.toInt ∧ r.toInt ≤ 1)) (fun u => QW D cI cJ A ((fun (u : Unit) => (MW cI cJ M mr mi mf mg)) u)) A) (by decide) (Nat.le_of_ble_eq_true rfl) ?_
  intro p e s m below meth c A ls E hr hlk hnm hX hw1 hl2
  have hl3 : lv_has ls 2 [(0, .ref M), (1, .int z_i)] := hl2
  refine lv_aload_n (pc := 0) E.1 E.2.1 dX12_isOpen_0 rfl (lv_at hl3 0 rfl) ?_
  refine x_get (pc := 1) (T := TX12) (N := 70) (ci := 12) (v := .ref (mr 1)) E hw1 inX12 0 1 q_1400 rfl rfl (by decide) rfl rfl dX12_isOpen_1 ?_
  refine lv_bipush (pc := 4) (v := 46) E.1 E.2.1 dX12_isOpen_4 (by decide +kernel) ?_
  refine lv_iload_n (pc := 6) E.1 E.2.1 dX12_isOpen_6 rfl (lv_at hl3 1 rfl) ?_
  refine lv_iadd (pc := 7) E.1 E.2.1 dX12_isOpen_7 ?_
  refine lv_topi (fun v_4 ev_4 => ?_)
  have hv_4 : v_4.toInt = 46 + z_i.toInt := by rw [ev_4]; exact addE (by decide +kernel) rfl (by omega)
  refine x_iald (pc := 8) (f := (mf 1)) E hw1 1 rfl (inbE (a := v_4.toInt) rfl (by omega)) dX12_isOpen_8 ?_
  refine lv_topi (fun v_5 ev_5 => ?_)
  refine lv_if_ne (pc := 9) (tgt := 53) E.1 E.2.1 dX12_isOpen_9 (by decide) (fun c_6 => ?_) (fun c_6 => ?_)
  · skip
    have hc_6 := neE (a := v_5.toInt) (b := 0) rfl (by decide +kernel) c_6
    refine lv_iconst (pc := 53) (v := 0) E.1 E.2.1 dX12_isOpen_53 (by decide +kernel) ?_
    exact em_z (w1 := (fun (u : Unit) => (MW cI cJ M mr mi mf mg))) E hr hlk () hw1 (by show 0 ≤ (0 : Int32).toInt ∧ (0 : Int32).toInt ≤ 1; have k_0 : (0 : Int32).toInt = 0 := (by decide +kernel); omega) (by decide +kernel) (Nat.le_of_ble_eq_true rfl) (Nat.le_of_ble_eq_true rfl) dX12_isOpen_54
  · skip
    have hc_6 := eqE (a := v_5.toInt) (b := 0) rfl (by decide +kernel) c_6
    refine lv_aload_n (pc := 12) E.1 E.2.1 dX12_isOpen_12 rfl (lv_at hl3 0 rfl) ?_
    refine x_get (pc := 13) (T := TX12) (N := 70) (ci := 12) (v := .ref (mr 1)) E hw1 inX12 0 1 q_1400 rfl rfl (by decide) rfl rfl dX12_isOpen_13 ?_
    refine lv_bipush (pc := 16) (v := 56) E.1 E.2.1 dX12_isOpen_16 (by decide +kernel) ?_
    refine lv_iload_n (pc := 18) E.1 E.2.1 dX12_isOpen_18 rfl (lv_at hl3 1 rfl) ?_
    refine lv_iadd (pc := 19) E.1 E.2.1 dX12_isOpen_19 ?_
    refine lv_topi (fun v_7 ev_7 => ?_)
    have hv_7 : v_7.toInt = 56 + z_i.toInt := by rw [ev_7]; exact addE (by decide +kernel) rfl (by omega)
    refine x_iald (pc := 20) (f := (mf 1)) E hw1 1 rfl (inbE (a := v_7.toInt) rfl (by omega)) dX12_isOpen_20 ?_
    refine lv_topi (fun v_8 ev_8 => ?_)
    refine lv_if_ne (pc := 21) (tgt := 53) E.1 E.2.1 dX12_isOpen_21 (by decide) (fun c_9 => ?_) (fun c_9 => ?_)
    · skip
      have hc_9 := neE (a := v_8.toInt) (b := 0) rfl (by decide +kernel) c_9
      refine lv_iconst (pc := 53) (v := 0) E.1 E.2.1 dX12_isOpen_53 (by decide +kernel) ?_
      exact em_z (w1 := (fun (u : Unit) => (MW cI cJ M mr mi mf mg))) E hr hlk () hw1 (by show 0 ≤ (0 : Int32).toInt ∧ (0 : Int32).toInt ≤ 1; have k_0 : (0 : Int32).toInt = 0 := (by decide +kernel); omega) (by decide +kernel) (Nat.le_of_ble_eq_true rfl) (Nat.le_of_ble_eq_true rfl) dX12_isOpen_54
    · skip
      have hc_9 := eqE (a := v_8.toInt) (b := 0) rfl (by decide +kernel) c_9
      refine lv_aload_n (pc := 24) E.1 E.2.1 dX12_isOpen_24 rfl (lv_at hl3 0 rfl) ?_
      refine lv_aload_n (pc := 25) E.1 E.2.1 dX12_isOpen_25 rfl (lv_at hl3 0 rfl) ?_
      refine x_get (pc := 26) (T := TX12) (N := 70) (ci := 12) (v := .ref (mr 1)) E hw1 inX12 0 1 q_1400 rfl rfl (by decide) rfl rfl dX12_isOpen_26 ?_
      refine lv_iconst (pc := 29) (v := 0) E.1 E.2.1 dX12_isOpen_29 (by decide +kernel) ?_
      refine x_iald (pc := 30) (f := (mf 1)) E hw1 1 rfl (inbE (a := 0) (by decide +kernel) (by omega)) dX12_isOpen_30 ?_
      refine lv_topi (fun v_10 ev_10 => ?_)
      refine lv_aload_n (pc := 31) E.1 E.2.1 dX12_isOpen_31 rfl (lv_at hl3 0 rfl) ?_
      refine lv_iload_n (pc := 32) E.1 E.2.1 dX12_isOpen_32 rfl (lv_at hl3 1 rfl) ?_
      refine lv_iconst (pc := 33) (v := 2) E.1 E.2.1 dX12_isOpen_33 (by decide +kernel) ?_
      refine cm_i (pc := 34) hw1 (rn_M (As := [.int z_i, .int 2]) (rest := [.int v_10, .ref M]) E hw1 (s_ofNeed l D cI cJ _ M mr mi mf mg z_i 2 h0 (by show 0 ≤ (2 : Int32).toInt ∧ (2 : Int32).toInt ≤ 4; have k_0 : (2 : Int32).toInt = 2 := (by decide +kernel); omega)) (gdV q_1871 q_1873 q_100 q_162 q_1874) hdV_X12_ofNeed ⟨rfl, rfl⟩ ⟨(Nat.le_of_ble_eq_true rfl), (Nat.le_of_ble_eq_true rfl)⟩ ⟨(Nat.le_of_ble_eq_true rfl), (Nat.le_of_ble_eq_true rfl)⟩ 12 rfl rfl rfl rfl hl3.1 rfl (Nat.le_of_ble_eq_true rfl) dX12_isOpen_34) (fun r_12 u_11 H1 locs hp hw13 => ?_)
      generalize H1 = H at hw13 ⊢
      have hw14 : WD D A s.heap (MW cI cJ M mr mi mf mg) H locs := hw13
      refine lv_aload_n (pc := 37) E.1 E.2.1 dX12_isOpen_37 rfl (lv_at hl3 0 rfl) ?_
      refine lv_iload_n (pc := 38) E.1 E.2.1 dX12_isOpen_38 rfl (lv_at hl3 1 rfl) ?_
      refine lv_iconst (pc := 39) (v := 3) E.1 E.2.1 dX12_isOpen_39 (by decide +kernel) ?_
      refine cm_i (pc := 40) hw14 (rn_M (As := [.int z_i, .int 3]) (rest := [.int r_12, .int v_10, .ref M]) E hw14 (s_ofNeed l D cI cJ _ M mr mi mf mg z_i 3 h0 (by show 0 ≤ (3 : Int32).toInt ∧ (3 : Int32).toInt ≤ 4; have k_0 : (3 : Int32).toInt = 3 := (by decide +kernel); omega)) (gdV q_1871 q_1873 q_100 q_162 q_1874) hdV_X12_ofNeed ⟨rfl, rfl⟩ ⟨(Nat.le_of_ble_eq_true rfl), (Nat.le_of_ble_eq_true rfl)⟩ ⟨(Nat.le_of_ble_eq_true rfl), (Nat.le_of_ble_eq_true rfl)⟩ 12 rfl rfl rfl rfl hl3.1 rfl (Nat.le_of_ble_eq_true rfl) dX12_isOpen_40) (fun r_16 u_15 H1 locs hp hw17 => ?_)
      generalize H1 = H at hw17 ⊢
      have hw18 : WD D A s.heap (MW cI cJ M mr mi mf mg) H locs := hw17
      refine cm_i (pc := 43) hw18 (rn_M (As := [.int v_10, .int r_12, .int r_16]) (rest := []) E hw18 (s_isIn l D cI cJ _ M mr mi mf mg v_10 r_12 r_16) (gdV q_1622 q_1624 q_46 q_162 q_1625) hdV_X12_isIn ⟨rfl, rfl⟩ ⟨(Nat.le_of_ble_eq_true rfl), (Nat.le_of_ble_eq_true rfl)⟩ ⟨(Nat.le_of_ble_eq_true rfl), (Nat.le_of_ble_eq_true rfl)⟩ 12 rfl rfl rfl rfl hl3.1 rfl (Nat.le_of_ble_eq_true rfl) dX12_isOpen_43) (fun r_20 u_19 H1 locs hp hw21 => ?_)
      generalize H1 = H at hw21 ⊢
      have hw22 : WD D A s.heap (MW cI cJ M mr mi mf mg) H locs := hw21
      have hp_23 := hp
      rcases hp_23 with ⟨rfl, ha_24⟩ | ⟨rfl, ha_25⟩ | ⟨rfl, ha_26, ha_27⟩
      · skip
        have ha_24 : v_10.toInt < r_12.toInt := ha_24
        refine lv_if_eq (pc := 46) (tgt := 53) E.1 E.2.1 dX12_isOpen_46 (by decide) (fun _ => ?_) (fun c_28 => absurd (meqE (a := 0) (b := 0) (by decide +kernel) (by decide +kernel) (by omega)) c_28)
        refine lv_iconst (pc := 53) (v := 0) E.1 E.2.1 dX12_isOpen_53 (by decide +kernel) ?_
        exact em_z (w1 := (fun (u : Unit) => (MW cI cJ M mr mi mf mg))) E hr hlk () hw22 (by show 0 ≤ (0 : Int32).toInt ∧ (0 : Int32).toInt ≤ 1; have k_0 : (0 : Int32).toInt = 0 := (by decide +kernel); omega) (by decide +kernel) (Nat.le_of_ble_eq_true rfl) (Nat.le_of_ble_eq_true rfl) dX12_isOpen_54
      · skip
        have ha_25 : r_16.toInt < v_10.toInt := ha_25
        refine lv_if_eq (pc := 46) (tgt := 53) E.1 E.2.1 dX12_isOpen_46 (by decide) (fun _ => ?_) (fun c_29 => absurd (meqE (a := 0) (b := 0) (by decide +kernel) (by decide +kernel) (by omega)) c_29)
        refine lv_iconst (pc := 53) (v := 0) E.1 E.2.1 dX12_isOpen_53 (by decide +kernel) ?_
        exact em_z (w1 := (fun (u : Unit) => (MW cI cJ M mr mi mf mg))) E hr hlk () hw22 (by show 0 ≤ (0 : Int32).toInt ∧ (0 : Int32).toInt ≤ 1; have k_0 : (0 : Int32).toInt = 0 := (by decide +kernel); omega) (by decide +kernel) (Nat.le_of_ble_eq_true rfl) (Nat.le_of_ble_eq_true rfl) dX12_isOpen_54
      · skip
        have ha_26 : r_12.toInt ≤ v_10.toInt := ha_26
        have ha_27 : v_10.toInt ≤ r_16.toInt := ha_27
        refine lv_if_eq (pc := 46) (tgt := 53) E.1 E.2.1 dX12_isOpen_46 (by decide) (fun c_30 => absurd c_30 (mneE (a := 1) (b := 0) (by decide +kernel) (by decide +kernel) (by omega))) (fun _ => ?_)
        refine lv_iconst (pc := 49) (v := 1) E.1 E.2.1 dX12_isOpen_49 (by decide +kernel) ?_
        refine lv_goto (pc := 50) (tgt := 54) E.1 E.2.1 dX12_isOpen_50 (by decide) ?_
        exact em_z (w1 := (fun (u : Unit) => (MW cI cJ M mr mi mf mg))) E hr hlk () hw22 (by show 0 ≤ (1 : Int32).toInt ∧ (1 : Int32).toInt ≤ 1; have k_0 : (1 : Int32).toInt = 1 := (by decide +kernel); omega) (by decide +kernel) (Nat.le_of_ble_eq_true rfl) (Nat.le_of_ble_eq_true rfl) dX12_isOpen_54

set_option maxHeartbeats 4000000 in
set_option maxRecDepth 100000 in
theorem s_worthAt (l : Launch) (D : va_G) (cI cJ : ClassId) (sz M : Nat) (mr : Nat → Nat) (mi : Nat → Int32) (mf : Nat → Nat → Int32) (mg : Nat → Nat → Int64) (z_h : Int32) (h0 : 0 ≤ (mi 44).toInt ∧ (mi 44).toInt ≤ 10) : Met l yX12_worthAt (Cond.code yX12_worthAt cX12_worthAt 4 (some .int) :: GW) ({ frames := 3, cells := 0, slots := 0, locals := 84 } : Room) (va_Pc [.ref M, .int z_h] (PW D cI cJ sz (MW cI cJ M mr mi mf mg) xT)) (va_Qi (fun (r : Int32) (u : Unit) => True) (fun u => QW D cI cJ (va_A (MW cI cJ M mr mi mf mg) sz) ((fun (u : Unit) => (MW cI cJ M mr mi mf mg)) u)) (va_A (MW cI cJ M mr mi mf mg) sz)) 0 0 (va_A (MW cI cJ M mr mi mf mg) sz) := by
  refine mk_met (y := yX12_worthAt) (bytes := cX12_worthAt) (maxL := 4) (avs := [.ref M, .int z_h]) (WS := (MW cI cJ M mr mi mf mg)) (Qf := fun A => va_Qi (fun (r : Int32) (u : Unit) => True) (fun u => QW D cI cJ A ((fun (u : Unit) => (MW cI cJ M mr mi mf mg)) u)) A) (by decide) (Nat.le_of_ble_eq_true rfl) ?_
  intro p e s m below meth c A ls E hr hlk hnm hX hw1 hl2
  have hl3 : lv_has ls 4 [(0, .ref M), (1, .int z_h)] := hl2
  refine lv_iconst (pc := 0) (v := 0) E.1 E.2.1 dX12_worthAt_0 (by decide +kernel) ?_
  refine lv_istore_n (pc := 1) (lv' := [(2, .int 0), (0, .ref M), (1, .int z_h)]) E.1 E.2.1 dX12_worthAt_1 rfl hl3 (by decide) rfl (fun ls hl4 => ?_)
  refine lv_iconst (pc := 2) (v := 0) E.1 E.2.1 dX12_worthAt_2 (by decide +kernel) ?_
  refine lv_istore_n (pc := 3) (lv' := [(3, .int 0), (2, .int 0), (0, .ref M), (1, .int z_h)]) E.1 E.2.1 dX12_worthAt_3 rfl hl4 (by decide) rfl (fun ls hl5 => ?_)
  have loop_6 : ∀ (k : Nat) (x_7 : Int32) (x_8 : Int32) (H : Heap) (locs : List Loc) (ls : Array Slot), (0 ≤ x_7.toInt) ∧ (x_7.toInt ≤ (mi 44).toInt) → (mi 44).toInt - x_7.toInt < (k : Int) → WD D A s.heap (MW cI cJ M mr mi mf mg) H locs → lv_has ls 4 [(3, .int x_7), (2, .int x_8), (0, .ref M), (1, .int z_h)] → W p l e ({ frames := 3, cells := 0, slots := 0, locals := 84 } : Room) s m ([.ref M, .int z_h] : List Value).toArray below meth c H locs 0 0 (MQ below (va_Qi (fun (r : Int32) (u : Unit) => True) (fun u => QW D cI cJ A ((fun (u : Unit) => (MW cI cJ M mr mi mf mg)) u)) A) ([.ref M, .int z_h] : List Value).toArray s 0 0 A) (F0 m 4 ls []) := by
    intro k
    induction k with
    | zero =>
      intro x_7 x_8 _ _ _ hinv hm
      obtain ⟨hi_8_0, hi_8_1⟩ := hinv
      exact absurd hm (by omega)
    | succ k ih_9 =>
      intro x_7 x_8 H locs ls hinv hm hw10 hl11
      obtain ⟨hi_8_0, hi_8_1⟩ := hinv
      refine lv_iload_n (pc := 4) E.1 E.2.1 dX12_worthAt_4 rfl (lv_at hl11 0 rfl) ?_
      refine lv_aload_n (pc := 5) E.1 E.2.1 dX12_worthAt_5 rfl (lv_at hl11 2 rfl) ?_
      refine x_get (pc := 6) (T := TX12) (N := 70) (ci := 12) (v := .int (mi 44)) E hw10 inX12 0 44 q_1443 rfl rfl (by decide) rfl rfl dX12_worthAt_6 ?_
      refine lv_icmp_ge (pc := 9) (tgt := 45) E.1 E.2.1 dX12_worthAt_9 (by decide) (fun c_12 => ?_) (fun c_12 => ?_)
      · skip
        have hc_12 := leE (a := (mi 44).toInt) (b := x_7.toInt) rfl rfl c_12
        refine lv_iload_n (pc := 45) E.1 E.2.1 dX12_worthAt_45 rfl (lv_at hl11 1 rfl) ?_
        exact em_i (w1 := (fun (u : Unit) => (MW cI cJ M mr mi mf mg))) E hr hlk () hw10 trivial (Nat.le_of_ble_eq_true rfl) (Nat.le_of_ble_eq_true rfl) dX12_worthAt_46
      · skip
        have hc_12 := nleE (a := (mi 44).toInt) (b := x_7.toInt) rfl rfl c_12
        refine lv_aload_n (pc := 12) E.1 E.2.1 dX12_worthAt_12 rfl (lv_at hl11 2 rfl) ?_
        refine lv_iload_n (pc := 13) E.1 E.2.1 dX12_worthAt_13 rfl (lv_at hl11 0 rfl) ?_
        refine lv_iconst (pc := 14) (v := 1) E.1 E.2.1 dX12_worthAt_14 (by decide +kernel) ?_
        refine cm_i (pc := 15) hw10 (rn_M (As := [.int x_7, .int 1]) (rest := []) E hw10 (s_ofNeed l D cI cJ _ M mr mi mf mg x_7 1 (by show 0 ≤ x_7.toInt ∧ x_7.toInt ≤ 9; omega) (by show 0 ≤ (1 : Int32).toInt ∧ (1 : Int32).toInt ≤ 4; have k_0 : (1 : Int32).toInt = 1 := (by decide +kernel); omega)) (gdV q_1871 q_1873 q_100 q_162 q_1874) hdV_X12_ofNeed ⟨rfl, rfl⟩ ⟨(Nat.le_of_ble_eq_true rfl), (Nat.le_of_ble_eq_true rfl)⟩ ⟨(Nat.le_of_ble_eq_true rfl), (Nat.le_of_ble_eq_true rfl)⟩ 12 rfl rfl rfl rfl hl11.1 rfl (Nat.le_of_ble_eq_true rfl) dX12_worthAt_15) (fun r_14 u_13 H1 locs hp hw15 => ?_)
        generalize H1 = H at hw15 ⊢
        have hw16 : WD D A s.heap (MW cI cJ M mr mi mf mg) H locs := hw15
        refine lv_iload_n (pc := 18) E.1 E.2.1 dX12_worthAt_18 rfl (lv_at hl11 3 rfl) ?_
        refine lv_icmp_ne (pc := 19) (tgt := 39) E.1 E.2.1 dX12_worthAt_19 (by decide) (fun c_17 => ?_) (fun c_17 => ?_)
        · skip
          have hc_17 := neE (a := r_14.toInt) (b := z_h.toInt) rfl rfl c_17
          obtain ⟨v_18, ev_18⟩ : ∃ z : Int32, x_7 + Int32.ofInt (1) = z := ⟨_, rfl⟩
          have hv_18 : v_18.toInt = x_7.toInt + (1) := by rw [← ev_18]; exact incE rfl (by decide) (by omega)
          refine lv_iinc (pc := 39) (v := v_18) (lv' := [(3, .int v_18), (2, .int x_8), (0, .ref M), (1, .int z_h)]) E.1 E.2.1 dX12_worthAt_39 hl11 (k := 0) rfl ev_18 (by decide) rfl (fun ls hl19 => ?_)
          refine lv_goto (pc := 42) (tgt := 4) E.1 E.2.1 dX12_worthAt_42 (by decide) ?_
          exact ih_9 v_18 x_8 _ _ _ ⟨(by show 0 ≤ v_18.toInt; omega), (by show v_18.toInt ≤ (mi 44).toInt; omega)⟩ (by omega) hw16 (lv_sub hl19 [0, 1, 2, 3] rfl)
        · skip
          have hc_17 := eqE (a := r_14.toInt) (b := z_h.toInt) rfl rfl c_17
          refine lv_aload_n (pc := 22) E.1 E.2.1 dX12_worthAt_22 rfl (lv_at hl11 2 rfl) ?_
          refine lv_iload_n (pc := 23) E.1 E.2.1 dX12_worthAt_23 rfl (lv_at hl11 0 rfl) ?_
          refine cm_i (pc := 24) hw16 (rn_M (As := [.int x_7]) (rest := []) E hw16 (s_isOpen l D cI cJ _ M mr mi mf mg x_7 (by show 0 ≤ x_7.toInt ∧ x_7.toInt ≤ 9; omega)) (gdV q_1875 q_1877 q_101 q_162 q_1878) hdV_X12_isOpen ⟨rfl, rfl⟩ ⟨(Nat.le_of_ble_eq_true rfl), (Nat.le_of_ble_eq_true rfl)⟩ ⟨(Nat.le_of_ble_eq_true rfl), (Nat.le_of_ble_eq_true rfl)⟩ 12 rfl rfl rfl rfl hl11.1 rfl (Nat.le_of_ble_eq_true rfl) dX12_worthAt_24) (fun r_21 u_20 H1 locs hp hw22 => ?_)
          generalize H1 = H at hw22 ⊢
          have hw23 : WD D A s.heap (MW cI cJ M mr mi mf mg) H locs := hw22
          have hp_24 := hp
          have hp_24 : 0 ≤ r_21.toInt ∧ r_21.toInt ≤ 1 := hp_24
          refine lv_if_eq (pc := 27) (tgt := 39) E.1 E.2.1 dX12_worthAt_27 (by decide) (fun c_25 => ?_) (fun c_25 => ?_)
          · skip
            have hc_25 := eqE (a := r_21.toInt) (b := 0) rfl (by decide +kernel) c_25
            obtain ⟨v_26, ev_26⟩ : ∃ z : Int32, x_7 + Int32.ofInt (1) = z := ⟨_, rfl⟩
            have hv_26 : v_26.toInt = x_7.toInt + (1) := by rw [← ev_26]; exact incE rfl (by decide) (by omega)
            refine lv_iinc (pc := 39) (v := v_26) (lv' := [(3, .int v_26), (2, .int x_8), (0, .ref M), (1, .int z_h)]) E.1 E.2.1 dX12_worthAt_39 hl11 (k := 0) rfl ev_26 (by decide) rfl (fun ls hl27 => ?_)
            refine lv_goto (pc := 42) (tgt := 4) E.1 E.2.1 dX12_worthAt_42 (by decide) ?_
            exact ih_9 v_26 x_8 _ _ _ ⟨(by show 0 ≤ v_26.toInt; omega), (by show v_26.toInt ≤ (mi 44).toInt; omega)⟩ (by omega) hw23 (lv_sub hl27 [0, 1, 2, 3] rfl)
          · skip
            have hc_25 := neE (a := r_21.toInt) (b := 0) rfl (by decide +kernel) c_25
            refine lv_iload_n (pc := 30) E.1 E.2.1 dX12_worthAt_30 rfl (lv_at hl11 1 rfl) ?_
            refine lv_aload_n (pc := 31) E.1 E.2.1 dX12_worthAt_31 rfl (lv_at hl11 2 rfl) ?_
            refine lv_iload_n (pc := 32) E.1 E.2.1 dX12_worthAt_32 rfl (lv_at hl11 0 rfl) ?_
            refine lv_iconst (pc := 33) (v := 4) E.1 E.2.1 dX12_worthAt_33 (by decide +kernel) ?_
            refine cm_i (pc := 34) hw23 (rn_M (As := [.int x_7, .int 4]) (rest := [.int x_8]) E hw23 (s_ofNeed l D cI cJ _ M mr mi mf mg x_7 4 (by show 0 ≤ x_7.toInt ∧ x_7.toInt ≤ 9; omega) (by show 0 ≤ (4 : Int32).toInt ∧ (4 : Int32).toInt ≤ 4; have k_0 : (4 : Int32).toInt = 4 := (by decide +kernel); omega)) (gdV q_1871 q_1873 q_100 q_162 q_1874) hdV_X12_ofNeed ⟨rfl, rfl⟩ ⟨(Nat.le_of_ble_eq_true rfl), (Nat.le_of_ble_eq_true rfl)⟩ ⟨(Nat.le_of_ble_eq_true rfl), (Nat.le_of_ble_eq_true rfl)⟩ 12 rfl rfl rfl rfl hl11.1 rfl (Nat.le_of_ble_eq_true rfl) dX12_worthAt_34) (fun r_29 u_28 H1 locs hp hw30 => ?_)
            generalize H1 = H at hw30 ⊢
            have hw31 : WD D A s.heap (MW cI cJ M mr mi mf mg) H locs := hw30
            refine lv_iadd (pc := 37) E.1 E.2.1 dX12_worthAt_37 ?_
            refine lv_topi (fun v_32 ev_32 => ?_)
            refine lv_istore_n (pc := 38) (lv' := [(2, .int v_32), (3, .int x_7), (0, .ref M), (1, .int z_h)]) E.1 E.2.1 dX12_worthAt_38 rfl hl11 (by decide) rfl (fun ls hl33 => ?_)
            obtain ⟨v_34, ev_34⟩ : ∃ z : Int32, x_7 + Int32.ofInt (1) = z := ⟨_, rfl⟩
            have hv_34 : v_34.toInt = x_7.toInt + (1) := by rw [← ev_34]; exact incE rfl (by decide) (by omega)
            refine lv_iinc (pc := 39) (v := v_34) (lv' := [(3, .int v_34), (2, .int v_32), (0, .ref M), (1, .int z_h)]) E.1 E.2.1 dX12_worthAt_39 hl33 (k := 1) rfl ev_34 (by decide) rfl (fun ls hl35 => ?_)
            refine lv_goto (pc := 42) (tgt := 4) E.1 E.2.1 dX12_worthAt_42 (by decide) ?_
            exact ih_9 v_34 v_32 _ _ _ ⟨(by show 0 ≤ v_34.toInt; omega), (by show v_34.toInt ≤ (mi 44).toInt; omega)⟩ (by omega) hw31 (lv_sub hl35 [0, 1, 2, 3] rfl)
  exact loop_6 (Int.toNat ((mi 44).toInt - 0) + 1) 0 0 _ _ _ ⟨(by show 0 ≤ (0 : Int32).toInt; have k_0 : (0 : Int32).toInt = 0 := (by decide +kernel); omega), (by show (0 : Int32).toInt ≤ (mi 44).toInt; have k_0 : (0 : Int32).toInt = 0 := (by decide +kernel); omega)⟩ (by have k_0 : (0 : Int32).toInt = 0 := (by decide +kernel); have k_1 : (0 : Int32).toInt = 0 := (by decide +kernel); omega) hw1 (lv_sub hl5 [0, 1, 2, 3] rfl)

set_option maxHeartbeats 4000000 in
set_option maxRecDepth 100000 in
theorem s_doesSee (l : Launch) (D : va_G) (cI cJ : ClassId) (sz M : Nat) (mr : Nat → Nat) (mi : Nat → Int32) (mf : Nat → Nat → Int32) (mg : Nat → Nat → Int64) (z_a : Int32) (z_b : Int32) (h0 : 0 ≤ (mi 6).toInt ∧ (mi 6).toInt ≤ 10) (h1 : 0 ≤ z_a.toInt ∧ z_a.toInt ≤ 9) (h2 : 0 ≤ z_b.toInt ∧ z_b.toInt ≤ 9) : Met l yX12_doesSee (Cond.code yX12_doesSee cX12_doesSee 5 (some .boolean) :: GW) ({ frames := 2, cells := 0, slots := 0, locals := 68 } : Room) (va_Pc [.ref M, .int z_a, .int z_b] (PW D cI cJ sz (MW cI cJ M mr mi mf mg) xT)) (va_Qi (fun (r : Int32) (u : Unit) => (0 ≤ r.toInt ∧ r.toInt ≤ 1)) (fun u => QW D cI cJ (va_A (MW cI cJ M mr mi mf mg) sz) ((fun (u : Unit) => (MW cI cJ M mr mi mf mg)) u)) (va_A (MW cI cJ M mr mi mf mg) sz)) 0 0 (va_A (MW cI cJ M mr mi mf mg) sz) := by
  refine mk_met (y := yX12_doesSee) (bytes := cX12_doesSee) (maxL := 5) (avs := [.ref M, .int z_a, .int z_b]) (WS := (MW cI cJ M mr mi mf mg)) (Qf := fun A => va_Qi (fun (r : Int32) (u : Unit) => (0 ≤ r.toInt ∧ r.toInt ≤ 1)) (fun u => QW D cI cJ A ((fun (u : Unit) => (MW cI cJ M mr mi mf mg)) u)) A) (by decide) (Nat.le_of_ble_eq_true rfl) ?_
  intro p e s m below meth c A ls E hr hlk hnm hX hw1 hl2
  have hl3 : lv_has ls 5 [(0, .ref M), (1, .int z_a), (2, .int z_b)] := hl2
  refine lv_aload_n (pc := 0) E.1 E.2.1 dX12_doesSee_0 rfl (lv_at hl3 0 rfl) ?_
  refine lv_aload_n (pc := 1) E.1 E.2.1 dX12_doesSee_1 rfl (lv_at hl3 0 rfl) ?_
  refine x_get (pc := 2) (T := TX12) (N := 70) (ci := 12) (v := .ref (mr 7)) E hw1 inX12 0 7 q_1406 rfl rfl (by decide) rfl rfl dX12_doesSee_2 ?_
  refine lv_iload_n (pc := 5) E.1 E.2.1 dX12_doesSee_5 rfl (lv_at hl3 1 rfl) ?_
  refine x_iald (pc := 6) (f := (mf 7)) E hw1 4 rfl (inbE (a := z_a.toInt) rfl (by omega)) dX12_doesSee_6 ?_
  refine lv_topi (fun v_4 ev_4 => ?_)
  refine lv_bipush (pc := 7) (v := 8) E.1 E.2.1 dX12_doesSee_7 (by decide +kernel) ?_
  refine lv_irem (pc := 9) E.1 E.2.1 dX12_doesSee_9 (by decide +kernel) ?_
  refine lv_topi (fun v_5 ev_5 => ?_)
  refine lv_aload_n (pc := 10) E.1 E.2.1 dX12_doesSee_10 rfl (lv_at hl3 0 rfl) ?_
  refine x_get (pc := 11) (T := TX12) (N := 70) (ci := 12) (v := .ref (mr 7)) E hw1 inX12 0 7 q_1406 rfl rfl (by decide) rfl rfl dX12_doesSee_11 ?_
  refine lv_iload_n (pc := 14) E.1 E.2.1 dX12_doesSee_14 rfl (lv_at hl3 2 rfl) ?_
  refine x_iald (pc := 15) (f := (mf 7)) E hw1 4 rfl (inbE (a := z_b.toInt) rfl (by omega)) dX12_doesSee_15 ?_
  refine lv_topi (fun v_6 ev_6 => ?_)
  refine lv_bipush (pc := 16) (v := 8) E.1 E.2.1 dX12_doesSee_16 (by decide +kernel) ?_
  refine lv_irem (pc := 18) E.1 E.2.1 dX12_doesSee_18 (by decide +kernel) ?_
  refine lv_topi (fun v_7 ev_7 => ?_)
  refine lv_isub (pc := 19) E.1 E.2.1 dX12_doesSee_19 ?_
  refine lv_topi (fun v_8 ev_8 => ?_)
  refine cm_i (pc := 20) hw1 (rn_M (As := [.int v_8]) (rest := []) E hw1 (s_without l D cI cJ _ M mr mi mf mg v_8) (gdV q_1954 q_1956 q_119 q_162 q_1957) hdV_X12_without ⟨rfl, rfl⟩ ⟨(Nat.le_of_ble_eq_true rfl), (Nat.le_of_ble_eq_true rfl)⟩ ⟨(Nat.le_of_ble_eq_true rfl), (Nat.le_of_ble_eq_true rfl)⟩ 12 rfl rfl rfl rfl hl3.1 rfl (Nat.le_of_ble_eq_true rfl) dX12_doesSee_20) (fun r_10 u_9 H1 locs hp hw11 => ?_)
  generalize H1 = H at hw11 ⊢
  have hw12 : WD D A s.heap (MW cI cJ M mr mi mf mg) H locs := hw11
  refine lv_aload_n (pc := 23) E.1 E.2.1 dX12_doesSee_23 rfl (lv_at hl3 0 rfl) ?_
  refine lv_aload_n (pc := 24) E.1 E.2.1 dX12_doesSee_24 rfl (lv_at hl3 0 rfl) ?_
  refine x_get (pc := 25) (T := TX12) (N := 70) (ci := 12) (v := .ref (mr 7)) E hw12 inX12 0 7 q_1406 rfl rfl (by decide) rfl rfl dX12_doesSee_25 ?_
  refine lv_iload_n (pc := 28) E.1 E.2.1 dX12_doesSee_28 rfl (lv_at hl3 1 rfl) ?_
  refine x_iald (pc := 29) (f := (mf 7)) E hw12 4 rfl (inbE (a := z_a.toInt) rfl (by omega)) dX12_doesSee_29 ?_
  refine lv_topi (fun v_13 ev_13 => ?_)
  refine lv_bipush (pc := 30) (v := 8) E.1 E.2.1 dX12_doesSee_30 (by decide +kernel) ?_
  refine lv_idiv (pc := 32) E.1 E.2.1 dX12_doesSee_32 (by decide +kernel) ?_
  refine lv_topi (fun v_14 ev_14 => ?_)
  refine lv_aload_n (pc := 33) E.1 E.2.1 dX12_doesSee_33 rfl (lv_at hl3 0 rfl) ?_
  refine x_get (pc := 34) (T := TX12) (N := 70) (ci := 12) (v := .ref (mr 7)) E hw12 inX12 0 7 q_1406 rfl rfl (by decide) rfl rfl dX12_doesSee_34 ?_
  refine lv_iload_n (pc := 37) E.1 E.2.1 dX12_doesSee_37 rfl (lv_at hl3 2 rfl) ?_
  refine x_iald (pc := 38) (f := (mf 7)) E hw12 4 rfl (inbE (a := z_b.toInt) rfl (by omega)) dX12_doesSee_38 ?_
  refine lv_topi (fun v_15 ev_15 => ?_)
  refine lv_bipush (pc := 39) (v := 8) E.1 E.2.1 dX12_doesSee_39 (by decide +kernel) ?_
  refine lv_idiv (pc := 41) E.1 E.2.1 dX12_doesSee_41 (by decide +kernel) ?_
  refine lv_topi (fun v_16 ev_16 => ?_)
  refine lv_isub (pc := 42) E.1 E.2.1 dX12_doesSee_42 ?_
  refine lv_topi (fun v_17 ev_17 => ?_)
  refine cm_i (pc := 43) hw12 (rn_M (As := [.int v_17]) (rest := [.int r_10]) E hw12 (s_without l D cI cJ _ M mr mi mf mg v_17) (gdV q_1954 q_1956 q_119 q_162 q_1957) hdV_X12_without ⟨rfl, rfl⟩ ⟨(Nat.le_of_ble_eq_true rfl), (Nat.le_of_ble_eq_true rfl)⟩ ⟨(Nat.le_of_ble_eq_true rfl), (Nat.le_of_ble_eq_true rfl)⟩ 12 rfl rfl rfl rfl hl3.1 rfl (Nat.le_of_ble_eq_true rfl) dX12_doesSee_43) (fun r_19 u_18 H1 locs hp hw20 => ?_)
  generalize H1 = H at hw20 ⊢
  have hw21 : WD D A s.heap (MW cI cJ M mr mi mf mg) H locs := hw20
  refine lv_iadd (pc := 46) E.1 E.2.1 dX12_doesSee_46 ?_
  refine lv_topi (fun v_22 ev_22 => ?_)
  refine lv_istore_n (pc := 47) (lv' := [(3, .int v_22), (0, .ref M), (1, .int z_a), (2, .int z_b)]) E.1 E.2.1 dX12_doesSee_47 rfl hl3 (by decide) rfl (fun ls hl23 => ?_)
  refine lv_iload_n (pc := 48) E.1 E.2.1 dX12_doesSee_48 rfl (lv_at hl23 2 rfl) ?_
  refine lv_iload_n (pc := 49) E.1 E.2.1 dX12_doesSee_49 rfl (lv_at hl23 3 rfl) ?_
  refine lv_icmp_eq (pc := 50) (tgt := 58) E.1 E.2.1 dX12_doesSee_50 (by decide) (fun c_24 => ?_) (fun c_24 => ?_)
  · skip
    have hc_24 := eqE (a := z_a.toInt) (b := z_b.toInt) rfl rfl c_24
    refine lv_iconst (pc := 58) (v := 0) E.1 E.2.1 dX12_doesSee_58 (by decide +kernel) ?_
    exact em_z (w1 := (fun (u : Unit) => (MW cI cJ M mr mi mf mg))) E hr hlk () hw21 (by show 0 ≤ (0 : Int32).toInt ∧ (0 : Int32).toInt ≤ 1; have k_0 : (0 : Int32).toInt = 0 := (by decide +kernel); omega) (by decide +kernel) (Nat.le_of_ble_eq_true rfl) (Nat.le_of_ble_eq_true rfl) dX12_doesSee_59
  · skip
    have hc_24 := neE (a := z_a.toInt) (b := z_b.toInt) rfl rfl c_24
    refine lv_iload_n (pc := 53) E.1 E.2.1 dX12_doesSee_53 rfl (lv_at hl23 0 rfl) ?_
    refine lv_iconst (pc := 54) (v := 5) E.1 E.2.1 dX12_doesSee_54 (by decide +kernel) ?_
    refine lv_icmp_le (pc := 55) (tgt := 60) E.1 E.2.1 dX12_doesSee_55 (by decide) (fun c_25 => ?_) (fun c_25 => ?_)
    · skip
      have hc_25 := leE (a := v_22.toInt) (b := 5) rfl (by decide +kernel) c_25
      refine lv_iconst (pc := 60) (v := 0) E.1 E.2.1 dX12_doesSee_60 (by decide +kernel) ?_
      refine lv_istore (pc := 61) (lv' := [(4, .int 0), (3, .int v_22), (0, .ref M), (1, .int z_a), (2, .int z_b)]) E.1 E.2.1 dX12_doesSee_61 hl23 (by decide) rfl (fun ls hl26 => ?_)
      have loop_27 : ∀ (k : Nat) (x_28 : Int32) (H : Heap) (locs : List Loc) (ls : Array Slot), (0 ≤ x_28.toInt) ∧ (x_28.toInt ≤ (mi 6).toInt) → (mi 6).toInt - x_28.toInt < (k : Int) → WD D A s.heap (MW cI cJ M mr mi mf mg) H locs → lv_has ls 5 [(4, .int x_28), (3, .int v_22), (0, .ref M), (1, .int z_a), (2, .int z_b)] → W p l e ({ frames := 2, cells := 0, slots := 0, locals := 68 } : Room) s m ([.ref M, .int z_a, .int z_b] : List Value).toArray below meth c H locs 0 0 (MQ below (va_Qi (fun (r : Int32) (u : Unit) => (0 ≤ r.toInt ∧ r.toInt ≤ 1)) (fun u => QW D cI cJ A ((fun (u : Unit) => (MW cI cJ M mr mi mf mg)) u)) A) ([.ref M, .int z_a, .int z_b] : List Value).toArray s 0 0 A) (F0 m 63 ls []) := by
        intro k
        induction k with
        | zero =>
          intro x_28 _ _ _ hinv hm
          obtain ⟨hi_28_0, hi_28_1⟩ := hinv
          exact absurd hm (by omega)
        | succ k ih_29 =>
          intro x_28 H locs ls hinv hm hw30 hl31
          obtain ⟨hi_28_0, hi_28_1⟩ := hinv
          refine lv_iload (pc := 63) E.1 E.2.1 dX12_doesSee_63 (lv_at hl31 0 rfl) ?_
          refine lv_aload_n (pc := 65) E.1 E.2.1 dX12_doesSee_65 rfl (lv_at hl31 2 rfl) ?_
          refine x_get (pc := 66) (T := TX12) (N := 70) (ci := 12) (v := .int (mi 6)) E hw30 inX12 0 6 q_1405 rfl rfl (by decide) rfl rfl dX12_doesSee_66 ?_
          refine lv_icmp_ge (pc := 69) (tgt := 118) E.1 E.2.1 dX12_doesSee_69 (by decide) (fun c_32 => ?_) (fun c_32 => ?_)
          · skip
            have hc_32 := leE (a := (mi 6).toInt) (b := x_28.toInt) rfl rfl c_32
            refine lv_iconst (pc := 118) (v := 1) E.1 E.2.1 dX12_doesSee_118 (by decide +kernel) ?_
            exact em_z (w1 := (fun (u : Unit) => (MW cI cJ M mr mi mf mg))) E hr hlk () hw30 (by show 0 ≤ (1 : Int32).toInt ∧ (1 : Int32).toInt ≤ 1; have k_0 : (1 : Int32).toInt = 1 := (by decide +kernel); omega) (by decide +kernel) (Nat.le_of_ble_eq_true rfl) (Nat.le_of_ble_eq_true rfl) dX12_doesSee_119
          · skip
            have hc_32 := nleE (a := (mi 6).toInt) (b := x_28.toInt) rfl rfl c_32
            refine lv_iload (pc := 72) E.1 E.2.1 dX12_doesSee_72 (lv_at hl31 0 rfl) ?_
            refine lv_iload_n (pc := 74) E.1 E.2.1 dX12_doesSee_74 rfl (lv_at hl31 3 rfl) ?_
            refine lv_icmp_eq (pc := 75) (tgt := 112) E.1 E.2.1 dX12_doesSee_75 (by decide) (fun c_33 => ?_) (fun c_33 => ?_)
            · skip
              have hc_33 := eqE (a := x_28.toInt) (b := z_a.toInt) rfl rfl c_33
              obtain ⟨v_34, ev_34⟩ : ∃ z : Int32, x_28 + Int32.ofInt (1) = z := ⟨_, rfl⟩
              have hv_34 : v_34.toInt = x_28.toInt + (1) := by rw [← ev_34]; exact incE rfl (by decide) (by omega)
              refine lv_iinc (pc := 112) (v := v_34) (lv' := [(4, .int v_34), (3, .int v_22), (0, .ref M), (1, .int z_a), (2, .int z_b)]) E.1 E.2.1 dX12_doesSee_112 hl31 (k := 0) rfl ev_34 (by decide) rfl (fun ls hl35 => ?_)
              refine lv_goto (pc := 115) (tgt := 63) E.1 E.2.1 dX12_doesSee_115 (by decide) ?_
              exact ih_29 v_34 _ _ _ ⟨(by show 0 ≤ v_34.toInt; omega), (by show v_34.toInt ≤ (mi 6).toInt; omega)⟩ (by omega) hw30 (lv_sub hl35 [0, 1, 2, 3, 4] rfl)
            · skip
              have hc_33 := neE (a := x_28.toInt) (b := z_a.toInt) rfl rfl c_33
              refine lv_iload (pc := 78) E.1 E.2.1 dX12_doesSee_78 (lv_at hl31 0 rfl) ?_
              refine lv_iload_n (pc := 80) E.1 E.2.1 dX12_doesSee_80 rfl (lv_at hl31 4 rfl) ?_
              refine lv_icmp_eq (pc := 81) (tgt := 112) E.1 E.2.1 dX12_doesSee_81 (by decide) (fun c_36 => ?_) (fun c_36 => ?_)
              · skip
                have hc_36 := eqE (a := x_28.toInt) (b := z_b.toInt) rfl rfl c_36
                obtain ⟨v_37, ev_37⟩ : ∃ z : Int32, x_28 + Int32.ofInt (1) = z := ⟨_, rfl⟩
                have hv_37 : v_37.toInt = x_28.toInt + (1) := by rw [← ev_37]; exact incE rfl (by decide) (by omega)
                refine lv_iinc (pc := 112) (v := v_37) (lv' := [(4, .int v_37), (3, .int v_22), (0, .ref M), (1, .int z_a), (2, .int z_b)]) E.1 E.2.1 dX12_doesSee_112 hl31 (k := 0) rfl ev_37 (by decide) rfl (fun ls hl38 => ?_)
                refine lv_goto (pc := 115) (tgt := 63) E.1 E.2.1 dX12_doesSee_115 (by decide) ?_
                exact ih_29 v_37 _ _ _ ⟨(by show 0 ≤ v_37.toInt; omega), (by show v_37.toInt ≤ (mi 6).toInt; omega)⟩ (by omega) hw30 (lv_sub hl38 [0, 1, 2, 3, 4] rfl)
              · skip
                have hc_36 := neE (a := x_28.toInt) (b := z_b.toInt) rfl rfl c_36
                refine lv_aload_n (pc := 84) E.1 E.2.1 dX12_doesSee_84 rfl (lv_at hl31 2 rfl) ?_
                refine lv_aload_n (pc := 85) E.1 E.2.1 dX12_doesSee_85 rfl (lv_at hl31 2 rfl) ?_
                refine x_get (pc := 86) (T := TX12) (N := 70) (ci := 12) (v := .ref (mr 7)) E hw30 inX12 0 7 q_1406 rfl rfl (by decide) rfl rfl dX12_doesSee_86 ?_
                refine lv_iload (pc := 89) E.1 E.2.1 dX12_doesSee_89 (lv_at hl31 0 rfl) ?_
                refine x_iald (pc := 91) (f := (mf 7)) E hw30 4 rfl (inbE (a := x_28.toInt) rfl (by omega)) dX12_doesSee_91 ?_
                refine lv_topi (fun v_39 ev_39 => ?_)
                refine lv_aload_n (pc := 92) E.1 E.2.1 dX12_doesSee_92 rfl (lv_at hl31 2 rfl) ?_
                refine x_get (pc := 93) (T := TX12) (N := 70) (ci := 12) (v := .ref (mr 7)) E hw30 inX12 0 7 q_1406 rfl rfl (by decide) rfl rfl dX12_doesSee_93 ?_
                refine lv_iload_n (pc := 96) E.1 E.2.1 dX12_doesSee_96 rfl (lv_at hl31 3 rfl) ?_
                refine x_iald (pc := 97) (f := (mf 7)) E hw30 4 rfl (inbE (a := z_a.toInt) rfl (by omega)) dX12_doesSee_97 ?_
                refine lv_topi (fun v_40 ev_40 => ?_)
                refine lv_aload_n (pc := 98) E.1 E.2.1 dX12_doesSee_98 rfl (lv_at hl31 2 rfl) ?_
                refine x_get (pc := 99) (T := TX12) (N := 70) (ci := 12) (v := .ref (mr 7)) E hw30 inX12 0 7 q_1406 rfl rfl (by decide) rfl rfl dX12_doesSee_99 ?_
                refine lv_iload_n (pc := 102) E.1 E.2.1 dX12_doesSee_102 rfl (lv_at hl31 4 rfl) ?_
                refine x_iald (pc := 103) (f := (mf 7)) E hw30 4 rfl (inbE (a := z_b.toInt) rfl (by omega)) dX12_doesSee_103 ?_
                refine lv_topi (fun v_41 ev_41 => ?_)
                refine cm_i (pc := 104) hw30 (rn_M (As := [.int v_39, .int v_40, .int v_41]) (rest := []) E hw30 (s_isBetween l D cI cJ _ M mr mi mf mg v_39 v_40 v_41) (gdV q_1958 q_1960 q_120 q_162 q_1961) hdV_X12_isBetween ⟨rfl, rfl⟩ ⟨(Nat.le_of_ble_eq_true rfl), (Nat.le_of_ble_eq_true rfl)⟩ ⟨(Nat.le_of_ble_eq_true rfl), (Nat.le_of_ble_eq_true rfl)⟩ 12 rfl rfl rfl rfl hl31.1 rfl (Nat.le_of_ble_eq_true rfl) dX12_doesSee_104) (fun r_43 u_42 H1 locs hp hw44 => ?_)
                generalize H1 = H at hw44 ⊢
                have hw45 : WD D A s.heap (MW cI cJ M mr mi mf mg) H locs := hw44
                have hp_46 := hp
                have hp_46 : 0 ≤ r_43.toInt ∧ r_43.toInt ≤ 1 := hp_46
                refine lv_if_eq (pc := 107) (tgt := 112) E.1 E.2.1 dX12_doesSee_107 (by decide) (fun c_47 => ?_) (fun c_47 => ?_)
                · skip
                  have hc_47 := eqE (a := r_43.toInt) (b := 0) rfl (by decide +kernel) c_47
                  obtain ⟨v_48, ev_48⟩ : ∃ z : Int32, x_28 + Int32.ofInt (1) = z := ⟨_, rfl⟩
                  have hv_48 : v_48.toInt = x_28.toInt + (1) := by rw [← ev_48]; exact incE rfl (by decide) (by omega)
                  refine lv_iinc (pc := 112) (v := v_48) (lv' := [(4, .int v_48), (3, .int v_22), (0, .ref M), (1, .int z_a), (2, .int z_b)]) E.1 E.2.1 dX12_doesSee_112 hl31 (k := 0) rfl ev_48 (by decide) rfl (fun ls hl49 => ?_)
                  refine lv_goto (pc := 115) (tgt := 63) E.1 E.2.1 dX12_doesSee_115 (by decide) ?_
                  exact ih_29 v_48 _ _ _ ⟨(by show 0 ≤ v_48.toInt; omega), (by show v_48.toInt ≤ (mi 6).toInt; omega)⟩ (by omega) hw45 (lv_sub hl49 [0, 1, 2, 3, 4] rfl)
                · skip
                  have hc_47 := neE (a := r_43.toInt) (b := 0) rfl (by decide +kernel) c_47
                  refine lv_iconst (pc := 110) (v := 0) E.1 E.2.1 dX12_doesSee_110 (by decide +kernel) ?_
                  exact em_z (w1 := (fun (u : Unit) => (MW cI cJ M mr mi mf mg))) E hr hlk () hw45 (by show 0 ≤ (0 : Int32).toInt ∧ (0 : Int32).toInt ≤ 1; have k_0 : (0 : Int32).toInt = 0 := (by decide +kernel); omega) (by decide +kernel) (Nat.le_of_ble_eq_true rfl) (Nat.le_of_ble_eq_true rfl) dX12_doesSee_111
      exact loop_27 (Int.toNat ((mi 6).toInt - 0) + 1) 0 _ _ _ ⟨(by show 0 ≤ (0 : Int32).toInt; have k_0 : (0 : Int32).toInt = 0 := (by decide +kernel); omega), (by show (0 : Int32).toInt ≤ (mi 6).toInt; have k_0 : (0 : Int32).toInt = 0 := (by decide +kernel); omega)⟩ (by have k_0 : (0 : Int32).toInt = 0 := (by decide +kernel); omega) hw21 (lv_sub hl26 [0, 1, 2, 3, 4] rfl)
    · skip
      have hc_25 := nleE (a := v_22.toInt) (b := 5) rfl (by decide +kernel) c_25
      refine lv_iconst (pc := 58) (v := 0) E.1 E.2.1 dX12_doesSee_58 (by decide +kernel) ?_
      exact em_z (w1 := (fun (u : Unit) => (MW cI cJ M mr mi mf mg))) E hr hlk () hw21 (by show 0 ≤ (0 : Int32).toInt ∧ (0 : Int32).toInt ≤ 1; have k_0 : (0 : Int32).toInt = 0 := (by decide +kernel); omega) (by decide +kernel) (Nat.le_of_ble_eq_true rfl) (Nat.le_of_ble_eq_true rfl) dX12_doesSee_59

set_option maxHeartbeats 4000000 in
set_option maxRecDepth 100000 in
theorem s_seenBy (l : Launch) (D : va_G) (cI cJ : ClassId) (sz M : Nat) (mr : Nat → Nat) (mi : Nat → Int32) (mf : Nat → Nat → Int32) (mg : Nat → Nat → Int64) (z_h : Int32) (h0 : 0 ≤ (mi 6).toInt ∧ (mi 6).toInt ≤ 10) (h1 : 0 ≤ z_h.toInt ∧ z_h.toInt ≤ 9) : Met l yX12_seenBy (Cond.code yX12_seenBy cX12_seenBy 4 (some .int) :: GW) ({ frames := 3, cells := 0, slots := 0, locals := 92 } : Room) (va_Pc [.ref M, .int z_h] (PW D cI cJ sz (MW cI cJ M mr mi mf mg) xT)) (va_Qi (fun (r : Int32) (u : Unit) => True) (fun u => QW D cI cJ (va_A (MW cI cJ M mr mi mf mg) sz) ((fun (u : Unit) => (MW cI cJ M mr mi mf mg)) u)) (va_A (MW cI cJ M mr mi mf mg) sz)) 0 0 (va_A (MW cI cJ M mr mi mf mg) sz) := by
  refine mk_met (y := yX12_seenBy) (bytes := cX12_seenBy) (maxL := 4) (avs := [.ref M, .int z_h]) (WS := (MW cI cJ M mr mi mf mg)) (Qf := fun A => va_Qi (fun (r : Int32) (u : Unit) => True) (fun u => QW D cI cJ A ((fun (u : Unit) => (MW cI cJ M mr mi mf mg)) u)) A) (by decide) (Nat.le_of_ble_eq_true rfl) ?_
  intro p e s m below meth c A ls E hr hlk hnm hX hw1 hl2
  have hl3 : lv_has ls 4 [(0, .ref M), (1, .int z_h)] := hl2
  refine lv_iconst (pc := 0) (v := 0) E.1 E.2.1 dX12_seenBy_0 (by decide +kernel) ?_
  refine lv_istore_n (pc := 1) (lv' := [(2, .int 0), (0, .ref M), (1, .int z_h)]) E.1 E.2.1 dX12_seenBy_1 rfl hl3 (by decide) rfl (fun ls hl4 => ?_)
  refine lv_iconst (pc := 2) (v := 0) E.1 E.2.1 dX12_seenBy_2 (by decide +kernel) ?_
  refine lv_istore_n (pc := 3) (lv' := [(3, .int 0), (2, .int 0), (0, .ref M), (1, .int z_h)]) E.1 E.2.1 dX12_seenBy_3 rfl hl4 (by decide) rfl (fun ls hl5 => ?_)
  have loop_6 : ∀ (k : Nat) (x_7 : Int32) (x_8 : Int32) (H : Heap) (locs : List Loc) (ls : Array Slot), (0 ≤ x_7.toInt) ∧ (x_7.toInt ≤ (mi 6).toInt) → (mi 6).toInt - x_7.toInt < (k : Int) → WD D A s.heap (MW cI cJ M mr mi mf mg) H locs → lv_has ls 4 [(3, .int x_7), (2, .int x_8), (0, .ref M), (1, .int z_h)] → W p l e ({ frames := 3, cells := 0, slots := 0, locals := 92 } : Room) s m ([.ref M, .int z_h] : List Value).toArray below meth c H locs 0 0 (MQ below (va_Qi (fun (r : Int32) (u : Unit) => True) (fun u => QW D cI cJ A ((fun (u : Unit) => (MW cI cJ M mr mi mf mg)) u)) A) ([.ref M, .int z_h] : List Value).toArray s 0 0 A) (F0 m 4 ls []) := by
    intro k
    induction k with
    | zero =>
      intro x_7 x_8 _ _ _ hinv hm
      obtain ⟨hi_8_0, hi_8_1⟩ := hinv
      exact absurd hm (by omega)
    | succ k ih_9 =>
      intro x_7 x_8 H locs ls hinv hm hw10 hl11
      obtain ⟨hi_8_0, hi_8_1⟩ := hinv
      refine lv_iload_n (pc := 4) E.1 E.2.1 dX12_seenBy_4 rfl (lv_at hl11 0 rfl) ?_
      refine lv_aload_n (pc := 5) E.1 E.2.1 dX12_seenBy_5 rfl (lv_at hl11 2 rfl) ?_
      refine x_get (pc := 6) (T := TX12) (N := 70) (ci := 12) (v := .int (mi 6)) E hw10 inX12 0 6 q_1405 rfl rfl (by decide) rfl rfl dX12_seenBy_6 ?_
      refine lv_icmp_ge (pc := 9) (tgt := 33) E.1 E.2.1 dX12_seenBy_9 (by decide) (fun c_12 => ?_) (fun c_12 => ?_)
      · skip
        have hc_12 := leE (a := (mi 6).toInt) (b := x_7.toInt) rfl rfl c_12
        refine lv_iload_n (pc := 33) E.1 E.2.1 dX12_seenBy_33 rfl (lv_at hl11 1 rfl) ?_
        exact em_i (w1 := (fun (u : Unit) => (MW cI cJ M mr mi mf mg))) E hr hlk () hw10 trivial (Nat.le_of_ble_eq_true rfl) (Nat.le_of_ble_eq_true rfl) dX12_seenBy_34
      · skip
        have hc_12 := nleE (a := (mi 6).toInt) (b := x_7.toInt) rfl rfl c_12
        refine lv_aload_n (pc := 12) E.1 E.2.1 dX12_seenBy_12 rfl (lv_at hl11 2 rfl) ?_
        refine lv_iload_n (pc := 13) E.1 E.2.1 dX12_seenBy_13 rfl (lv_at hl11 3 rfl) ?_
        refine lv_iload_n (pc := 14) E.1 E.2.1 dX12_seenBy_14 rfl (lv_at hl11 0 rfl) ?_
        refine cm_i (pc := 15) hw10 (rn_M (As := [.int z_h, .int x_7]) (rest := []) E hw10 (s_doesSee l D cI cJ _ M mr mi mf mg z_h x_7 h0 h1 (by show 0 ≤ x_7.toInt ∧ x_7.toInt ≤ 9; omega)) (gdV q_1950 q_1952 q_118 q_162 q_1953) hdV_X12_doesSee ⟨rfl, rfl⟩ ⟨(Nat.le_of_ble_eq_true rfl), (Nat.le_of_ble_eq_true rfl)⟩ ⟨(Nat.le_of_ble_eq_true rfl), (Nat.le_of_ble_eq_true rfl)⟩ 12 rfl rfl rfl rfl hl11.1 rfl (Nat.le_of_ble_eq_true rfl) dX12_seenBy_15) (fun r_14 u_13 H1 locs hp hw15 => ?_)
        generalize H1 = H at hw15 ⊢
        have hw16 : WD D A s.heap (MW cI cJ M mr mi mf mg) H locs := hw15
        have hp_17 := hp
        have hp_17 : 0 ≤ r_14.toInt ∧ r_14.toInt ≤ 1 := hp_17
        refine lv_if_eq (pc := 18) (tgt := 27) E.1 E.2.1 dX12_seenBy_18 (by decide) (fun c_18 => ?_) (fun c_18 => ?_)
        · skip
          have hc_18 := eqE (a := r_14.toInt) (b := 0) rfl (by decide +kernel) c_18
          obtain ⟨v_19, ev_19⟩ : ∃ z : Int32, x_7 + Int32.ofInt (1) = z := ⟨_, rfl⟩
          have hv_19 : v_19.toInt = x_7.toInt + (1) := by rw [← ev_19]; exact incE rfl (by decide) (by omega)
          refine lv_iinc (pc := 27) (v := v_19) (lv' := [(3, .int v_19), (2, .int x_8), (0, .ref M), (1, .int z_h)]) E.1 E.2.1 dX12_seenBy_27 hl11 (k := 0) rfl ev_19 (by decide) rfl (fun ls hl20 => ?_)
          refine lv_goto (pc := 30) (tgt := 4) E.1 E.2.1 dX12_seenBy_30 (by decide) ?_
          exact ih_9 v_19 x_8 _ _ _ ⟨(by show 0 ≤ v_19.toInt; omega), (by show v_19.toInt ≤ (mi 6).toInt; omega)⟩ (by omega) hw16 (lv_sub hl20 [0, 1, 2, 3] rfl)
        · skip
          have hc_18 := neE (a := r_14.toInt) (b := 0) rfl (by decide +kernel) c_18
          refine lv_iload_n (pc := 21) E.1 E.2.1 dX12_seenBy_21 rfl (lv_at hl11 1 rfl) ?_
          refine lv_iconst (pc := 22) (v := 1) E.1 E.2.1 dX12_seenBy_22 (by decide +kernel) ?_
          refine lv_iload_n (pc := 23) E.1 E.2.1 dX12_seenBy_23 rfl (lv_at hl11 0 rfl) ?_
          refine lv_ishl (pc := 24) E.1 E.2.1 dX12_seenBy_24 ?_
          refine lv_topi (fun v_21 ev_21 => ?_)
          refine lv_ior (pc := 25) E.1 E.2.1 dX12_seenBy_25 ?_
          refine lv_topi (fun v_22 ev_22 => ?_)
          refine lv_istore_n (pc := 26) (lv' := [(2, .int v_22), (3, .int x_7), (0, .ref M), (1, .int z_h)]) E.1 E.2.1 dX12_seenBy_26 rfl hl11 (by decide) rfl (fun ls hl23 => ?_)
          obtain ⟨v_24, ev_24⟩ : ∃ z : Int32, x_7 + Int32.ofInt (1) = z := ⟨_, rfl⟩
          have hv_24 : v_24.toInt = x_7.toInt + (1) := by rw [← ev_24]; exact incE rfl (by decide) (by omega)
          refine lv_iinc (pc := 27) (v := v_24) (lv' := [(3, .int v_24), (2, .int v_22), (0, .ref M), (1, .int z_h)]) E.1 E.2.1 dX12_seenBy_27 hl23 (k := 1) rfl ev_24 (by decide) rfl (fun ls hl25 => ?_)
          refine lv_goto (pc := 30) (tgt := 4) E.1 E.2.1 dX12_seenBy_30 (by decide) ?_
          exact ih_9 v_24 v_22 _ _ _ ⟨(by show 0 ≤ v_24.toInt; omega), (by show v_24.toInt ≤ (mi 6).toInt; omega)⟩ (by omega) hw16 (lv_sub hl25 [0, 1, 2, 3] rfl)
  exact loop_6 (Int.toNat ((mi 6).toInt - 0) + 1) 0 0 _ _ _ ⟨(by show 0 ≤ (0 : Int32).toInt; have k_0 : (0 : Int32).toInt = 0 := (by decide +kernel); omega), (by show (0 : Int32).toInt ≤ (mi 6).toInt; have k_0 : (0 : Int32).toInt = 0 := (by decide +kernel); omega)⟩ (by have k_0 : (0 : Int32).toInt = 0 := (by decide +kernel); have k_1 : (0 : Int32).toInt = 0 := (by decide +kernel); omega) hw1 (lv_sub hl5 [0, 1, 2, 3] rfl)

set_option maxHeartbeats 4000000 in
set_option maxRecDepth 100000 in
theorem s_owes (l : Launch) (D : va_G) (cI cJ : ClassId) (sz M : Nat) (mr : Nat → Nat) (mi : Nat → Int32) (mf : Nat → Nat → Int32) (mg : Nat → Nat → Int64)  (h0 : 0 ≤ (mi 6).toInt ∧ (mi 6).toInt ≤ 10) (h1 : (-29) ≤ (mi 15).toInt ∧ (mi 15).toInt ≤ 69) : Met l yX12_owes (Cond.code yX12_owes cX12_owes 3 none :: GW) ({ frames := 2, cells := 0, slots := 0, locals := 63 } : Room) (va_Pc [.ref M] (PW D cI cJ sz (MW cI cJ M mr mi mf mg) xT)) (va_Qv (fun (u : (Nat → Int32)) => ((u 2).toInt = ((mf 1) 2).toInt) ∧ ((u 3).toInt = ((mf 1) 3).toInt) ∧ ((u 5).toInt = ((mf 1) 5).toInt)) (fun u => QW D cI cJ (va_A (MW cI cJ M mr mi mf mg) sz) ((fun (u : (Nat → Int32)) => (MW cI cJ M mr mi (va_up mf 1 u) mg)) u)) (va_A (MW cI cJ M mr mi mf mg) sz)) 0 0 (va_A (MW cI cJ M mr mi mf mg) sz) := by
  refine mk_met (y := yX12_owes) (bytes := cX12_owes) (maxL := 3) (avs := [.ref M]) (WS := (MW cI cJ M mr mi mf mg)) (Qf := fun A => va_Qv (fun (u : (Nat → Int32)) => ((u 2).toInt = ((mf 1) 2).toInt) ∧ ((u 3).toInt = ((mf 1) 3).toInt) ∧ ((u 5).toInt = ((mf 1) 5).toInt)) (fun u => QW D cI cJ A ((fun (u : (Nat → Int32)) => (MW cI cJ M mr mi (va_up mf 1 u) mg)) u)) A) (by decide) (Nat.le_of_ble_eq_true rfl) ?_
  intro p e s m below meth c A ls E hr hlk hnm hX hw1 hl2
  have hl3 : lv_has ls 3 [(0, .ref M)] := hl2
  refine lv_iconst (pc := 0) (v := 0) E.1 E.2.1 dX12_owes_0 (by decide +kernel) ?_
  refine lv_istore_n (pc := 1) (lv' := [(1, .int 0), (0, .ref M)]) E.1 E.2.1 dX12_owes_1 rfl hl3 (by decide) rfl (fun ls hl4 => ?_)
  have loop_5 : ∀ (k : Nat) (x_6 : Int32) (g_7 : Nat → Int32) (H : Heap) (locs : List Loc) (ls : Array Slot), (0 ≤ x_6.toInt) ∧ (x_6.toInt ≤ (mi 6).toInt) ∧ ((g_7 2).toInt = ((mf 1) 2).toInt) ∧ ((g_7 3).toInt = ((mf 1) 3).toInt) ∧ ((g_7 5).toInt = ((mf 1) 5).toInt) → (mi 6).toInt - x_6.toInt < (k : Int) → WD D A s.heap (MW cI cJ M mr mi (va_up mf 1 g_7) mg) H locs → lv_has ls 3 [(1, .int x_6), (0, .ref M)] → W p l e ({ frames := 2, cells := 0, slots := 0, locals := 63 } : Room) s m ([.ref M] : List Value).toArray below meth c H locs 0 0 (MQ below (va_Qv (fun (u : (Nat → Int32)) => ((u 2).toInt = ((mf 1) 2).toInt) ∧ ((u 3).toInt = ((mf 1) 3).toInt) ∧ ((u 5).toInt = ((mf 1) 5).toInt)) (fun u => QW D cI cJ A ((fun (u : (Nat → Int32)) => (MW cI cJ M mr mi (va_up mf 1 u) mg)) u)) A) ([.ref M] : List Value).toArray s 0 0 A) (F0 m 2 ls []) := by
    intro k
    induction k with
    | zero =>
      intro x_6 g_7 _ _ _ hinv hm
      obtain ⟨hi_7_0, hi_7_1, hi_7_2, hi_7_3, hi_7_4⟩ := hinv
      exact absurd hm (by omega)
    | succ k ih_8 =>
      intro x_6 g_7 H locs ls hinv hm hw9 hl10
      obtain ⟨hi_7_0, hi_7_1, hi_7_2, hi_7_3, hi_7_4⟩ := hinv
      refine lv_iload_n (pc := 2) E.1 E.2.1 dX12_owes_2 rfl (lv_at hl10 0 rfl) ?_
      refine lv_aload_n (pc := 3) E.1 E.2.1 dX12_owes_3 rfl (lv_at hl10 1 rfl) ?_
      refine x_get (pc := 4) (T := TX12) (N := 70) (ci := 12) (v := .int (mi 6)) E hw9 inX12 0 6 q_1405 rfl rfl (by decide) rfl rfl dX12_owes_4 ?_
      refine lv_icmp_ge (pc := 7) (tgt := 62) E.1 E.2.1 dX12_owes_7 (by decide) (fun c_11 => ?_) (fun c_11 => ?_)
      · skip
        have hc_11 := leE (a := (mi 6).toInt) (b := x_6.toInt) rfl rfl c_11
        exact em_v (w1 := (fun (u : (Nat → Int32)) => (MW cI cJ M mr mi (va_up mf 1 u) mg))) E hr hlk g_7 hw9 ⟨hi_7_2, hi_7_3, hi_7_4⟩ (Nat.le_of_ble_eq_true rfl) (Nat.le_of_ble_eq_true rfl) dX12_owes_62
      · skip
        have hc_11 := nleE (a := (mi 6).toInt) (b := x_6.toInt) rfl rfl c_11
        refine lv_aload_n (pc := 10) E.1 E.2.1 dX12_owes_10 rfl (lv_at hl10 1 rfl) ?_
        refine lv_iload_n (pc := 11) E.1 E.2.1 dX12_owes_11 rfl (lv_at hl10 0 rfl) ?_
        refine cm_i (pc := 12) hw9 (rn_M (As := [.int x_6]) (rest := []) E hw9 (s_sinceLast l D cI cJ _ M mr mi (va_up mf 1 g_7) mg x_6 (by show 0 ≤ x_6.toInt ∧ x_6.toInt ≤ 9; omega)) (gdV q_1863 q_1865 q_98 q_162 q_1866) hdV_X12_sinceLast ⟨rfl, rfl⟩ ⟨(Nat.le_of_ble_eq_true rfl), (Nat.le_of_ble_eq_true rfl)⟩ ⟨(Nat.le_of_ble_eq_true rfl), (Nat.le_of_ble_eq_true rfl)⟩ 12 rfl rfl rfl rfl hl10.1 rfl (Nat.le_of_ble_eq_true rfl) dX12_owes_12) (fun r_13 u_12 H1 locs hp hw14 => ?_)
        generalize H1 = H at hw14 ⊢
        have hw15 : WD D A s.heap (MW cI cJ M mr mi (va_up mf 1 g_7) mg) H locs := hw14
        refine lv_istore_n (pc := 15) (lv' := [(2, .int r_13), (1, .int x_6), (0, .ref M)]) E.1 E.2.1 dX12_owes_15 rfl hl10 (by decide) rfl (fun ls hl16 => ?_)
        refine lv_iload_n (pc := 16) E.1 E.2.1 dX12_owes_16 rfl (lv_at hl16 0 rfl) ?_
        refine lv_if_le (pc := 17) (tgt := 56) E.1 E.2.1 dX12_owes_17 (by decide) (fun c_17 => ?_) (fun c_17 => ?_)
        · skip
          have hc_17 := leE (a := r_13.toInt) (b := 0) rfl (by decide +kernel) c_17
          obtain ⟨v_18, ev_18⟩ : ∃ z : Int32, x_6 + Int32.ofInt (1) = z := ⟨_, rfl⟩
          have hv_18 : v_18.toInt = x_6.toInt + (1) := by rw [← ev_18]; exact incE rfl (by decide) (by omega)
          refine lv_iinc (pc := 56) (v := v_18) (lv' := [(1, .int v_18), (2, .int r_13), (0, .ref M)]) E.1 E.2.1 dX12_owes_56 hl16 (k := 1) rfl ev_18 (by decide) rfl (fun ls hl19 => ?_)
          refine lv_goto (pc := 59) (tgt := 2) E.1 E.2.1 dX12_owes_59 (by decide) ?_
          exact ih_8 v_18 g_7 _ _ _ ⟨(by show 0 ≤ v_18.toInt; omega), (by show v_18.toInt ≤ (mi 6).toInt; omega), hi_7_2, hi_7_3, hi_7_4⟩ (by omega) hw15 (lv_sub hl19 [0, 2] rfl)
        · skip
          have hc_17 := nleE (a := r_13.toInt) (b := 0) rfl (by decide +kernel) c_17
          refine lv_iload_n (pc := 20) E.1 E.2.1 dX12_owes_20 rfl (lv_at hl16 0 rfl) ?_
          refine lv_aload_n (pc := 21) E.1 E.2.1 dX12_owes_21 rfl (lv_at hl16 2 rfl) ?_
          refine cm_i (pc := 22) hw15 (rn_M (As := []) (rest := [.int r_13]) E hw15 (s_due l D cI cJ _ M mr mi (va_up mf 1 g_7) mg h1) (gdV q_1911 q_1913 q_110 q_162 q_1914) hdV_X12_due ⟨rfl, rfl⟩ ⟨(Nat.le_of_ble_eq_true rfl), (Nat.le_of_ble_eq_true rfl)⟩ ⟨(Nat.le_of_ble_eq_true rfl), (Nat.le_of_ble_eq_true rfl)⟩ 12 rfl rfl rfl rfl hl16.1 rfl (Nat.le_of_ble_eq_true rfl) dX12_owes_22) (fun r_21 u_20 H1 locs hp hw22 => ?_)
          generalize H1 = H at hw22 ⊢
          have hw23 : WD D A s.heap (MW cI cJ M mr mi (va_up mf 1 g_7) mg) H locs := hw22
          have hp_24 := hp
          have hp_24 : 1 ≤ r_21.toInt ∧ r_21.toInt ≤ 99 := hp_24
          refine lv_irem (pc := 25) E.1 E.2.1 dX12_owes_25 (mneE (a := r_21.toInt) (b := 0) rfl (by decide +kernel) (by omega)) ?_
          refine lv_topi (fun v_25 ev_25 => ?_)
          refine lv_if_ne (pc := 26) (tgt := 56) E.1 E.2.1 dX12_owes_26 (by decide) (fun c_26 => ?_) (fun c_26 => ?_)
          · skip
            have hc_26 := neE (a := v_25.toInt) (b := 0) rfl (by decide +kernel) c_26
            obtain ⟨v_27, ev_27⟩ : ∃ z : Int32, x_6 + Int32.ofInt (1) = z := ⟨_, rfl⟩
            have hv_27 : v_27.toInt = x_6.toInt + (1) := by rw [← ev_27]; exact incE rfl (by decide) (by omega)
            refine lv_iinc (pc := 56) (v := v_27) (lv' := [(1, .int v_27), (2, .int r_13), (0, .ref M)]) E.1 E.2.1 dX12_owes_56 hl16 (k := 1) rfl ev_27 (by decide) rfl (fun ls hl28 => ?_)
            refine lv_goto (pc := 59) (tgt := 2) E.1 E.2.1 dX12_owes_59 (by decide) ?_
            exact ih_8 v_27 g_7 _ _ _ ⟨(by show 0 ≤ v_27.toInt; omega), (by show v_27.toInt ≤ (mi 6).toInt; omega), hi_7_2, hi_7_3, hi_7_4⟩ (by omega) hw23 (lv_sub hl28 [0, 2] rfl)
          · skip
            have hc_26 := eqE (a := v_25.toInt) (b := 0) rfl (by decide +kernel) c_26
            refine lv_aload_n (pc := 29) E.1 E.2.1 dX12_owes_29 rfl (lv_at hl16 2 rfl) ?_
            refine x_get (pc := 30) (T := TX12) (N := 70) (ci := 12) (v := .ref (mr 1)) E hw23 inX12 0 1 q_1400 rfl rfl (by decide) rfl rfl dX12_owes_30 ?_
            refine lv_bipush (pc := 33) (v := 16) E.1 E.2.1 dX12_owes_33 (by decide +kernel) ?_
            refine lv_iload_n (pc := 35) E.1 E.2.1 dX12_owes_35 rfl (lv_at hl16 1 rfl) ?_
            refine lv_iadd (pc := 36) E.1 E.2.1 dX12_owes_36 ?_
            refine lv_topi (fun v_29 ev_29 => ?_)
            have hv_29 : v_29.toInt = 16 + x_6.toInt := by rw [ev_29]; exact addE (by decide +kernel) rfl (by omega)
            refine lv_aload_n (pc := 37) E.1 E.2.1 dX12_owes_37 rfl (lv_at hl16 2 rfl) ?_
            refine lv_aload_n (pc := 38) E.1 E.2.1 dX12_owes_38 rfl (lv_at hl16 2 rfl) ?_
            refine x_get (pc := 39) (T := TX12) (N := 70) (ci := 12) (v := .ref (mr 1)) E hw23 inX12 0 1 q_1400 rfl rfl (by decide) rfl rfl dX12_owes_39 ?_
            refine lv_bipush (pc := 42) (v := 16) E.1 E.2.1 dX12_owes_42 (by decide +kernel) ?_
            refine lv_iload_n (pc := 44) E.1 E.2.1 dX12_owes_44 rfl (lv_at hl16 1 rfl) ?_
            refine lv_iadd (pc := 45) E.1 E.2.1 dX12_owes_45 ?_
            refine lv_topi (fun v_30 ev_30 => ?_)
            have hv_30 : v_30.toInt = 16 + x_6.toInt := by rw [ev_30]; exact addE (by decide +kernel) rfl (by omega)
            refine x_iald (pc := 46) (f := g_7) E hw23 1 rfl (inbE (a := v_30.toInt) rfl (by omega)) dX12_owes_46 ?_
            refine lv_topi (fun v_31 ev_31 => ?_)
            refine lv_iconst (pc := 47) (v := 1) E.1 E.2.1 dX12_owes_47 (by decide +kernel) ?_
            refine lv_iadd (pc := 48) E.1 E.2.1 dX12_owes_48 ?_
            refine lv_topi (fun v_32 ev_32 => ?_)
            refine lv_iconst (pc := 49) (v := 0) E.1 E.2.1 dX12_owes_49 (by decide +kernel) ?_
            refine lv_bipush (pc := 50) (v := 99) E.1 E.2.1 dX12_owes_50 (by decide +kernel) ?_
            refine cm_i (pc := 52) hw23 (rn_M (As := [.int v_32, .int 0, .int 99]) (rest := [.int v_29, .ref (mr 1)]) E hw23 (s_held l D cI cJ _ M mr mi (va_up mf 1 g_7) mg v_32 0 99 (by show (0 : Int32).toInt ≤ (99 : Int32).toInt; have k_0 : (0 : Int32).toInt = 0 := (by decide +kernel); have k_1 : (99 : Int32).toInt = 99 := (by decide +kernel); omega)) (gdV q_1895 q_1897 q_106 q_162 q_1898) hdV_X12_held ⟨rfl, rfl⟩ ⟨(Nat.le_of_ble_eq_true rfl), (Nat.le_of_ble_eq_true rfl)⟩ ⟨(Nat.le_of_ble_eq_true rfl), (Nat.le_of_ble_eq_true rfl)⟩ 12 rfl rfl rfl rfl hl16.1 rfl (Nat.le_of_ble_eq_true rfl) dX12_owes_52) (fun r_34 u_33 H1 locs hp hw35 => ?_)
            generalize H1 = H at hw35 ⊢
            have hw36 : WD D A s.heap (MW cI cJ M mr mi (va_up mf 1 g_7) mg) H locs := hw35
            have hp_37 := hp
            have hp_37 : (0 : Int32).toInt ≤ r_34.toInt ∧ r_34.toInt ≤ (99 : Int32).toInt := hp_37
            rw [show (0 : Int32).toInt = 0 from by decide +kernel] at hp_37
            rw [show (99 : Int32).toInt = 99 from by decide +kernel] at hp_37
            refine x_iastG (pc := 55) (f := g_7) (wf := fun g => (MW cI cJ M mr mi (va_up mf 1 g) mg)) E hw36 1 rfl (inbE (a := v_29.toInt) rfl (by omega)) (fun _ => rfl) dX12_owes_55 (fun g_38 H locs eg_38 hw39 => ?_)
            have ht_40 : (g_38 2).toInt = (g_7 2).toInt := by rw [eg_38, pk_un (by have q9 := idxI (x := v_29) (by omega); omega)]
            have ht_41 : (g_38 3).toInt = (g_7 3).toInt := by rw [eg_38, pk_un (by have q9 := idxI (x := v_29) (by omega); omega)]
            have ht_42 : (g_38 5).toInt = (g_7 5).toInt := by rw [eg_38, pk_un (by have q9 := idxI (x := v_29) (by omega); omega)]
            obtain ⟨v_43, ev_43⟩ : ∃ z : Int32, x_6 + Int32.ofInt (1) = z := ⟨_, rfl⟩
            have hv_43 : v_43.toInt = x_6.toInt + (1) := by rw [← ev_43]; exact incE rfl (by decide) (by omega)
            refine lv_iinc (pc := 56) (v := v_43) (lv' := [(1, .int v_43), (2, .int r_13), (0, .ref M)]) E.1 E.2.1 dX12_owes_56 hl16 (k := 1) rfl ev_43 (by decide) rfl (fun ls hl44 => ?_)
            refine lv_goto (pc := 59) (tgt := 2) E.1 E.2.1 dX12_owes_59 (by decide) ?_
            exact ih_8 v_43 g_38 _ _ _ ⟨(by show 0 ≤ v_43.toInt; omega), (by show v_43.toInt ≤ (mi 6).toInt; omega), (by show (g_38 2).toInt = ((mf 1) 2).toInt; omega), (by show (g_38 3).toInt = ((mf 1) 3).toInt; omega), (by show (g_38 5).toInt = ((mf 1) 5).toInt; omega)⟩ (by omega) hw39 (lv_sub hl44 [0, 2] rfl)
  exact loop_5 (Int.toNat ((mi 6).toInt - 0) + 1) 0 (mf 1) _ _ _ ⟨(by show 0 ≤ (0 : Int32).toInt; have k_0 : (0 : Int32).toInt = 0 := (by decide +kernel); omega), (by show (0 : Int32).toInt ≤ (mi 6).toInt; have k_0 : (0 : Int32).toInt = 0 := (by decide +kernel); omega), rfl, rfl, rfl⟩ (by have k_0 : (0 : Int32).toInt = 0 := (by decide +kernel); omega) hw1 (lv_sub hl4 [0, 1] rfl)

set_option maxHeartbeats 4000000 in
set_option maxRecDepth 100000 in
theorem s_canBe (l : Launch) (D : va_G) (cI cJ : ClassId) (sz M : Nat) (mr : Nat → Nat) (mi : Nat → Int32) (mf : Nat → Nat → Int32) (mg : Nat → Nat → Int64) (z_n : Int32) (z_h : Int32) (h0 : 0 ≤ (mi 17).toInt ∧ (mi 17).toInt ≤ 8) : Met l yX12_canBe (Cond.code yX12_canBe cX12_canBe 4 (some .boolean) :: GW) ({ frames := 1, cells := 0, slots := 0, locals := 40 } : Room) (va_Pc [.ref M, .int z_n, .int z_h] (PW D cI cJ sz (MW cI cJ M mr mi mf mg) xT)) (va_Qi (fun (r : Int32) (u : Unit) => (0 ≤ r.toInt ∧ r.toInt ≤ 1)) (fun u => QW D cI cJ (va_A (MW cI cJ M mr mi mf mg) sz) ((fun (u : Unit) => (MW cI cJ M mr mi mf mg)) u)) (va_A (MW cI cJ M mr mi mf mg) sz)) 0 0 (va_A (MW cI cJ M mr mi mf mg) sz) := by
  refine mk_met (y := yX12_canBe) (bytes := cX12_canBe) (maxL := 4) (avs := [.ref M, .int z_n, .int z_h]) (WS := (MW cI cJ M mr mi mf mg)) (Qf := fun A => va_Qi (fun (r : Int32) (u : Unit) => (0 ≤ r.toInt ∧ r.toInt ≤ 1)) (fun u => QW D cI cJ A ((fun (u : Unit) => (MW cI cJ M mr mi mf mg)) u)) A) (by decide) (Nat.le_of_ble_eq_true rfl) ?_
  intro p e s m below meth c A ls E hr hlk hnm hX hw1 hl2
  have hl3 : lv_has ls 4 [(0, .ref M), (1, .int z_n), (2, .int z_h)] := hl2
  refine lv_iconst (pc := 0) (v := 0) E.1 E.2.1 dX12_canBe_0 (by decide +kernel) ?_
  refine lv_istore_n (pc := 1) (lv' := [(3, .int 0), (0, .ref M), (1, .int z_n), (2, .int z_h)]) E.1 E.2.1 dX12_canBe_1 rfl hl3 (by decide) rfl (fun ls hl4 => ?_)
  have loop_5 : ∀ (k : Nat) (x_6 : Int32) (H : Heap) (locs : List Loc) (ls : Array Slot), (0 ≤ x_6.toInt) ∧ (x_6.toInt ≤ (mi 17).toInt) → (mi 17).toInt - x_6.toInt < (k : Int) → WD D A s.heap (MW cI cJ M mr mi mf mg) H locs → lv_has ls 4 [(3, .int x_6), (0, .ref M), (1, .int z_n), (2, .int z_h)] → W p l e ({ frames := 1, cells := 0, slots := 0, locals := 40 } : Room) s m ([.ref M, .int z_n, .int z_h] : List Value).toArray below meth c H locs 0 0 (MQ below (va_Qi (fun (r : Int32) (u : Unit) => (0 ≤ r.toInt ∧ r.toInt ≤ 1)) (fun u => QW D cI cJ A ((fun (u : Unit) => (MW cI cJ M mr mi mf mg)) u)) A) ([.ref M, .int z_n, .int z_h] : List Value).toArray s 0 0 A) (F0 m 2 ls []) := by
    intro k
    induction k with
    | zero =>
      intro x_6 _ _ _ hinv hm
      obtain ⟨hi_6_0, hi_6_1⟩ := hinv
      exact absurd hm (by omega)
    | succ k ih_7 =>
      intro x_6 H locs ls hinv hm hw8 hl9
      obtain ⟨hi_6_0, hi_6_1⟩ := hinv
      refine lv_iload_n (pc := 2) E.1 E.2.1 dX12_canBe_2 rfl (lv_at hl9 0 rfl) ?_
      refine lv_aload_n (pc := 3) E.1 E.2.1 dX12_canBe_3 rfl (lv_at hl9 1 rfl) ?_
      refine x_get (pc := 4) (T := TX12) (N := 70) (ci := 12) (v := .int (mi 17)) E hw8 inX12 0 17 q_1416 rfl rfl (by decide) rfl rfl dX12_canBe_4 ?_
      refine lv_icmp_ge (pc := 7) (tgt := 41) E.1 E.2.1 dX12_canBe_7 (by decide) (fun c_10 => ?_) (fun c_10 => ?_)
      · skip
        have hc_10 := leE (a := (mi 17).toInt) (b := x_6.toInt) rfl rfl c_10
        refine lv_iconst (pc := 41) (v := 1) E.1 E.2.1 dX12_canBe_41 (by decide +kernel) ?_
        exact em_z (w1 := (fun (u : Unit) => (MW cI cJ M mr mi mf mg))) E hr hlk () hw8 (by show 0 ≤ (1 : Int32).toInt ∧ (1 : Int32).toInt ≤ 1; have k_0 : (1 : Int32).toInt = 1 := (by decide +kernel); omega) (by decide +kernel) (Nat.le_of_ble_eq_true rfl) (Nat.le_of_ble_eq_true rfl) dX12_canBe_42
      · skip
        have hc_10 := nleE (a := (mi 17).toInt) (b := x_6.toInt) rfl rfl c_10
        refine lv_aload_n (pc := 10) E.1 E.2.1 dX12_canBe_10 rfl (lv_at hl9 1 rfl) ?_
        refine x_get (pc := 11) (T := TX12) (N := 70) (ci := 12) (v := .ref (mr 18)) E hw8 inX12 0 18 q_1417 rfl rfl (by decide) rfl rfl dX12_canBe_11 ?_
        refine lv_iload_n (pc := 14) E.1 E.2.1 dX12_canBe_14 rfl (lv_at hl9 0 rfl) ?_
        refine x_iald (pc := 15) (f := (mf 18)) E hw8 10 rfl (inbE (a := x_6.toInt) rfl (by omega)) dX12_canBe_15 ?_
        refine lv_topi (fun v_11 ev_11 => ?_)
        refine lv_iload_n (pc := 16) E.1 E.2.1 dX12_canBe_16 rfl (lv_at hl9 2 rfl) ?_
        refine lv_icmp_ne (pc := 17) (tgt := 35) E.1 E.2.1 dX12_canBe_17 (by decide) (fun c_12 => ?_) (fun c_12 => ?_)
        · skip
          have hc_12 := neE (a := v_11.toInt) (b := z_n.toInt) rfl rfl c_12
          obtain ⟨v_13, ev_13⟩ : ∃ z : Int32, x_6 + Int32.ofInt (1) = z := ⟨_, rfl⟩
          have hv_13 : v_13.toInt = x_6.toInt + (1) := by rw [← ev_13]; exact incE rfl (by decide) (by omega)
          refine lv_iinc (pc := 35) (v := v_13) (lv' := [(3, .int v_13), (0, .ref M), (1, .int z_n), (2, .int z_h)]) E.1 E.2.1 dX12_canBe_35 hl9 (k := 0) rfl ev_13 (by decide) rfl (fun ls hl14 => ?_)
          refine lv_goto (pc := 38) (tgt := 2) E.1 E.2.1 dX12_canBe_38 (by decide) ?_
          exact ih_7 v_13 _ _ _ ⟨(by show 0 ≤ v_13.toInt; omega), (by show v_13.toInt ≤ (mi 17).toInt; omega)⟩ (by omega) hw8 (lv_sub hl14 [0, 1, 2, 3] rfl)
        · skip
          have hc_12 := eqE (a := v_11.toInt) (b := z_n.toInt) rfl rfl c_12
          refine lv_aload_n (pc := 20) E.1 E.2.1 dX12_canBe_20 rfl (lv_at hl9 1 rfl) ?_
          refine x_get (pc := 21) (T := TX12) (N := 70) (ci := 12) (v := .ref (mr 19)) E hw8 inX12 0 19 q_1418 rfl rfl (by decide) rfl rfl dX12_canBe_21 ?_
          refine lv_iload_n (pc := 24) E.1 E.2.1 dX12_canBe_24 rfl (lv_at hl9 0 rfl) ?_
          refine x_iald (pc := 25) (f := (mf 19)) E hw8 11 rfl (inbE (a := x_6.toInt) rfl (by omega)) dX12_canBe_25 ?_
          refine lv_topi (fun v_15 ev_15 => ?_)
          refine lv_iload_n (pc := 26) E.1 E.2.1 dX12_canBe_26 rfl (lv_at hl9 3 rfl) ?_
          refine lv_ishr (pc := 27) E.1 E.2.1 dX12_canBe_27 ?_
          refine lv_topi (fun v_16 ev_16 => ?_)
          refine lv_iconst (pc := 28) (v := 1) E.1 E.2.1 dX12_canBe_28 (by decide +kernel) ?_
          refine lv_iand (pc := 29) E.1 E.2.1 dX12_canBe_29 ?_
          refine lv_topi (fun v_17 ev_17 => ?_)
          refine lv_if_ne (pc := 30) (tgt := 35) E.1 E.2.1 dX12_canBe_30 (by decide) (fun c_18 => ?_) (fun c_18 => ?_)
          · skip
            have hc_18 := neE (a := v_17.toInt) (b := 0) rfl (by decide +kernel) c_18
            obtain ⟨v_19, ev_19⟩ : ∃ z : Int32, x_6 + Int32.ofInt (1) = z := ⟨_, rfl⟩
            have hv_19 : v_19.toInt = x_6.toInt + (1) := by rw [← ev_19]; exact incE rfl (by decide) (by omega)
            refine lv_iinc (pc := 35) (v := v_19) (lv' := [(3, .int v_19), (0, .ref M), (1, .int z_n), (2, .int z_h)]) E.1 E.2.1 dX12_canBe_35 hl9 (k := 0) rfl ev_19 (by decide) rfl (fun ls hl20 => ?_)
            refine lv_goto (pc := 38) (tgt := 2) E.1 E.2.1 dX12_canBe_38 (by decide) ?_
            exact ih_7 v_19 _ _ _ ⟨(by show 0 ≤ v_19.toInt; omega), (by show v_19.toInt ≤ (mi 17).toInt; omega)⟩ (by omega) hw8 (lv_sub hl20 [0, 1, 2, 3] rfl)
          · skip
            have hc_18 := eqE (a := v_17.toInt) (b := 0) rfl (by decide +kernel) c_18
            refine lv_iconst (pc := 33) (v := 0) E.1 E.2.1 dX12_canBe_33 (by decide +kernel) ?_
            exact em_z (w1 := (fun (u : Unit) => (MW cI cJ M mr mi mf mg))) E hr hlk () hw8 (by show 0 ≤ (0 : Int32).toInt ∧ (0 : Int32).toInt ≤ 1; have k_0 : (0 : Int32).toInt = 0 := (by decide +kernel); omega) (by decide +kernel) (Nat.le_of_ble_eq_true rfl) (Nat.le_of_ble_eq_true rfl) dX12_canBe_34
  exact loop_5 (Int.toNat ((mi 17).toInt - 0) + 1) 0 _ _ _ ⟨(by show 0 ≤ (0 : Int32).toInt; have k_0 : (0 : Int32).toInt = 0 := (by decide +kernel); omega), (by show (0 : Int32).toInt ≤ (mi 17).toInt; have k_0 : (0 : Int32).toInt = 0 := (by decide +kernel); omega)⟩ (by have k_0 : (0 : Int32).toInt = 0 := (by decide +kernel); omega) hw1 (lv_sub hl4 [0, 1, 2, 3] rfl)

set_option maxHeartbeats 4000000 in
set_option maxRecDepth 100000 in
theorem s_sumOf_64 (l : Launch) (D : va_G) (cI cJ : ClassId) (sz M : Nat) (mr : Nat → Nat) (mi : Nat → Int32) (mf : Nat → Nat → Int32) (mg : Nat → Nat → Int64) (z_n : Int32) (z_h : Int32) (h0 : 0 ≤ (mi 6).toInt ∧ (mi 6).toInt ≤ 10) (h1 : 0 ≤ z_n.toInt ∧ z_n.toInt ≤ 9) (h2 : 0 ≤ z_h.toInt ∧ z_h.toInt ≤ 9) : Met l yX12_sumOf (Cond.code yX12_sumOf cX12_sumOf 7 (some .long) :: GW) ({ frames := 3, cells := 0, slots := 0, locals := 82 } : Room) (va_Pc [.ref M, .ref (mr 64), .int z_n, .int z_h] (PW D cI cJ sz (MW cI cJ M mr mi mf mg) xT)) (va_Ql (fun (r : Int64) (u : Unit) => True) (fun u => QW D cI cJ (va_A (MW cI cJ M mr mi mf mg) sz) ((fun (u : Unit) => (MW cI cJ M mr mi mf mg)) u)) (va_A (MW cI cJ M mr mi mf mg) sz)) 0 0 (va_A (MW cI cJ M mr mi mf mg) sz) := by
  refine mk_met (y := yX12_sumOf) (bytes := cX12_sumOf) (maxL := 7) (avs := [.ref M, .ref (mr 64), .int z_n, .int z_h]) (WS := (MW cI cJ M mr mi mf mg)) (Qf := fun A => va_Ql (fun (r : Int64) (u : Unit) => True) (fun u => QW D cI cJ A ((fun (u : Unit) => (MW cI cJ M mr mi mf mg)) u)) A) (by decide) (Nat.le_of_ble_eq_true rfl) ?_
  intro p e s m below meth c A ls E hr hlk hnm hX hw1 hl2
  have hl3 : lv_has ls 7 [(0, .ref M), (1, .ref (mr 64)), (2, .int z_n), (3, .int z_h)] := hl2
  refine lv_lconst (pc := 0) (v := 0) E.1 E.2.1 dX12_sumOf_0 (by decide +kernel) ?_
  refine lv_lstore (pc := 1) (lv' := [(4, .long 0), (0, .ref M), (1, .ref (mr 64)), (2, .int z_n), (3, .int z_h)]) E.1 E.2.1 dX12_sumOf_1 hl3 (by decide) rfl (fun ls hl4 => ?_)
  refine lv_iconst (pc := 3) (v := 0) E.1 E.2.1 dX12_sumOf_3 (by decide +kernel) ?_
  refine lv_istore (pc := 4) (lv' := [(6, .int 0), (4, .long 0), (0, .ref M), (1, .ref (mr 64)), (2, .int z_n), (3, .int z_h)]) E.1 E.2.1 dX12_sumOf_4 hl4 (by decide) rfl (fun ls hl5 => ?_)
  have loop_6 : ∀ (k : Nat) (x_7 : Int32) (w_8 : Int64) (H : Heap) (locs : List Loc) (ls : Array Slot), (0 ≤ x_7.toInt) ∧ (x_7.toInt ≤ (mi 6).toInt) → (mi 6).toInt - x_7.toInt < (k : Int) → WD D A s.heap (MW cI cJ M mr mi mf mg) H locs → lv_has ls 7 [(6, .int x_7), (4, .long w_8), (0, .ref M), (1, .ref (mr 64)), (2, .int z_n), (3, .int z_h)] → W p l e ({ frames := 3, cells := 0, slots := 0, locals := 82 } : Room) s m ([.ref M, .ref (mr 64), .int z_n, .int z_h] : List Value).toArray below meth c H locs 0 0 (MQ below (va_Ql (fun (r : Int64) (u : Unit) => True) (fun u => QW D cI cJ A ((fun (u : Unit) => (MW cI cJ M mr mi mf mg)) u)) A) ([.ref M, .ref (mr 64), .int z_n, .int z_h] : List Value).toArray s 0 0 A) (F0 m 6 ls []) := by
    intro k
    induction k with
    | zero =>
      intro x_7 w_8 _ _ _ hinv hm
      obtain ⟨hi_8_0, hi_8_1⟩ := hinv
      exact absurd hm (by omega)
    | succ k ih_9 =>
      intro x_7 w_8 H locs ls hinv hm hw10 hl11
      obtain ⟨hi_8_0, hi_8_1⟩ := hinv
      refine lv_iload (pc := 6) E.1 E.2.1 dX12_sumOf_6 (lv_at hl11 0 rfl) ?_
      refine lv_aload_n (pc := 8) E.1 E.2.1 dX12_sumOf_8 rfl (lv_at hl11 2 rfl) ?_
      refine x_get (pc := 9) (T := TX12) (N := 70) (ci := 12) (v := .int (mi 6)) E hw10 inX12 0 6 q_1405 rfl rfl (by decide) rfl rfl dX12_sumOf_9 ?_
      refine lv_icmp_ge (pc := 12) (tgt := 45) E.1 E.2.1 dX12_sumOf_12 (by decide) (fun c_12 => ?_) (fun c_12 => ?_)
      · skip
        have hc_12 := leE (a := (mi 6).toInt) (b := x_7.toInt) rfl rfl c_12
        refine lv_lload (pc := 45) E.1 E.2.1 dX12_sumOf_45 (lv_at hl11 1 rfl) ?_
        exact em_l (w1 := (fun (u : Unit) => (MW cI cJ M mr mi mf mg))) E hr hlk () hw10 trivial (Nat.le_of_ble_eq_true rfl) (Nat.le_of_ble_eq_true rfl) dX12_sumOf_47
      · skip
        have hc_12 := nleE (a := (mi 6).toInt) (b := x_7.toInt) rfl rfl c_12
        refine lv_aload_n (pc := 15) E.1 E.2.1 dX12_sumOf_15 rfl (lv_at hl11 2 rfl) ?_
        refine lv_iload (pc := 16) E.1 E.2.1 dX12_sumOf_16 (lv_at hl11 0 rfl) ?_
        refine lv_iload_n (pc := 18) E.1 E.2.1 dX12_sumOf_18 rfl (lv_at hl11 5 rfl) ?_
        refine cm_i (pc := 19) hw10 (rn_M (As := [.int x_7, .int z_h]) (rest := []) E hw10 (s_isReached l D cI cJ _ M mr mi mf mg x_7 z_h (by show 0 ≤ x_7.toInt ∧ x_7.toInt ≤ 9; omega) h2) (gdV q_1843 q_1845 q_93 q_162 q_1846) hdV_X12_isReached ⟨rfl, rfl⟩ ⟨(Nat.le_of_ble_eq_true rfl), (Nat.le_of_ble_eq_true rfl)⟩ ⟨(Nat.le_of_ble_eq_true rfl), (Nat.le_of_ble_eq_true rfl)⟩ 12 rfl rfl rfl rfl hl11.1 rfl (Nat.le_of_ble_eq_true rfl) dX12_sumOf_19) (fun r_14 u_13 H1 locs hp hw15 => ?_)
        generalize H1 = H at hw15 ⊢
        have hw16 : WD D A s.heap (MW cI cJ M mr mi mf mg) H locs := hw15
        have hp_17 := hp
        rcases hp_17 with ⟨rfl, ha_18⟩ | rfl | ⟨rfl, ha_19⟩
        · skip
          have ha_18 : x_7.toInt = z_h.toInt := ha_18
          refine lv_if_eq (pc := 22) (tgt := 39) E.1 E.2.1 dX12_sumOf_22 (by decide) (fun c_20 => absurd c_20 (mneE (a := 1) (b := 0) (by decide +kernel) (by decide +kernel) (by omega))) (fun _ => ?_)
          refine lv_lload (pc := 25) E.1 E.2.1 dX12_sumOf_25 (lv_at hl11 1 rfl) ?_
          refine lv_aload_n (pc := 27) E.1 E.2.1 dX12_sumOf_27 rfl (lv_at hl11 3 rfl) ?_
          refine lv_bipush (pc := 28) (v := 10) E.1 E.2.1 dX12_sumOf_28 (by decide +kernel) ?_
          refine lv_iload_n (pc := 30) E.1 E.2.1 dX12_sumOf_30 rfl (lv_at hl11 4 rfl) ?_
          refine lv_imul (pc := 31) E.1 E.2.1 dX12_sumOf_31 ?_
          refine lv_topi (fun v_21 ev_21 => ?_)
          have hv_21 : v_21.toInt = 10 * z_n.toInt := by rw [ev_21]; exact mulE (by decide +kernel) rfl (by omega)
          refine lv_iload (pc := 32) E.1 E.2.1 dX12_sumOf_32 (lv_at hl11 0 rfl) ?_
          refine lv_iadd (pc := 34) E.1 E.2.1 dX12_sumOf_34 ?_
          refine lv_topi (fun v_22 ev_22 => ?_)
          have hv_22 : v_22.toInt = v_21.toInt + x_7.toInt := by rw [ev_22]; exact addE rfl rfl (by omega)
          refine x_lald (pc := 35) (f := (mg 64)) E hw16 36 rfl (inbE (a := v_22.toInt) rfl (by omega)) dX12_sumOf_35 (fun w_23 => ?_)
          refine lv_ladd (pc := 36) E.1 E.2.1 dX12_sumOf_36 ?_
          refine lv_topl (fun w_24 _ => ?_)
          refine lv_lstore (pc := 37) (lv' := [(4, .long w_24), (6, .int x_7), (0, .ref M), (1, .ref (mr 64)), (2, .int z_n), (3, .int z_h)]) E.1 E.2.1 dX12_sumOf_37 hl11 (by decide) rfl (fun ls hl25 => ?_)
          obtain ⟨v_26, ev_26⟩ : ∃ z : Int32, x_7 + Int32.ofInt (1) = z := ⟨_, rfl⟩
          have hv_26 : v_26.toInt = x_7.toInt + (1) := by rw [← ev_26]; exact incE rfl (by decide) (by omega)
          refine lv_iinc (pc := 39) (v := v_26) (lv' := [(6, .int v_26), (4, .long w_24), (0, .ref M), (1, .ref (mr 64)), (2, .int z_n), (3, .int z_h)]) E.1 E.2.1 dX12_sumOf_39 hl25 (k := 1) rfl ev_26 (by decide) rfl (fun ls hl27 => ?_)
          refine lv_goto (pc := 42) (tgt := 6) E.1 E.2.1 dX12_sumOf_42 (by decide) ?_
          exact ih_9 v_26 w_24 _ _ _ ⟨(by show 0 ≤ v_26.toInt; omega), (by show v_26.toInt ≤ (mi 6).toInt; omega)⟩ (by omega) hw16 (lv_sub hl27 [0, 1, 2, 3, 4, 5] rfl)
        · skip
          refine lv_if_eq (pc := 22) (tgt := 39) E.1 E.2.1 dX12_sumOf_22 (by decide) (fun c_28 => absurd c_28 (mneE (a := 1) (b := 0) (by decide +kernel) (by decide +kernel) (by omega))) (fun _ => ?_)
          refine lv_lload (pc := 25) E.1 E.2.1 dX12_sumOf_25 (lv_at hl11 1 rfl) ?_
          refine lv_aload_n (pc := 27) E.1 E.2.1 dX12_sumOf_27 rfl (lv_at hl11 3 rfl) ?_
          refine lv_bipush (pc := 28) (v := 10) E.1 E.2.1 dX12_sumOf_28 (by decide +kernel) ?_
          refine lv_iload_n (pc := 30) E.1 E.2.1 dX12_sumOf_30 rfl (lv_at hl11 4 rfl) ?_
          refine lv_imul (pc := 31) E.1 E.2.1 dX12_sumOf_31 ?_
          refine lv_topi (fun v_29 ev_29 => ?_)
          have hv_29 : v_29.toInt = 10 * z_n.toInt := by rw [ev_29]; exact mulE (by decide +kernel) rfl (by omega)
          refine lv_iload (pc := 32) E.1 E.2.1 dX12_sumOf_32 (lv_at hl11 0 rfl) ?_
          refine lv_iadd (pc := 34) E.1 E.2.1 dX12_sumOf_34 ?_
          refine lv_topi (fun v_30 ev_30 => ?_)
          have hv_30 : v_30.toInt = v_29.toInt + x_7.toInt := by rw [ev_30]; exact addE rfl rfl (by omega)
          refine x_lald (pc := 35) (f := (mg 64)) E hw16 36 rfl (inbE (a := v_30.toInt) rfl (by omega)) dX12_sumOf_35 (fun w_31 => ?_)
          refine lv_ladd (pc := 36) E.1 E.2.1 dX12_sumOf_36 ?_
          refine lv_topl (fun w_32 _ => ?_)
          refine lv_lstore (pc := 37) (lv' := [(4, .long w_32), (6, .int x_7), (0, .ref M), (1, .ref (mr 64)), (2, .int z_n), (3, .int z_h)]) E.1 E.2.1 dX12_sumOf_37 hl11 (by decide) rfl (fun ls hl33 => ?_)
          obtain ⟨v_34, ev_34⟩ : ∃ z : Int32, x_7 + Int32.ofInt (1) = z := ⟨_, rfl⟩
          have hv_34 : v_34.toInt = x_7.toInt + (1) := by rw [← ev_34]; exact incE rfl (by decide) (by omega)
          refine lv_iinc (pc := 39) (v := v_34) (lv' := [(6, .int v_34), (4, .long w_32), (0, .ref M), (1, .ref (mr 64)), (2, .int z_n), (3, .int z_h)]) E.1 E.2.1 dX12_sumOf_39 hl33 (k := 1) rfl ev_34 (by decide) rfl (fun ls hl35 => ?_)
          refine lv_goto (pc := 42) (tgt := 6) E.1 E.2.1 dX12_sumOf_42 (by decide) ?_
          exact ih_9 v_34 w_32 _ _ _ ⟨(by show 0 ≤ v_34.toInt; omega), (by show v_34.toInt ≤ (mi 6).toInt; omega)⟩ (by omega) hw16 (lv_sub hl35 [0, 1, 2, 3, 4, 5] rfl)
        · skip
          have ha_19 : ¬ x_7.toInt = z_h.toInt := ha_19
          refine lv_if_eq (pc := 22) (tgt := 39) E.1 E.2.1 dX12_sumOf_22 (by decide) (fun _ => ?_) (fun c_36 => absurd (meqE (a := 0) (b := 0) (by decide +kernel) (by decide +kernel) (by omega)) c_36)
          obtain ⟨v_37, ev_37⟩ : ∃ z : Int32, x_7 + Int32.ofInt (1) = z := ⟨_, rfl⟩
          have hv_37 : v_37.toInt = x_7.toInt + (1) := by rw [← ev_37]; exact incE rfl (by decide) (by omega)
          refine lv_iinc (pc := 39) (v := v_37) (lv' := [(6, .int v_37), (4, .long w_8), (0, .ref M), (1, .ref (mr 64)), (2, .int z_n), (3, .int z_h)]) E.1 E.2.1 dX12_sumOf_39 hl11 (k := 0) rfl ev_37 (by decide) rfl (fun ls hl38 => ?_)
          refine lv_goto (pc := 42) (tgt := 6) E.1 E.2.1 dX12_sumOf_42 (by decide) ?_
          exact ih_9 v_37 w_8 _ _ _ ⟨(by show 0 ≤ v_37.toInt; omega), (by show v_37.toInt ≤ (mi 6).toInt; omega)⟩ (by omega) hw16 (lv_sub hl38 [0, 1, 2, 3, 4, 5] rfl)
  exact loop_6 (Int.toNat ((mi 6).toInt - 0) + 1) 0 0 _ _ _ ⟨(by show 0 ≤ (0 : Int32).toInt; have k_0 : (0 : Int32).toInt = 0 := (by decide +kernel); omega), (by show (0 : Int32).toInt ≤ (mi 6).toInt; have k_0 : (0 : Int32).toInt = 0 := (by decide +kernel); omega)⟩ (by have k_0 : (0 : Int32).toInt = 0 := (by decide +kernel); omega) hw1 (lv_sub hl5 [0, 1, 2, 3, 4, 5] rfl)

set_option maxHeartbeats 4000000 in
set_option maxRecDepth 100000 in
theorem s_sumOf_65 (l : Launch) (D : va_G) (cI cJ : ClassId) (sz M : Nat) (mr : Nat → Nat) (mi : Nat → Int32) (mf : Nat → Nat → Int32) (mg : Nat → Nat → Int64) (z_n : Int32) (z_h : Int32) (h0 : 0 ≤ (mi 6).toInt ∧ (mi 6).toInt ≤ 10) (h1 : 0 ≤ z_n.toInt ∧ z_n.toInt ≤ 9) (h2 : 0 ≤ z_h.toInt ∧ z_h.toInt ≤ 9) : Met l yX12_sumOf (Cond.code yX12_sumOf cX12_sumOf 7 (some .long) :: GW) ({ frames := 3, cells := 0, slots := 0, locals := 82 } : Room) (va_Pc [.ref M, .ref (mr 65), .int z_n, .int z_h] (PW D cI cJ sz (MW cI cJ M mr mi mf mg) xT)) (va_Ql (fun (r : Int64) (u : Unit) => True) (fun u => QW D cI cJ (va_A (MW cI cJ M mr mi mf mg) sz) ((fun (u : Unit) => (MW cI cJ M mr mi mf mg)) u)) (va_A (MW cI cJ M mr mi mf mg) sz)) 0 0 (va_A (MW cI cJ M mr mi mf mg) sz) := by
  refine mk_met (y := yX12_sumOf) (bytes := cX12_sumOf) (maxL := 7) (avs := [.ref M, .ref (mr 65), .int z_n, .int z_h]) (WS := (MW cI cJ M mr mi mf mg)) (Qf := fun A => va_Ql (fun (r : Int64) (u : Unit) => True) (fun u => QW D cI cJ A ((fun (u : Unit) => (MW cI cJ M mr mi mf mg)) u)) A) (by decide) (Nat.le_of_ble_eq_true rfl) ?_
  intro p e s m below meth c A ls E hr hlk hnm hX hw1 hl2
  have hl3 : lv_has ls 7 [(0, .ref M), (1, .ref (mr 65)), (2, .int z_n), (3, .int z_h)] := hl2
  refine lv_lconst (pc := 0) (v := 0) E.1 E.2.1 dX12_sumOf_0 (by decide +kernel) ?_
  refine lv_lstore (pc := 1) (lv' := [(4, .long 0), (0, .ref M), (1, .ref (mr 65)), (2, .int z_n), (3, .int z_h)]) E.1 E.2.1 dX12_sumOf_1 hl3 (by decide) rfl (fun ls hl4 => ?_)
  refine lv_iconst (pc := 3) (v := 0) E.1 E.2.1 dX12_sumOf_3 (by decide +kernel) ?_
  refine lv_istore (pc := 4) (lv' := [(6, .int 0), (4, .long 0), (0, .ref M), (1, .ref (mr 65)), (2, .int z_n), (3, .int z_h)]) E.1 E.2.1 dX12_sumOf_4 hl4 (by decide) rfl (fun ls hl5 => ?_)
  have loop_6 : ∀ (k : Nat) (x_7 : Int32) (w_8 : Int64) (H : Heap) (locs : List Loc) (ls : Array Slot), (0 ≤ x_7.toInt) ∧ (x_7.toInt ≤ (mi 6).toInt) → (mi 6).toInt - x_7.toInt < (k : Int) → WD D A s.heap (MW cI cJ M mr mi mf mg) H locs → lv_has ls 7 [(6, .int x_7), (4, .long w_8), (0, .ref M), (1, .ref (mr 65)), (2, .int z_n), (3, .int z_h)] → W p l e ({ frames := 3, cells := 0, slots := 0, locals := 82 } : Room) s m ([.ref M, .ref (mr 65), .int z_n, .int z_h] : List Value).toArray below meth c H locs 0 0 (MQ below (va_Ql (fun (r : Int64) (u : Unit) => True) (fun u => QW D cI cJ A ((fun (u : Unit) => (MW cI cJ M mr mi mf mg)) u)) A) ([.ref M, .ref (mr 65), .int z_n, .int z_h] : List Value).toArray s 0 0 A) (F0 m 6 ls []) := by
    intro k
    induction k with
    | zero =>
      intro x_7 w_8 _ _ _ hinv hm
      obtain ⟨hi_8_0, hi_8_1⟩ := hinv
      exact absurd hm (by omega)
    | succ k ih_9 =>
      intro x_7 w_8 H locs ls hinv hm hw10 hl11
      obtain ⟨hi_8_0, hi_8_1⟩ := hinv
      refine lv_iload (pc := 6) E.1 E.2.1 dX12_sumOf_6 (lv_at hl11 0 rfl) ?_
      refine lv_aload_n (pc := 8) E.1 E.2.1 dX12_sumOf_8 rfl (lv_at hl11 2 rfl) ?_
      refine x_get (pc := 9) (T := TX12) (N := 70) (ci := 12) (v := .int (mi 6)) E hw10 inX12 0 6 q_1405 rfl rfl (by decide) rfl rfl dX12_sumOf_9 ?_
      refine lv_icmp_ge (pc := 12) (tgt := 45) E.1 E.2.1 dX12_sumOf_12 (by decide) (fun c_12 => ?_) (fun c_12 => ?_)
      · skip
        have hc_12 := leE (a := (mi 6).toInt) (b := x_7.toInt) rfl rfl c_12
        refine lv_lload (pc := 45) E.1 E.2.1 dX12_sumOf_45 (lv_at hl11 1 rfl) ?_
        exact em_l (w1 := (fun (u : Unit) => (MW cI cJ M mr mi mf mg))) E hr hlk () hw10 trivial (Nat.le_of_ble_eq_true rfl) (Nat.le_of_ble_eq_true rfl) dX12_sumOf_47
      · skip
        have hc_12 := nleE (a := (mi 6).toInt) (b := x_7.toInt) rfl rfl c_12
        refine lv_aload_n (pc := 15) E.1 E.2.1 dX12_sumOf_15 rfl (lv_at hl11 2 rfl) ?_
        refine lv_iload (pc := 16) E.1 E.2.1 dX12_sumOf_16 (lv_at hl11 0 rfl) ?_
        refine lv_iload_n (pc := 18) E.1 E.2.1 dX12_sumOf_18 rfl (lv_at hl11 5 rfl) ?_
        refine cm_i (pc := 19) hw10 (rn_M (As := [.int x_7, .int z_h]) (rest := []) E hw10 (s_isReached l D cI cJ _ M mr mi mf mg x_7 z_h (by show 0 ≤ x_7.toInt ∧ x_7.toInt ≤ 9; omega) h2) (gdV q_1843 q_1845 q_93 q_162 q_1846) hdV_X12_isReached ⟨rfl, rfl⟩ ⟨(Nat.le_of_ble_eq_true rfl), (Nat.le_of_ble_eq_true rfl)⟩ ⟨(Nat.le_of_ble_eq_true rfl), (Nat.le_of_ble_eq_true rfl)⟩ 12 rfl rfl rfl rfl hl11.1 rfl (Nat.le_of_ble_eq_true rfl) dX12_sumOf_19) (fun r_14 u_13 H1 locs hp hw15 => ?_)
        generalize H1 = H at hw15 ⊢
        have hw16 : WD D A s.heap (MW cI cJ M mr mi mf mg) H locs := hw15
        have hp_17 := hp
        rcases hp_17 with ⟨rfl, ha_18⟩ | rfl | ⟨rfl, ha_19⟩
        · skip
          have ha_18 : x_7.toInt = z_h.toInt := ha_18
          refine lv_if_eq (pc := 22) (tgt := 39) E.1 E.2.1 dX12_sumOf_22 (by decide) (fun c_20 => absurd c_20 (mneE (a := 1) (b := 0) (by decide +kernel) (by decide +kernel) (by omega))) (fun _ => ?_)
          refine lv_lload (pc := 25) E.1 E.2.1 dX12_sumOf_25 (lv_at hl11 1 rfl) ?_
          refine lv_aload_n (pc := 27) E.1 E.2.1 dX12_sumOf_27 rfl (lv_at hl11 3 rfl) ?_
          refine lv_bipush (pc := 28) (v := 10) E.1 E.2.1 dX12_sumOf_28 (by decide +kernel) ?_
          refine lv_iload_n (pc := 30) E.1 E.2.1 dX12_sumOf_30 rfl (lv_at hl11 4 rfl) ?_
          refine lv_imul (pc := 31) E.1 E.2.1 dX12_sumOf_31 ?_
          refine lv_topi (fun v_21 ev_21 => ?_)
          have hv_21 : v_21.toInt = 10 * z_n.toInt := by rw [ev_21]; exact mulE (by decide +kernel) rfl (by omega)
          refine lv_iload (pc := 32) E.1 E.2.1 dX12_sumOf_32 (lv_at hl11 0 rfl) ?_
          refine lv_iadd (pc := 34) E.1 E.2.1 dX12_sumOf_34 ?_
          refine lv_topi (fun v_22 ev_22 => ?_)
          have hv_22 : v_22.toInt = v_21.toInt + x_7.toInt := by rw [ev_22]; exact addE rfl rfl (by omega)
          refine x_lald (pc := 35) (f := (mg 65)) E hw16 37 rfl (inbE (a := v_22.toInt) rfl (by omega)) dX12_sumOf_35 (fun w_23 => ?_)
          refine lv_ladd (pc := 36) E.1 E.2.1 dX12_sumOf_36 ?_
          refine lv_topl (fun w_24 _ => ?_)
          refine lv_lstore (pc := 37) (lv' := [(4, .long w_24), (6, .int x_7), (0, .ref M), (1, .ref (mr 65)), (2, .int z_n), (3, .int z_h)]) E.1 E.2.1 dX12_sumOf_37 hl11 (by decide) rfl (fun ls hl25 => ?_)
          obtain ⟨v_26, ev_26⟩ : ∃ z : Int32, x_7 + Int32.ofInt (1) = z := ⟨_, rfl⟩
          have hv_26 : v_26.toInt = x_7.toInt + (1) := by rw [← ev_26]; exact incE rfl (by decide) (by omega)
          refine lv_iinc (pc := 39) (v := v_26) (lv' := [(6, .int v_26), (4, .long w_24), (0, .ref M), (1, .ref (mr 65)), (2, .int z_n), (3, .int z_h)]) E.1 E.2.1 dX12_sumOf_39 hl25 (k := 1) rfl ev_26 (by decide) rfl (fun ls hl27 => ?_)
          refine lv_goto (pc := 42) (tgt := 6) E.1 E.2.1 dX12_sumOf_42 (by decide) ?_
          exact ih_9 v_26 w_24 _ _ _ ⟨(by show 0 ≤ v_26.toInt; omega), (by show v_26.toInt ≤ (mi 6).toInt; omega)⟩ (by omega) hw16 (lv_sub hl27 [0, 1, 2, 3, 4, 5] rfl)
        · skip
          refine lv_if_eq (pc := 22) (tgt := 39) E.1 E.2.1 dX12_sumOf_22 (by decide) (fun c_28 => absurd c_28 (mneE (a := 1) (b := 0) (by decide +kernel) (by decide +kernel) (by omega))) (fun _ => ?_)
          refine lv_lload (pc := 25) E.1 E.2.1 dX12_sumOf_25 (lv_at hl11 1 rfl) ?_
          refine lv_aload_n (pc := 27) E.1 E.2.1 dX12_sumOf_27 rfl (lv_at hl11 3 rfl) ?_
          refine lv_bipush (pc := 28) (v := 10) E.1 E.2.1 dX12_sumOf_28 (by decide +kernel) ?_
          refine lv_iload_n (pc := 30) E.1 E.2.1 dX12_sumOf_30 rfl (lv_at hl11 4 rfl) ?_
          refine lv_imul (pc := 31) E.1 E.2.1 dX12_sumOf_31 ?_
          refine lv_topi (fun v_29 ev_29 => ?_)
          have hv_29 : v_29.toInt = 10 * z_n.toInt := by rw [ev_29]; exact mulE (by decide +kernel) rfl (by omega)
          refine lv_iload (pc := 32) E.1 E.2.1 dX12_sumOf_32 (lv_at hl11 0 rfl) ?_
          refine lv_iadd (pc := 34) E.1 E.2.1 dX12_sumOf_34 ?_
          refine lv_topi (fun v_30 ev_30 => ?_)
          have hv_30 : v_30.toInt = v_29.toInt + x_7.toInt := by rw [ev_30]; exact addE rfl rfl (by omega)
          refine x_lald (pc := 35) (f := (mg 65)) E hw16 37 rfl (inbE (a := v_30.toInt) rfl (by omega)) dX12_sumOf_35 (fun w_31 => ?_)
          refine lv_ladd (pc := 36) E.1 E.2.1 dX12_sumOf_36 ?_
          refine lv_topl (fun w_32 _ => ?_)
          refine lv_lstore (pc := 37) (lv' := [(4, .long w_32), (6, .int x_7), (0, .ref M), (1, .ref (mr 65)), (2, .int z_n), (3, .int z_h)]) E.1 E.2.1 dX12_sumOf_37 hl11 (by decide) rfl (fun ls hl33 => ?_)
          obtain ⟨v_34, ev_34⟩ : ∃ z : Int32, x_7 + Int32.ofInt (1) = z := ⟨_, rfl⟩
          have hv_34 : v_34.toInt = x_7.toInt + (1) := by rw [← ev_34]; exact incE rfl (by decide) (by omega)
          refine lv_iinc (pc := 39) (v := v_34) (lv' := [(6, .int v_34), (4, .long w_32), (0, .ref M), (1, .ref (mr 65)), (2, .int z_n), (3, .int z_h)]) E.1 E.2.1 dX12_sumOf_39 hl33 (k := 1) rfl ev_34 (by decide) rfl (fun ls hl35 => ?_)
          refine lv_goto (pc := 42) (tgt := 6) E.1 E.2.1 dX12_sumOf_42 (by decide) ?_
          exact ih_9 v_34 w_32 _ _ _ ⟨(by show 0 ≤ v_34.toInt; omega), (by show v_34.toInt ≤ (mi 6).toInt; omega)⟩ (by omega) hw16 (lv_sub hl35 [0, 1, 2, 3, 4, 5] rfl)
        · skip
          have ha_19 : ¬ x_7.toInt = z_h.toInt := ha_19
          refine lv_if_eq (pc := 22) (tgt := 39) E.1 E.2.1 dX12_sumOf_22 (by decide) (fun _ => ?_) (fun c_36 => absurd (meqE (a := 0) (b := 0) (by decide +kernel) (by decide +kernel) (by omega)) c_36)
          obtain ⟨v_37, ev_37⟩ : ∃ z : Int32, x_7 + Int32.ofInt (1) = z := ⟨_, rfl⟩
          have hv_37 : v_37.toInt = x_7.toInt + (1) := by rw [← ev_37]; exact incE rfl (by decide) (by omega)
          refine lv_iinc (pc := 39) (v := v_37) (lv' := [(6, .int v_37), (4, .long w_8), (0, .ref M), (1, .ref (mr 65)), (2, .int z_n), (3, .int z_h)]) E.1 E.2.1 dX12_sumOf_39 hl11 (k := 0) rfl ev_37 (by decide) rfl (fun ls hl38 => ?_)
          refine lv_goto (pc := 42) (tgt := 6) E.1 E.2.1 dX12_sumOf_42 (by decide) ?_
          exact ih_9 v_37 w_8 _ _ _ ⟨(by show 0 ≤ v_37.toInt; omega), (by show v_37.toInt ≤ (mi 6).toInt; omega)⟩ (by omega) hw16 (lv_sub hl38 [0, 1, 2, 3, 4, 5] rfl)
  exact loop_6 (Int.toNat ((mi 6).toInt - 0) + 1) 0 0 _ _ _ ⟨(by show 0 ≤ (0 : Int32).toInt; have k_0 : (0 : Int32).toInt = 0 := (by decide +kernel); omega), (by show (0 : Int32).toInt ≤ (mi 6).toInt; have k_0 : (0 : Int32).toInt = 0 := (by decide +kernel); omega)⟩ (by have k_0 : (0 : Int32).toInt = 0 := (by decide +kernel); omega) hw1 (lv_sub hl5 [0, 1, 2, 3, 4, 5] rfl)

set_option maxHeartbeats 4000000 in
set_option maxRecDepth 100000 in
theorem s_rowsBy (l : Launch) (D : va_G) (cI cJ : ClassId) (sz M : Nat) (mr : Nat → Nat) (mi : Nat → Int32) (mf : Nat → Nat → Int32) (mg : Nat → Nat → Int64) (z_k : Int32) (z_h : Int32) (h0 : 0 ≤ z_k.toInt ∧ z_k.toInt ≤ 9) (h1 : 0 ≤ z_h.toInt ∧ z_h.toInt ≤ 9) : Met l yX12_rowsBy (Cond.code yX12_rowsBy cX12_rowsBy 3 (some .long) :: GW) ({ frames := 1, cells := 0, slots := 0, locals := 40 } : Room) (va_Pc [.ref M, .int z_k, .int z_h] (PW D cI cJ sz (MW cI cJ M mr mi mf mg) xT)) (va_Ql (fun (r : Int64) (u : Unit) => True) (fun u => QW D cI cJ (va_A (MW cI cJ M mr mi mf mg) sz) ((fun (u : Unit) => (MW cI cJ M mr mi mf mg)) u)) (va_A (MW cI cJ M mr mi mf mg) sz)) 0 0 (va_A (MW cI cJ M mr mi mf mg) sz) := by
  refine mk_met (y := yX12_rowsBy) (bytes := cX12_rowsBy) (maxL := 3) (avs := [.ref M, .int z_k, .int z_h]) (WS := (MW cI cJ M mr mi mf mg)) (Qf := fun A => va_Ql (fun (r : Int64) (u : Unit) => True) (fun u => QW D cI cJ A ((fun (u : Unit) => (MW cI cJ M mr mi mf mg)) u)) A) (by decide) (Nat.le_of_ble_eq_true rfl) ?_
  intro p e s m below meth c A ls E hr hlk hnm hX hw1 hl2
  have hl3 : lv_has ls 3 [(0, .ref M), (1, .int z_k), (2, .int z_h)] := hl2
  refine lv_aload_n (pc := 0) E.1 E.2.1 dX12_rowsBy_0 rfl (lv_at hl3 0 rfl) ?_
  refine x_get (pc := 1) (T := TX12) (N := 70) (ci := 12) (v := .ref (mr 64)) E hw1 inX12 0 64 q_1463 rfl rfl (by decide) rfl rfl dX12_rowsBy_1 ?_
  refine lv_bipush (pc := 4) (v := 10) E.1 E.2.1 dX12_rowsBy_4 (by decide +kernel) ?_
  refine lv_iload_n (pc := 6) E.1 E.2.1 dX12_rowsBy_6 rfl (lv_at hl3 1 rfl) ?_
  refine lv_imul (pc := 7) E.1 E.2.1 dX12_rowsBy_7 ?_
  refine lv_topi (fun v_4 ev_4 => ?_)
  have hv_4 : v_4.toInt = 10 * z_k.toInt := by rw [ev_4]; exact mulE (by decide +kernel) rfl (by omega)
  refine lv_iload_n (pc := 8) E.1 E.2.1 dX12_rowsBy_8 rfl (lv_at hl3 2 rfl) ?_
  refine lv_iadd (pc := 9) E.1 E.2.1 dX12_rowsBy_9 ?_
  refine lv_topi (fun v_5 ev_5 => ?_)
  have hv_5 : v_5.toInt = v_4.toInt + z_h.toInt := by rw [ev_5]; exact addE rfl rfl (by omega)
  refine x_lald (pc := 10) (f := (mg 64)) E hw1 36 rfl (inbE (a := v_5.toInt) rfl (by omega)) dX12_rowsBy_10 (fun w_6 => ?_)
  refine lv_aload_n (pc := 11) E.1 E.2.1 dX12_rowsBy_11 rfl (lv_at hl3 0 rfl) ?_
  refine x_get (pc := 12) (T := TX12) (N := 70) (ci := 12) (v := .ref (mr 65)) E hw1 inX12 0 65 q_1464 rfl rfl (by decide) rfl rfl dX12_rowsBy_12 ?_
  refine lv_bipush (pc := 15) (v := 10) E.1 E.2.1 dX12_rowsBy_15 (by decide +kernel) ?_
  refine lv_iload_n (pc := 17) E.1 E.2.1 dX12_rowsBy_17 rfl (lv_at hl3 1 rfl) ?_
  refine lv_imul (pc := 18) E.1 E.2.1 dX12_rowsBy_18 ?_
  refine lv_topi (fun v_7 ev_7 => ?_)
  have hv_7 : v_7.toInt = 10 * z_k.toInt := by rw [ev_7]; exact mulE (by decide +kernel) rfl (by omega)
  refine lv_iload_n (pc := 19) E.1 E.2.1 dX12_rowsBy_19 rfl (lv_at hl3 2 rfl) ?_
  refine lv_iadd (pc := 20) E.1 E.2.1 dX12_rowsBy_20 ?_
  refine lv_topi (fun v_8 ev_8 => ?_)
  have hv_8 : v_8.toInt = v_7.toInt + z_h.toInt := by rw [ev_8]; exact addE rfl rfl (by omega)
  refine x_lald (pc := 21) (f := (mg 65)) E hw1 37 rfl (inbE (a := v_8.toInt) rfl (by omega)) dX12_rowsBy_21 (fun w_9 => ?_)
  refine lv_lmul (pc := 22) E.1 E.2.1 dX12_rowsBy_22 ?_
  refine lv_topl (fun w_10 _ => ?_)
  exact em_l (w1 := (fun (u : Unit) => (MW cI cJ M mr mi mf mg))) E hr hlk () hw1 trivial (Nat.le_of_ble_eq_true rfl) (Nat.le_of_ble_eq_true rfl) dX12_rowsBy_23

set_option maxHeartbeats 4000000 in
set_option maxRecDepth 100000 in
theorem s_allRows (l : Launch) (D : va_G) (cI cJ : ClassId) (sz M : Nat) (mr : Nat → Nat) (mi : Nat → Int32) (mf : Nat → Nat → Int32) (mg : Nat → Nat → Int64) (z_n : Int32) (h0 : 0 ≤ (mi 6).toInt ∧ (mi 6).toInt ≤ 10) (h1 : 1 ≤ z_n.toInt ∧ z_n.toInt ≤ 10) : Met l yX12_allRows (Cond.code yX12_allRows cX12_allRows 5 (some .long) :: GW) ({ frames := 1, cells := 0, slots := 0, locals := 40 } : Room) (va_Pc [.ref M, .int z_n] (PW D cI cJ sz (MW cI cJ M mr mi mf mg) xT)) (va_Ql (fun (r : Int64) (u : Unit) => True) (fun u => QW D cI cJ (va_A (MW cI cJ M mr mi mf mg) sz) ((fun (u : Unit) => (MW cI cJ M mr mi mf mg)) u)) (va_A (MW cI cJ M mr mi mf mg) sz)) 0 0 (va_A (MW cI cJ M mr mi mf mg) sz) := by
  refine mk_met (y := yX12_allRows) (bytes := cX12_allRows) (maxL := 5) (avs := [.ref M, .int z_n]) (WS := (MW cI cJ M mr mi mf mg)) (Qf := fun A => va_Ql (fun (r : Int64) (u : Unit) => True) (fun u => QW D cI cJ A ((fun (u : Unit) => (MW cI cJ M mr mi mf mg)) u)) A) (by decide) (Nat.le_of_ble_eq_true rfl) ?_
  intro p e s m below meth c A ls E hr hlk hnm hX hw1 hl2
  have hl3 : lv_has ls 5 [(0, .ref M), (1, .int z_n)] := hl2
  refine lv_lconst (pc := 0) (v := 0) E.1 E.2.1 dX12_allRows_0 (by decide +kernel) ?_
  refine lv_lstore_n (pc := 1) (lv' := [(2, .long 0), (0, .ref M), (1, .int z_n)]) E.1 E.2.1 dX12_allRows_1 rfl hl3 (by decide) rfl (fun ls hl4 => ?_)
  refine lv_iconst (pc := 2) (v := 0) E.1 E.2.1 dX12_allRows_2 (by decide +kernel) ?_
  refine lv_istore (pc := 3) (lv' := [(4, .int 0), (2, .long 0), (0, .ref M), (1, .int z_n)]) E.1 E.2.1 dX12_allRows_3 hl4 (by decide) rfl (fun ls hl5 => ?_)
  have loop_6 : ∀ (k : Nat) (x_7 : Int32) (w_8 : Int64) (H : Heap) (locs : List Loc) (ls : Array Slot), (0 ≤ x_7.toInt) ∧ (x_7.toInt ≤ (mi 6).toInt) → (mi 6).toInt - x_7.toInt < (k : Int) → WD D A s.heap (MW cI cJ M mr mi mf mg) H locs → lv_has ls 5 [(4, .int x_7), (2, .long w_8), (0, .ref M), (1, .int z_n)] → W p l e ({ frames := 1, cells := 0, slots := 0, locals := 40 } : Room) s m ([.ref M, .int z_n] : List Value).toArray below meth c H locs 0 0 (MQ below (va_Ql (fun (r : Int64) (u : Unit) => True) (fun u => QW D cI cJ A ((fun (u : Unit) => (MW cI cJ M mr mi mf mg)) u)) A) ([.ref M, .int z_n] : List Value).toArray s 0 0 A) (F0 m 5 ls []) := by
    intro k
    induction k with
    | zero =>
      intro x_7 w_8 _ _ _ hinv hm
      obtain ⟨hi_8_0, hi_8_1⟩ := hinv
      exact absurd hm (by omega)
    | succ k ih_9 =>
      intro x_7 w_8 H locs ls hinv hm hw10 hl11
      obtain ⟨hi_8_0, hi_8_1⟩ := hinv
      refine lv_iload (pc := 5) E.1 E.2.1 dX12_allRows_5 (lv_at hl11 0 rfl) ?_
      refine lv_aload_n (pc := 7) E.1 E.2.1 dX12_allRows_7 rfl (lv_at hl11 2 rfl) ?_
      refine x_get (pc := 8) (T := TX12) (N := 70) (ci := 12) (v := .int (mi 6)) E hw10 inX12 0 6 q_1405 rfl rfl (by decide) rfl rfl dX12_allRows_8 ?_
      refine lv_icmp_ge (pc := 11) (tgt := 37) E.1 E.2.1 dX12_allRows_11 (by decide) (fun c_12 => ?_) (fun c_12 => ?_)
      · skip
        have hc_12 := leE (a := (mi 6).toInt) (b := x_7.toInt) rfl rfl c_12
        refine lv_lload_n (pc := 37) E.1 E.2.1 dX12_allRows_37 rfl (lv_at hl11 1 rfl) ?_
        exact em_l (w1 := (fun (u : Unit) => (MW cI cJ M mr mi mf mg))) E hr hlk () hw10 trivial (Nat.le_of_ble_eq_true rfl) (Nat.le_of_ble_eq_true rfl) dX12_allRows_38
      · skip
        have hc_12 := nleE (a := (mi 6).toInt) (b := x_7.toInt) rfl rfl c_12
        refine lv_lload_n (pc := 14) E.1 E.2.1 dX12_allRows_14 rfl (lv_at hl11 1 rfl) ?_
        refine lv_aload_n (pc := 15) E.1 E.2.1 dX12_allRows_15 rfl (lv_at hl11 2 rfl) ?_
        refine x_get (pc := 16) (T := TX12) (N := 70) (ci := 12) (v := .ref (mr 64)) E hw10 inX12 0 64 q_1463 rfl rfl (by decide) rfl rfl dX12_allRows_16 ?_
        refine lv_bipush (pc := 19) (v := 10) E.1 E.2.1 dX12_allRows_19 (by decide +kernel) ?_
        refine lv_iload_n (pc := 21) E.1 E.2.1 dX12_allRows_21 rfl (lv_at hl11 3 rfl) ?_
        refine lv_iconst (pc := 22) (v := 1) E.1 E.2.1 dX12_allRows_22 (by decide +kernel) ?_
        refine lv_isub (pc := 23) E.1 E.2.1 dX12_allRows_23 ?_
        refine lv_topi (fun v_13 ev_13 => ?_)
        have hv_13 : v_13.toInt = z_n.toInt - 1 := by rw [ev_13]; exact subE rfl (by decide +kernel) (by omega)
        refine lv_imul (pc := 24) E.1 E.2.1 dX12_allRows_24 ?_
        refine lv_topi (fun v_14 ev_14 => ?_)
        have hv_14 : v_14.toInt = 10 * v_13.toInt := by rw [ev_14]; exact mulE (by decide +kernel) rfl (by omega)
        refine lv_iload (pc := 25) E.1 E.2.1 dX12_allRows_25 (lv_at hl11 0 rfl) ?_
        refine lv_iadd (pc := 27) E.1 E.2.1 dX12_allRows_27 ?_
        refine lv_topi (fun v_15 ev_15 => ?_)
        have hv_15 : v_15.toInt = v_14.toInt + x_7.toInt := by rw [ev_15]; exact addE rfl rfl (by omega)
        refine x_lald (pc := 28) (f := (mg 64)) E hw10 36 rfl (inbE (a := v_15.toInt) rfl (by omega)) dX12_allRows_28 (fun w_16 => ?_)
        refine lv_ladd (pc := 29) E.1 E.2.1 dX12_allRows_29 ?_
        refine lv_topl (fun w_17 _ => ?_)
        refine lv_lstore_n (pc := 30) (lv' := [(2, .long w_17), (4, .int x_7), (0, .ref M), (1, .int z_n)]) E.1 E.2.1 dX12_allRows_30 rfl hl11 (by decide) rfl (fun ls hl18 => ?_)
        obtain ⟨v_19, ev_19⟩ : ∃ z : Int32, x_7 + Int32.ofInt (1) = z := ⟨_, rfl⟩
        have hv_19 : v_19.toInt = x_7.toInt + (1) := by rw [← ev_19]; exact incE rfl (by decide) (by omega)
        refine lv_iinc (pc := 31) (v := v_19) (lv' := [(4, .int v_19), (2, .long w_17), (0, .ref M), (1, .int z_n)]) E.1 E.2.1 dX12_allRows_31 hl18 (k := 1) rfl ev_19 (by decide) rfl (fun ls hl20 => ?_)
        refine lv_goto (pc := 34) (tgt := 5) E.1 E.2.1 dX12_allRows_34 (by decide) ?_
        exact ih_9 v_19 w_17 _ _ _ ⟨(by show 0 ≤ v_19.toInt; omega), (by show v_19.toInt ≤ (mi 6).toInt; omega)⟩ (by omega) hw10 (lv_sub hl20 [0, 1, 2, 3] rfl)
  exact loop_6 (Int.toNat ((mi 6).toInt - 0) + 1) 0 0 _ _ _ ⟨(by show 0 ≤ (0 : Int32).toInt; have k_0 : (0 : Int32).toInt = 0 := (by decide +kernel); omega), (by show (0 : Int32).toInt ≤ (mi 6).toInt; have k_0 : (0 : Int32).toInt = 0 := (by decide +kernel); omega)⟩ (by have k_0 : (0 : Int32).toInt = 0 := (by decide +kernel); omega) hw1 (lv_sub hl5 [0, 1, 2, 3] rfl)

set_option maxHeartbeats 4000000 in
set_option maxRecDepth 100000 in
theorem s_snowsOn (l : Launch) (D : va_G) (cI cJ : ClassId) (sz M : Nat) (mr : Nat → Nat) (mi : Nat → Int32) (mf : Nat → Nat → Int32) (mg : Nat → Nat → Int64)   : Met l yX12_snowsOn (Cond.code yX12_snowsOn cX12_snowsOn 5 none :: GW) ({ frames := 2, cells := 0, slots := 0, locals := 63 } : Room) (va_Pc [.ref M] (PW D cI cJ sz (MW cI cJ M mr mi mf mg) xT)) (va_Qv (fun (u : (Nat → Int32) × (Nat → Int32)) => True) (fun u => QW D cI cJ (va_A (MW cI cJ M mr mi mf mg) sz) ((fun (u : (Nat → Int32) × (Nat → Int32)) => (MW cI cJ M mr mi (va_up (va_up mf 62 u.1) 63 u.2) mg)) u)) (va_A (MW cI cJ M mr mi mf mg) sz)) 0 0 (va_A (MW cI cJ M mr mi mf mg) sz) := by
  refine mk_met (y := yX12_snowsOn) (bytes := cX12_snowsOn) (maxL := 5) (avs := [.ref M]) (WS := (MW cI cJ M mr mi mf mg)) (Qf := fun A => va_Qv (fun (u : (Nat → Int32) × (Nat → Int32)) => True) (fun u => QW D cI cJ A ((fun (u : (Nat → Int32) × (Nat → Int32)) => (MW cI cJ M mr mi (va_up (va_up mf 62 u.1) 63 u.2) mg)) u)) A) (by decide) (Nat.le_of_ble_eq_true rfl) ?_
  intro p e s m below meth c A ls E hr hlk hnm hX hw1 hl2
  have hl3 : lv_has ls 5 [(0, .ref M)] := hl2
  refine lv_iconst (pc := 0) (v := 0) E.1 E.2.1 dX12_snowsOn_0 (by decide +kernel) ?_
  refine lv_istore_n (pc := 1) (lv' := [(1, .int 0), (0, .ref M)]) E.1 E.2.1 dX12_snowsOn_1 rfl hl3 (by decide) rfl (fun ls hl4 => ?_)
  have loop_5 : ∀ (k : Nat) (x_6 : Int32) (g_7 : Nat → Int32) (H : Heap) (locs : List Loc) (ls : Array Slot), (0 ≤ x_6.toInt) ∧ (x_6.toInt ≤ 10) → 10 - x_6.toInt < (k : Int) → WD D A s.heap (MW cI cJ M mr mi (va_up mf 63 g_7) mg) H locs → lv_has ls 5 [(1, .int x_6), (0, .ref M)] → W p l e ({ frames := 2, cells := 0, slots := 0, locals := 63 } : Room) s m ([.ref M] : List Value).toArray below meth c H locs 0 0 (MQ below (va_Qv (fun (u : (Nat → Int32) × (Nat → Int32)) => True) (fun u => QW D cI cJ A ((fun (u : (Nat → Int32) × (Nat → Int32)) => (MW cI cJ M mr mi (va_up (va_up mf 62 u.1) 63 u.2) mg)) u)) A) ([.ref M] : List Value).toArray s 0 0 A) (F0 m 2 ls []) := by
    intro k
    induction k with
    | zero =>
      intro x_6 g_7 _ _ _ hinv hm
      obtain ⟨hi_7_0, hi_7_1⟩ := hinv
      exact absurd hm (by omega)
    | succ k ih_8 =>
      intro x_6 g_7 H locs ls hinv hm hw9 hl10
      obtain ⟨hi_7_0, hi_7_1⟩ := hinv
      refine lv_iload_n (pc := 2) E.1 E.2.1 dX12_snowsOn_2 rfl (lv_at hl10 0 rfl) ?_
      refine lv_bipush (pc := 3) (v := 9) E.1 E.2.1 dX12_snowsOn_3 (by decide +kernel) ?_
      refine lv_icmp_gt (pc := 5) (tgt := 21) E.1 E.2.1 dX12_snowsOn_5 (by decide) (fun c_11 => ?_) (fun c_11 => ?_)
      · skip
        have hc_11 := ltE (a := 9) (b := x_6.toInt) (by decide +kernel) rfl c_11
        refine lv_iconst (pc := 21) (v := 0) E.1 E.2.1 dX12_snowsOn_21 (by decide +kernel) ?_
        refine lv_istore_n (pc := 22) (lv' := [(1, .int 0), (0, .ref M)]) E.1 E.2.1 dX12_snowsOn_22 rfl hl10 (by decide) rfl (fun ls hl12 => ?_)
        have loop_13 : ∀ (k : Nat) (x_14 : Int32) (g_15 : Nat → Int32) (H : Heap) (locs : List Loc) (ls : Array Slot), (0 ≤ x_14.toInt) ∧ (x_14.toInt ≤ 10) → 10 - x_14.toInt < (k : Int) → WD D A s.heap (MW cI cJ M mr mi (va_up mf 63 g_15) mg) H locs → lv_has ls 5 [(1, .int x_14), (0, .ref M)] → W p l e ({ frames := 2, cells := 0, slots := 0, locals := 63 } : Room) s m ([.ref M] : List Value).toArray below meth c H locs 0 0 (MQ below (va_Qv (fun (u : (Nat → Int32) × (Nat → Int32)) => True) (fun u => QW D cI cJ A ((fun (u : (Nat → Int32) × (Nat → Int32)) => (MW cI cJ M mr mi (va_up (va_up mf 62 u.1) 63 u.2) mg)) u)) A) ([.ref M] : List Value).toArray s 0 0 A) (F0 m 23 ls []) := by
          intro k
          induction k with
          | zero =>
            intro x_14 g_15 _ _ _ hinv hm
            obtain ⟨hi_15_0, hi_15_1⟩ := hinv
            exact absurd hm (by omega)
          | succ k ih_16 =>
            intro x_14 g_15 H locs ls hinv hm hw17 hl18
            obtain ⟨hi_15_0, hi_15_1⟩ := hinv
            refine lv_iload_n (pc := 23) E.1 E.2.1 dX12_snowsOn_23 rfl (lv_at hl18 0 rfl) ?_
            refine lv_bipush (pc := 24) (v := 9) E.1 E.2.1 dX12_snowsOn_24 (by decide +kernel) ?_
            refine lv_icmp_gt (pc := 26) (tgt := 114) E.1 E.2.1 dX12_snowsOn_26 (by decide) (fun c_19 => ?_) (fun c_19 => ?_)
            · skip
              have hc_19 := ltE (a := 9) (b := x_14.toInt) (by decide +kernel) rfl c_19
              refine lv_iconst (pc := 114) (v := 0) E.1 E.2.1 dX12_snowsOn_114 (by decide +kernel) ?_
              refine lv_istore_n (pc := 115) (lv' := [(1, .int 0), (0, .ref M)]) E.1 E.2.1 dX12_snowsOn_115 rfl hl18 (by decide) rfl (fun ls hl20 => ?_)
              have loop_21 : ∀ (k : Nat) (x_22 : Int32) (g_23 : Nat → Int32) (H : Heap) (locs : List Loc) (ls : Array Slot), (0 ≤ x_22.toInt) ∧ (x_22.toInt ≤ 10) → 10 - x_22.toInt < (k : Int) → WD D A s.heap (MW cI cJ M mr mi (va_up (va_up mf 62 g_23) 63 g_15) mg) H locs → lv_has ls 5 [(1, .int x_22), (0, .ref M)] → W p l e ({ frames := 2, cells := 0, slots := 0, locals := 63 } : Room) s m ([.ref M] : List Value).toArray below meth c H locs 0 0 (MQ below (va_Qv (fun (u : (Nat → Int32) × (Nat → Int32)) => True) (fun u => QW D cI cJ A ((fun (u : (Nat → Int32) × (Nat → Int32)) => (MW cI cJ M mr mi (va_up (va_up mf 62 u.1) 63 u.2) mg)) u)) A) ([.ref M] : List Value).toArray s 0 0 A) (F0 m 116 ls []) := by
                intro k
                induction k with
                | zero =>
                  intro x_22 g_23 _ _ _ hinv hm
                  obtain ⟨hi_23_0, hi_23_1⟩ := hinv
                  exact absurd hm (by omega)
                | succ k ih_24 =>
                  intro x_22 g_23 H locs ls hinv hm hw25 hl26
                  obtain ⟨hi_23_0, hi_23_1⟩ := hinv
                  refine lv_iload_n (pc := 116) E.1 E.2.1 dX12_snowsOn_116 rfl (lv_at hl26 0 rfl) ?_
                  refine lv_bipush (pc := 117) (v := 9) E.1 E.2.1 dX12_snowsOn_117 (by decide +kernel) ?_
                  refine lv_icmp_gt (pc := 119) (tgt := 140) E.1 E.2.1 dX12_snowsOn_119 (by decide) (fun c_27 => ?_) (fun c_27 => ?_)
                  · skip
                    have hc_27 := ltE (a := 9) (b := x_22.toInt) (by decide +kernel) rfl c_27
                    exact em_v (w1 := (fun (u : (Nat → Int32) × (Nat → Int32)) => (MW cI cJ M mr mi (va_up (va_up mf 62 u.1) 63 u.2) mg))) E hr hlk (g_23, g_15) hw25 trivial (Nat.le_of_ble_eq_true rfl) (Nat.le_of_ble_eq_true rfl) dX12_snowsOn_140
                  · skip
                    have hc_27 := nltE (a := 9) (b := x_22.toInt) (by decide +kernel) rfl c_27
                    refine lv_aload_n (pc := 122) E.1 E.2.1 dX12_snowsOn_122 rfl (lv_at hl26 1 rfl) ?_
                    refine x_get (pc := 123) (T := TX12) (N := 70) (ci := 12) (v := .ref (mr 62)) E hw25 inX12 0 62 q_1461 rfl rfl (by decide) rfl rfl dX12_snowsOn_123 ?_
                    refine lv_iload_n (pc := 126) E.1 E.2.1 dX12_snowsOn_126 rfl (lv_at hl26 0 rfl) ?_
                    refine lv_aload_n (pc := 127) E.1 E.2.1 dX12_snowsOn_127 rfl (lv_at hl26 1 rfl) ?_
                    refine x_get (pc := 128) (T := TX12) (N := 70) (ci := 12) (v := .ref (mr 63)) E hw25 inX12 0 63 q_1462 rfl rfl (by decide) rfl rfl dX12_snowsOn_128 ?_
                    refine lv_iload_n (pc := 131) E.1 E.2.1 dX12_snowsOn_131 rfl (lv_at hl26 0 rfl) ?_
                    refine x_iald (pc := 132) (f := g_15) E hw25 35 rfl (inbE (a := x_22.toInt) rfl (by omega)) dX12_snowsOn_132 ?_
                    refine lv_topi (fun v_28 ev_28 => ?_)
                    refine x_iastG (pc := 133) (f := g_23) (wf := fun g => (MW cI cJ M mr mi (va_up (va_up mf 62 g) 63 g_15) mg)) E hw25 34 rfl (inbE (a := x_22.toInt) rfl (by omega)) (fun _ => rfl) dX12_snowsOn_133 (fun g_29 H locs eg_29 hw30 => ?_)
                    obtain ⟨v_31, ev_31⟩ : ∃ z : Int32, x_22 + Int32.ofInt (1) = z := ⟨_, rfl⟩
                    have hv_31 : v_31.toInt = x_22.toInt + (1) := by rw [← ev_31]; exact incE rfl (by decide) (by omega)
                    refine lv_iinc (pc := 134) (v := v_31) (lv' := [(1, .int v_31), (0, .ref M)]) E.1 E.2.1 dX12_snowsOn_134 hl26 (k := 0) rfl ev_31 (by decide) rfl (fun ls hl32 => ?_)
                    refine lv_goto (pc := 137) (tgt := 116) E.1 E.2.1 dX12_snowsOn_137 (by decide) ?_
                    exact ih_24 v_31 g_29 _ _ _ ⟨(by show 0 ≤ v_31.toInt; omega), (by show v_31.toInt ≤ 10; omega)⟩ (by omega) hw30 (lv_sub hl32 [0, 1] rfl)
              exact loop_21 (Int.toNat (10 - 0) + 1) 0 (mf 62) _ _ _ ⟨(by show 0 ≤ (0 : Int32).toInt; have k_0 : (0 : Int32).toInt = 0 := (by decide +kernel); omega), (by show (0 : Int32).toInt ≤ 10; have k_0 : (0 : Int32).toInt = 0 := (by decide +kernel); omega)⟩ (by have k_0 : (0 : Int32).toInt = 0 := (by decide +kernel); omega) hw17 (lv_sub hl20 [0, 1] rfl)
            · skip
              have hc_19 := nltE (a := 9) (b := x_14.toInt) (by decide +kernel) rfl c_19
              refine lv_aload_n (pc := 29) E.1 E.2.1 dX12_snowsOn_29 rfl (lv_at hl18 1 rfl) ?_
              refine x_get (pc := 30) (T := TX12) (N := 70) (ci := 12) (v := .ref (mr 62)) E hw17 inX12 0 62 q_1461 rfl rfl (by decide) rfl rfl dX12_snowsOn_30 ?_
              refine lv_iload_n (pc := 33) E.1 E.2.1 dX12_snowsOn_33 rfl (lv_at hl18 0 rfl) ?_
              refine x_iald (pc := 34) (f := (mf 62)) E hw17 34 rfl (inbE (a := x_14.toInt) rfl (by omega)) dX12_snowsOn_34 ?_
              refine lv_topi (fun v_33 ev_33 => ?_)
              refine lv_i2l (pc := 35) E.1 E.2.1 dX12_snowsOn_35 rfl ?_
              refine lv_topl (fun w_34 _ => ?_)
              refine lv_aload_n (pc := 36) E.1 E.2.1 dX12_snowsOn_36 rfl (lv_at hl18 1 rfl) ?_
              refine x_get (pc := 37) (T := TX12) (N := 70) (ci := 12) (v := .int (mi 12)) E hw17 inX12 0 12 q_1411 rfl rfl (by decide) rfl rfl dX12_snowsOn_37 ?_
              refine lv_i2l (pc := 40) E.1 E.2.1 dX12_snowsOn_40 rfl ?_
              refine lv_topl (fun w_35 _ => ?_)
              refine lv_lmul (pc := 41) E.1 E.2.1 dX12_snowsOn_41 ?_
              refine lv_topl (fun w_36 _ => ?_)
              refine lv_ldc2 (pc := 42) (v := 1000) E.1 E.2.1 E.2.2.2.1 (E.2.2.2.2.1 _ q_2079) dX12_snowsOn_42 ?_
              refine lv_ldiv (pc := 45) E.1 E.2.1 dX12_snowsOn_45 (by decide +kernel) ?_
              refine lv_topl (fun w_37 _ => ?_)
              refine lv_l2i (pc := 46) E.1 E.2.1 dX12_snowsOn_46 rfl ?_
              refine lv_topi (fun v_38 ev_38 => ?_)
              refine lv_istore_n (pc := 47) (lv' := [(2, .int v_38), (1, .int x_14), (0, .ref M)]) E.1 E.2.1 dX12_snowsOn_47 rfl hl18 (by decide) rfl (fun ls hl39 => ?_)
              refine lv_aload_n (pc := 48) E.1 E.2.1 dX12_snowsOn_48 rfl (lv_at hl39 2 rfl) ?_
              refine lv_iload_n (pc := 49) E.1 E.2.1 dX12_snowsOn_49 rfl (lv_at hl39 1 rfl) ?_
              refine lv_iconst (pc := 50) (v := 1) E.1 E.2.1 dX12_snowsOn_50 (by decide +kernel) ?_
              refine lv_iadd (pc := 51) E.1 E.2.1 dX12_snowsOn_51 ?_
              refine lv_topi (fun v_40 ev_40 => ?_)
              have hv_40 : v_40.toInt = x_14.toInt + 1 := by rw [ev_40]; exact addE rfl (by decide +kernel) (by omega)
              refine lv_iconst (pc := 52) (v := 0) E.1 E.2.1 dX12_snowsOn_52 (by decide +kernel) ?_
              refine lv_bipush (pc := 53) (v := 9) E.1 E.2.1 dX12_snowsOn_53 (by decide +kernel) ?_
              refine cm_i (pc := 55) hw17 (rn_M (As := [.int v_40, .int 0, .int 9]) (rest := []) E hw17 (s_held l D cI cJ _ M mr mi (va_up mf 63 g_15) mg v_40 0 9 (by show (0 : Int32).toInt ≤ (9 : Int32).toInt; have k_0 : (0 : Int32).toInt = 0 := (by decide +kernel); have k_1 : (9 : Int32).toInt = 9 := (by decide +kernel); omega)) (gdV q_1895 q_1897 q_106 q_162 q_1898) hdV_X12_held ⟨rfl, rfl⟩ ⟨(Nat.le_of_ble_eq_true rfl), (Nat.le_of_ble_eq_true rfl)⟩ ⟨(Nat.le_of_ble_eq_true rfl), (Nat.le_of_ble_eq_true rfl)⟩ 12 rfl rfl rfl rfl hl39.1 rfl (Nat.le_of_ble_eq_true rfl) dX12_snowsOn_55) (fun r_42 u_41 H1 locs hp hw43 => ?_)
              generalize H1 = H at hw43 ⊢
              have hw44 : WD D A s.heap (MW cI cJ M mr mi (va_up mf 63 g_15) mg) H locs := hw43
              have hp_45 := hp
              have hp_45 : (0 : Int32).toInt ≤ r_42.toInt ∧ r_42.toInt ≤ (9 : Int32).toInt := hp_45
              rw [show (0 : Int32).toInt = 0 from by decide +kernel] at hp_45
              rw [show (9 : Int32).toInt = 9 from by decide +kernel] at hp_45
              refine lv_istore_n (pc := 58) (lv' := [(3, .int r_42), (2, .int v_38), (1, .int x_14), (0, .ref M)]) E.1 E.2.1 dX12_snowsOn_58 rfl hl39 (by decide) rfl (fun ls hl46 => ?_)
              refine lv_aload_n (pc := 59) E.1 E.2.1 dX12_snowsOn_59 rfl (lv_at hl46 3 rfl) ?_
              refine lv_iload_n (pc := 60) E.1 E.2.1 dX12_snowsOn_60 rfl (lv_at hl46 2 rfl) ?_
              refine lv_iconst (pc := 61) (v := 1) E.1 E.2.1 dX12_snowsOn_61 (by decide +kernel) ?_
              refine lv_isub (pc := 62) E.1 E.2.1 dX12_snowsOn_62 ?_
              refine lv_topi (fun v_47 ev_47 => ?_)
              have hv_47 : v_47.toInt = x_14.toInt - 1 := by rw [ev_47]; exact subE rfl (by decide +kernel) (by omega)
              refine lv_iconst (pc := 63) (v := 0) E.1 E.2.1 dX12_snowsOn_63 (by decide +kernel) ?_
              refine lv_bipush (pc := 64) (v := 9) E.1 E.2.1 dX12_snowsOn_64 (by decide +kernel) ?_
              refine cm_i (pc := 66) hw44 (rn_M (As := [.int v_47, .int 0, .int 9]) (rest := []) E hw44 (s_held l D cI cJ _ M mr mi (va_up mf 63 g_15) mg v_47 0 9 (by show (0 : Int32).toInt ≤ (9 : Int32).toInt; have k_0 : (0 : Int32).toInt = 0 := (by decide +kernel); have k_1 : (9 : Int32).toInt = 9 := (by decide +kernel); omega)) (gdV q_1895 q_1897 q_106 q_162 q_1898) hdV_X12_held ⟨rfl, rfl⟩ ⟨(Nat.le_of_ble_eq_true rfl), (Nat.le_of_ble_eq_true rfl)⟩ ⟨(Nat.le_of_ble_eq_true rfl), (Nat.le_of_ble_eq_true rfl)⟩ 12 rfl rfl rfl rfl hl46.1 rfl (Nat.le_of_ble_eq_true rfl) dX12_snowsOn_66) (fun r_49 u_48 H1 locs hp hw50 => ?_)
              generalize H1 = H at hw50 ⊢
              have hw51 : WD D A s.heap (MW cI cJ M mr mi (va_up mf 63 g_15) mg) H locs := hw50
              have hp_52 := hp
              have hp_52 : (0 : Int32).toInt ≤ r_49.toInt ∧ r_49.toInt ≤ (9 : Int32).toInt := hp_52
              rw [show (0 : Int32).toInt = 0 from by decide +kernel] at hp_52
              rw [show (9 : Int32).toInt = 9 from by decide +kernel] at hp_52
              refine lv_istore (pc := 69) (lv' := [(4, .int r_49), (3, .int r_42), (2, .int v_38), (1, .int x_14), (0, .ref M)]) E.1 E.2.1 dX12_snowsOn_69 hl46 (by decide) rfl (fun ls hl53 => ?_)
              refine lv_aload_n (pc := 71) E.1 E.2.1 dX12_snowsOn_71 rfl (lv_at hl53 4 rfl) ?_
              refine x_get (pc := 72) (T := TX12) (N := 70) (ci := 12) (v := .ref (mr 63)) E hw51 inX12 0 63 q_1462 rfl rfl (by decide) rfl rfl dX12_snowsOn_72 ?_
              refine lv_iload_n (pc := 75) E.1 E.2.1 dX12_snowsOn_75 rfl (lv_at hl53 1 rfl) ?_
              refine lv_aload_n (pc := 76) E.1 E.2.1 dX12_snowsOn_76 rfl (lv_at hl53 4 rfl) ?_
              refine x_get (pc := 77) (T := TX12) (N := 70) (ci := 12) (v := .ref (mr 63)) E hw51 inX12 0 63 q_1462 rfl rfl (by decide) rfl rfl dX12_snowsOn_77 ?_
              refine lv_iload_n (pc := 80) E.1 E.2.1 dX12_snowsOn_80 rfl (lv_at hl53 1 rfl) ?_
              refine x_iald (pc := 81) (f := g_15) E hw51 35 rfl (inbE (a := r_42.toInt) rfl (by omega)) dX12_snowsOn_81 ?_
              refine lv_topi (fun v_54 ev_54 => ?_)
              refine lv_iload_n (pc := 82) E.1 E.2.1 dX12_snowsOn_82 rfl (lv_at hl53 2 rfl) ?_
              refine lv_iadd (pc := 83) E.1 E.2.1 dX12_snowsOn_83 ?_
              refine lv_topi (fun v_55 ev_55 => ?_)
              refine x_iastG (pc := 84) (f := g_15) (wf := fun g => (MW cI cJ M mr mi (va_up mf 63 g) mg)) E hw51 35 rfl (inbE (a := r_42.toInt) rfl (by omega)) (fun _ => rfl) dX12_snowsOn_84 (fun g_56 H locs eg_56 hw57 => ?_)
              refine lv_aload_n (pc := 85) E.1 E.2.1 dX12_snowsOn_85 rfl (lv_at hl53 4 rfl) ?_
              refine x_get (pc := 86) (T := TX12) (N := 70) (ci := 12) (v := .ref (mr 63)) E hw57 inX12 0 63 q_1462 rfl rfl (by decide) rfl rfl dX12_snowsOn_86 ?_
              refine lv_iload (pc := 89) E.1 E.2.1 dX12_snowsOn_89 (lv_at hl53 0 rfl) ?_
              refine lv_aload_n (pc := 91) E.1 E.2.1 dX12_snowsOn_91 rfl (lv_at hl53 4 rfl) ?_
              refine x_get (pc := 92) (T := TX12) (N := 70) (ci := 12) (v := .ref (mr 63)) E hw57 inX12 0 63 q_1462 rfl rfl (by decide) rfl rfl dX12_snowsOn_92 ?_
              refine lv_iload (pc := 95) E.1 E.2.1 dX12_snowsOn_95 (lv_at hl53 0 rfl) ?_
              refine x_iald (pc := 97) (f := g_56) E hw57 35 rfl (inbE (a := r_49.toInt) rfl (by omega)) dX12_snowsOn_97 ?_
              refine lv_topi (fun v_58 ev_58 => ?_)
              refine lv_aload_n (pc := 98) E.1 E.2.1 dX12_snowsOn_98 rfl (lv_at hl53 4 rfl) ?_
              refine x_get (pc := 99) (T := TX12) (N := 70) (ci := 12) (v := .ref (mr 62)) E hw57 inX12 0 62 q_1461 rfl rfl (by decide) rfl rfl dX12_snowsOn_99 ?_
              refine lv_iload_n (pc := 102) E.1 E.2.1 dX12_snowsOn_102 rfl (lv_at hl53 3 rfl) ?_
              refine x_iald (pc := 103) (f := (mf 62)) E hw57 34 rfl (inbE (a := x_14.toInt) rfl (by omega)) dX12_snowsOn_103 ?_
              refine lv_topi (fun v_59 ev_59 => ?_)
              refine lv_iadd (pc := 104) E.1 E.2.1 dX12_snowsOn_104 ?_
              refine lv_topi (fun v_60 ev_60 => ?_)
              refine lv_iload_n (pc := 105) E.1 E.2.1 dX12_snowsOn_105 rfl (lv_at hl53 2 rfl) ?_
              refine lv_isub (pc := 106) E.1 E.2.1 dX12_snowsOn_106 ?_
              refine lv_topi (fun v_61 ev_61 => ?_)
              refine x_iastG (pc := 107) (f := g_56) (wf := fun g => (MW cI cJ M mr mi (va_up mf 63 g) mg)) E hw57 35 rfl (inbE (a := r_49.toInt) rfl (by omega)) (fun _ => rfl) dX12_snowsOn_107 (fun g_62 H locs eg_62 hw63 => ?_)
              obtain ⟨v_64, ev_64⟩ : ∃ z : Int32, x_14 + Int32.ofInt (1) = z := ⟨_, rfl⟩
              have hv_64 : v_64.toInt = x_14.toInt + (1) := by rw [← ev_64]; exact incE rfl (by decide) (by omega)
              refine lv_iinc (pc := 108) (v := v_64) (lv' := [(1, .int v_64), (4, .int r_49), (3, .int r_42), (2, .int v_38), (0, .ref M)]) E.1 E.2.1 dX12_snowsOn_108 hl53 (k := 3) rfl ev_64 (by decide) rfl (fun ls hl65 => ?_)
              refine lv_goto (pc := 111) (tgt := 23) E.1 E.2.1 dX12_snowsOn_111 (by decide) ?_
              exact ih_16 v_64 g_62 _ _ _ ⟨(by show 0 ≤ v_64.toInt; omega), (by show v_64.toInt ≤ 10; omega)⟩ (by omega) hw63 (lv_sub hl65 [0, 4] rfl)
        exact loop_13 (Int.toNat (10 - 0) + 1) 0 g_7 _ _ _ ⟨(by show 0 ≤ (0 : Int32).toInt; have k_0 : (0 : Int32).toInt = 0 := (by decide +kernel); omega), (by show (0 : Int32).toInt ≤ 10; have k_0 : (0 : Int32).toInt = 0 := (by decide +kernel); omega)⟩ (by have k_0 : (0 : Int32).toInt = 0 := (by decide +kernel); omega) hw9 (lv_sub hl12 [0, 1] rfl)
      · skip
        have hc_11 := nltE (a := 9) (b := x_6.toInt) (by decide +kernel) rfl c_11
        refine lv_aload_n (pc := 8) E.1 E.2.1 dX12_snowsOn_8 rfl (lv_at hl10 1 rfl) ?_
        refine x_get (pc := 9) (T := TX12) (N := 70) (ci := 12) (v := .ref (mr 63)) E hw9 inX12 0 63 q_1462 rfl rfl (by decide) rfl rfl dX12_snowsOn_9 ?_
        refine lv_iload_n (pc := 12) E.1 E.2.1 dX12_snowsOn_12 rfl (lv_at hl10 0 rfl) ?_
        refine lv_iconst (pc := 13) (v := 0) E.1 E.2.1 dX12_snowsOn_13 (by decide +kernel) ?_
        refine x_iastG (pc := 14) (f := g_7) (wf := fun g => (MW cI cJ M mr mi (va_up mf 63 g) mg)) E hw9 35 rfl (inbE (a := x_6.toInt) rfl (by omega)) (fun _ => rfl) dX12_snowsOn_14 (fun g_66 H locs eg_66 hw67 => ?_)
        obtain ⟨v_68, ev_68⟩ : ∃ z : Int32, x_6 + Int32.ofInt (1) = z := ⟨_, rfl⟩
        have hv_68 : v_68.toInt = x_6.toInt + (1) := by rw [← ev_68]; exact incE rfl (by decide) (by omega)
        refine lv_iinc (pc := 15) (v := v_68) (lv' := [(1, .int v_68), (0, .ref M)]) E.1 E.2.1 dX12_snowsOn_15 hl10 (k := 0) rfl ev_68 (by decide) rfl (fun ls hl69 => ?_)
        refine lv_goto (pc := 18) (tgt := 2) E.1 E.2.1 dX12_snowsOn_18 (by decide) ?_
        exact ih_8 v_68 g_66 _ _ _ ⟨(by show 0 ≤ v_68.toInt; omega), (by show v_68.toInt ≤ 10; omega)⟩ (by omega) hw67 (lv_sub hl69 [0, 1] rfl)
  exact loop_5 (Int.toNat (10 - 0) + 1) 0 (mf 63) _ _ _ ⟨(by show 0 ≤ (0 : Int32).toInt; have k_0 : (0 : Int32).toInt = 0 := (by decide +kernel); omega), (by show (0 : Int32).toInt ≤ 10; have k_0 : (0 : Int32).toInt = 0 := (by decide +kernel); omega)⟩ (by have k_0 : (0 : Int32).toInt = 0 := (by decide +kernel); omega) hw1 (lv_sub hl4 [0, 1] rfl)

set_option maxHeartbeats 4000000 in
set_option maxRecDepth 100000 in
theorem s_findsChances (l : Launch) (D : va_G) (cI cJ : ClassId) (sz M : Nat) (mr : Nat → Nat) (mi : Nat → Int32) (mf : Nat → Nat → Int32) (mg : Nat → Nat → Int64) (z_k : Int32) (h0 : 1 ≤ z_k.toInt ∧ z_k.toInt ≤ 9) : Met l yX12_findsChances (Cond.code yX12_findsChances cX12_findsChances 3 none :: GW) ({ frames := 3, cells := 0, slots := 0, locals := 87 } : Room) (va_Pc [.ref M, .int z_k] (PW D cI cJ sz (MW cI cJ M mr mi mf mg) xT)) (va_Qv (fun (u : (Nat → Int32) × (Nat → Int32)) => True) (fun u => QW D cI cJ (va_A (MW cI cJ M mr mi mf mg) sz) ((fun (u : (Nat → Int32) × (Nat → Int32)) => (MW cI cJ M mr mi (va_up (va_up mf 62 u.1) 63 u.2) mg)) u)) (va_A (MW cI cJ M mr mi mf mg) sz)) 0 0 (va_A (MW cI cJ M mr mi mf mg) sz) := by
  refine mk_met (y := yX12_findsChances) (bytes := cX12_findsChances) (maxL := 3) (avs := [.ref M, .int z_k]) (WS := (MW cI cJ M mr mi mf mg)) (Qf := fun A => va_Qv (fun (u : (Nat → Int32) × (Nat → Int32)) => True) (fun u => QW D cI cJ A ((fun (u : (Nat → Int32) × (Nat → Int32)) => (MW cI cJ M mr mi (va_up (va_up mf 62 u.1) 63 u.2) mg)) u)) A) (by decide) (Nat.le_of_ble_eq_true rfl) ?_
  intro p e s m below meth c A ls E hr hlk hnm hX hw1 hl2
  have hl3 : lv_has ls 3 [(0, .ref M), (1, .int z_k)] := hl2
  refine lv_iconst (pc := 0) (v := 0) E.1 E.2.1 dX12_findsChances_0 (by decide +kernel) ?_
  refine lv_istore_n (pc := 1) (lv' := [(2, .int 0), (0, .ref M), (1, .int z_k)]) E.1 E.2.1 dX12_findsChances_1 rfl hl3 (by decide) rfl (fun ls hl4 => ?_)
  have loop_5 : ∀ (k : Nat) (x_6 : Int32) (g_7 : Nat → Int32) (H : Heap) (locs : List Loc) (ls : Array Slot), (0 ≤ x_6.toInt) ∧ (x_6.toInt ≤ 10) → 10 - x_6.toInt < (k : Int) → WD D A s.heap (MW cI cJ M mr mi (va_up mf 62 g_7) mg) H locs → lv_has ls 3 [(2, .int x_6), (0, .ref M), (1, .int z_k)] → W p l e ({ frames := 3, cells := 0, slots := 0, locals := 87 } : Room) s m ([.ref M, .int z_k] : List Value).toArray below meth c H locs 0 0 (MQ below (va_Qv (fun (u : (Nat → Int32) × (Nat → Int32)) => True) (fun u => QW D cI cJ A ((fun (u : (Nat → Int32) × (Nat → Int32)) => (MW cI cJ M mr mi (va_up (va_up mf 62 u.1) 63 u.2) mg)) u)) A) ([.ref M, .int z_k] : List Value).toArray s 0 0 A) (F0 m 2 ls []) := by
    intro k
    induction k with
    | zero =>
      intro x_6 g_7 _ _ _ hinv hm
      obtain ⟨hi_7_0, hi_7_1⟩ := hinv
      exact absurd hm (by omega)
    | succ k ih_8 =>
      intro x_6 g_7 H locs ls hinv hm hw9 hl10
      obtain ⟨hi_7_0, hi_7_1⟩ := hinv
      refine lv_iload_n (pc := 2) E.1 E.2.1 dX12_findsChances_2 rfl (lv_at hl10 0 rfl) ?_
      refine lv_bipush (pc := 3) (v := 9) E.1 E.2.1 dX12_findsChances_3 (by decide +kernel) ?_
      refine lv_icmp_gt (pc := 5) (tgt := 37) E.1 E.2.1 dX12_findsChances_5 (by decide) (fun c_11 => ?_) (fun c_11 => ?_)
      · skip
        have hc_11 := ltE (a := 9) (b := x_6.toInt) (by decide +kernel) rfl c_11
        refine lv_iconst (pc := 37) (v := 0) E.1 E.2.1 dX12_findsChances_37 (by decide +kernel) ?_
        refine lv_istore_n (pc := 38) (lv' := [(2, .int 0), (0, .ref M), (1, .int z_k)]) E.1 E.2.1 dX12_findsChances_38 rfl hl10 (by decide) rfl (fun ls hl12 => ?_)
        have loop_13 : ∀ (k : Nat) (x_14 : Int32) (g_15 : Nat → Int32) (g_16 : Nat → Int32) (H : Heap) (locs : List Loc) (ls : Array Slot), (0 ≤ x_14.toInt) ∧ (x_14.toInt ≤ z_k.toInt) → z_k.toInt - x_14.toInt < (k : Int) → WD D A s.heap (MW cI cJ M mr mi (va_up (va_up mf 62 g_15) 63 g_16) mg) H locs → lv_has ls 3 [(2, .int x_14), (0, .ref M), (1, .int z_k)] → W p l e ({ frames := 3, cells := 0, slots := 0, locals := 87 } : Room) s m ([.ref M, .int z_k] : List Value).toArray below meth c H locs 0 0 (MQ below (va_Qv (fun (u : (Nat → Int32) × (Nat → Int32)) => True) (fun u => QW D cI cJ A ((fun (u : (Nat → Int32) × (Nat → Int32)) => (MW cI cJ M mr mi (va_up (va_up mf 62 u.1) 63 u.2) mg)) u)) A) ([.ref M, .int z_k] : List Value).toArray s 0 0 A) (F0 m 39 ls []) := by
          intro k
          induction k with
          | zero =>
            intro x_14 g_15 g_16 _ _ _ hinv hm
            obtain ⟨hi_16_0, hi_16_1⟩ := hinv
            exact absurd hm (by omega)
          | succ k ih_17 =>
            intro x_14 g_15 g_16 H locs ls hinv hm hw18 hl19
            obtain ⟨hi_16_0, hi_16_1⟩ := hinv
            refine lv_iload_n (pc := 39) E.1 E.2.1 dX12_findsChances_39 rfl (lv_at hl19 0 rfl) ?_
            refine lv_iload_n (pc := 40) E.1 E.2.1 dX12_findsChances_40 rfl (lv_at hl19 2 rfl) ?_
            refine lv_icmp_ge (pc := 41) (tgt := 61) E.1 E.2.1 dX12_findsChances_41 (by decide) (fun c_20 => ?_) (fun c_20 => ?_)
            · skip
              have hc_20 := leE (a := z_k.toInt) (b := x_14.toInt) rfl rfl c_20
              exact em_v (w1 := (fun (u : (Nat → Int32) × (Nat → Int32)) => (MW cI cJ M mr mi (va_up (va_up mf 62 u.1) 63 u.2) mg))) E hr hlk (g_15, g_16) hw18 trivial (Nat.le_of_ble_eq_true rfl) (Nat.le_of_ble_eq_true rfl) dX12_findsChances_61
            · skip
              have hc_20 := nleE (a := z_k.toInt) (b := x_14.toInt) rfl rfl c_20
              refine lv_aload_n (pc := 44) E.1 E.2.1 dX12_findsChances_44 rfl (lv_at hl19 1 rfl) ?_
              refine x_get (pc := 45) (T := TX12) (N := 70) (ci := 12) (v := .int (mi 12)) E hw18 inX12 0 12 q_1411 rfl rfl (by decide) rfl rfl dX12_findsChances_45 ?_
              refine lv_if_le (pc := 48) (tgt := 61) E.1 E.2.1 dX12_findsChances_48 (by decide) (fun c_21 => ?_) (fun c_21 => ?_)
              · skip
                have hc_21 := leE (a := (mi 12).toInt) (b := 0) rfl (by decide +kernel) c_21
                exact em_v (w1 := (fun (u : (Nat → Int32) × (Nat → Int32)) => (MW cI cJ M mr mi (va_up (va_up mf 62 u.1) 63 u.2) mg))) E hr hlk (g_15, g_16) hw18 trivial (Nat.le_of_ble_eq_true rfl) (Nat.le_of_ble_eq_true rfl) dX12_findsChances_61
              · skip
                have hc_21 := nleE (a := (mi 12).toInt) (b := 0) rfl (by decide +kernel) c_21
                refine lv_aload_n (pc := 51) E.1 E.2.1 dX12_findsChances_51 rfl (lv_at hl19 1 rfl) ?_
                refine cm_v (pc := 52) hw18 (rn_M (As := []) (rest := []) E hw18 (s_snowsOn l D cI cJ _ M mr mi (va_up (va_up mf 62 g_15) 63 g_16) mg ) (gdV q_2075 q_2077 q_140 q_162 q_2078) hdV_X12_snowsOn ⟨rfl, rfl⟩ ⟨(Nat.le_of_ble_eq_true rfl), (Nat.le_of_ble_eq_true rfl)⟩ ⟨(Nat.le_of_ble_eq_true rfl), (Nat.le_of_ble_eq_true rfl)⟩ 12 rfl rfl rfl rfl hl19.1 rfl (Nat.le_of_ble_eq_true rfl) dX12_findsChances_52) (fun u_22 H1 locs hp hw24 => ?_)
                obtain ⟨gchances_25, gchancesThen_26⟩ := u_22
                generalize H1 = H at hw24 ⊢
                have hw27 : WD D A s.heap (MW cI cJ M mr mi (va_up (va_up mf 62 gchances_25) 63 gchancesThen_26) mg) H locs := hw24
                obtain ⟨v_28, ev_28⟩ : ∃ z : Int32, x_14 + Int32.ofInt (1) = z := ⟨_, rfl⟩
                have hv_28 : v_28.toInt = x_14.toInt + (1) := by rw [← ev_28]; exact incE rfl (by decide) (by omega)
                refine lv_iinc (pc := 55) (v := v_28) (lv' := [(2, .int v_28), (0, .ref M), (1, .int z_k)]) E.1 E.2.1 dX12_findsChances_55 hl19 (k := 0) rfl ev_28 (by decide) rfl (fun ls hl29 => ?_)
                refine lv_goto (pc := 58) (tgt := 39) E.1 E.2.1 dX12_findsChances_58 (by decide) ?_
                exact ih_17 v_28 gchances_25 gchancesThen_26 _ _ _ ⟨(by show 0 ≤ v_28.toInt; omega), (by show v_28.toInt ≤ z_k.toInt; omega)⟩ (by omega) hw27 (lv_sub hl29 [0, 1, 2] rfl)
        exact loop_13 (Int.toNat (z_k.toInt - 0) + 1) 0 g_7 (mf 63) _ _ _ ⟨(by show 0 ≤ (0 : Int32).toInt; have k_0 : (0 : Int32).toInt = 0 := (by decide +kernel); omega), (by show (0 : Int32).toInt ≤ z_k.toInt; have k_0 : (0 : Int32).toInt = 0 := (by decide +kernel); omega)⟩ (by have k_0 : (0 : Int32).toInt = 0 := (by decide +kernel); omega) hw9 (lv_sub hl12 [0, 1, 2] rfl)
      · skip
        have hc_11 := nltE (a := 9) (b := x_6.toInt) (by decide +kernel) rfl c_11
        refine lv_aload_n (pc := 8) E.1 E.2.1 dX12_findsChances_8 rfl (lv_at hl10 1 rfl) ?_
        refine x_get (pc := 9) (T := TX12) (N := 70) (ci := 12) (v := .ref (mr 62)) E hw9 inX12 0 62 q_1461 rfl rfl (by decide) rfl rfl dX12_findsChances_9 ?_
        refine lv_iload_n (pc := 12) E.1 E.2.1 dX12_findsChances_12 rfl (lv_at hl10 0 rfl) ?_
        refine lv_iload_n (pc := 13) E.1 E.2.1 dX12_findsChances_13 rfl (lv_at hl10 0 rfl) ?_
        refine lv_aload_n (pc := 14) E.1 E.2.1 dX12_findsChances_14 rfl (lv_at hl10 1 rfl) ?_
        refine x_get (pc := 15) (T := TX12) (N := 70) (ci := 12) (v := .ref (mr 1)) E hw9 inX12 0 1 q_1400 rfl rfl (by decide) rfl rfl dX12_findsChances_15 ?_
        refine lv_iconst (pc := 18) (v := 4) E.1 E.2.1 dX12_findsChances_18 (by decide +kernel) ?_
        refine x_iald (pc := 19) (f := (mf 1)) E hw9 1 rfl (inbE (a := 4) (by decide +kernel) (by omega)) dX12_findsChances_19 ?_
        refine lv_topi (fun v_30 ev_30 => ?_)
        refine lv_icmp_ne (pc := 20) (tgt := 29) E.1 E.2.1 dX12_findsChances_20 (by decide) (fun c_31 => ?_) (fun c_31 => ?_)
        · skip
          have hc_31 := neE (a := x_6.toInt) (b := v_30.toInt) rfl rfl c_31
          refine lv_iconst (pc := 29) (v := 0) E.1 E.2.1 dX12_findsChances_29 (by decide +kernel) ?_
          refine x_iastG (pc := 30) (f := g_7) (wf := fun g => (MW cI cJ M mr mi (va_up mf 62 g) mg)) E hw9 34 rfl (inbE (a := x_6.toInt) rfl (by omega)) (fun _ => rfl) dX12_findsChances_30 (fun g_32 H locs eg_32 hw33 => ?_)
          obtain ⟨v_34, ev_34⟩ : ∃ z : Int32, x_6 + Int32.ofInt (1) = z := ⟨_, rfl⟩
          have hv_34 : v_34.toInt = x_6.toInt + (1) := by rw [← ev_34]; exact incE rfl (by decide) (by omega)
          refine lv_iinc (pc := 31) (v := v_34) (lv' := [(2, .int v_34), (0, .ref M), (1, .int z_k)]) E.1 E.2.1 dX12_findsChances_31 hl10 (k := 0) rfl ev_34 (by decide) rfl (fun ls hl35 => ?_)
          refine lv_goto (pc := 34) (tgt := 2) E.1 E.2.1 dX12_findsChances_34 (by decide) ?_
          exact ih_8 v_34 g_32 _ _ _ ⟨(by show 0 ≤ v_34.toInt; omega), (by show v_34.toInt ≤ 10; omega)⟩ (by omega) hw33 (lv_sub hl35 [0, 1, 2] rfl)
        · skip
          have hc_31 := eqE (a := x_6.toInt) (b := v_30.toInt) rfl rfl c_31
          refine lv_ldcw (pc := 23) (v := 1000000) E.1 E.2.1 E.2.2.2.1 (E.2.2.2.2.1 _ q_2074) dX12_findsChances_23 ?_
          refine lv_goto (pc := 26) (tgt := 30) E.1 E.2.1 dX12_findsChances_26 (by decide) ?_
          refine x_iastG (pc := 30) (f := g_7) (wf := fun g => (MW cI cJ M mr mi (va_up mf 62 g) mg)) E hw9 34 rfl (inbE (a := x_6.toInt) rfl (by omega)) (fun _ => rfl) dX12_findsChances_30 (fun g_36 H locs eg_36 hw37 => ?_)
          obtain ⟨v_38, ev_38⟩ : ∃ z : Int32, x_6 + Int32.ofInt (1) = z := ⟨_, rfl⟩
          have hv_38 : v_38.toInt = x_6.toInt + (1) := by rw [← ev_38]; exact incE rfl (by decide) (by omega)
          refine lv_iinc (pc := 31) (v := v_38) (lv' := [(2, .int v_38), (0, .ref M), (1, .int z_k)]) E.1 E.2.1 dX12_findsChances_31 hl10 (k := 0) rfl ev_38 (by decide) rfl (fun ls hl39 => ?_)
          refine lv_goto (pc := 34) (tgt := 2) E.1 E.2.1 dX12_findsChances_34 (by decide) ?_
          exact ih_8 v_38 g_36 _ _ _ ⟨(by show 0 ≤ v_38.toInt; omega), (by show v_38.toInt ≤ 10; omega)⟩ (by omega) hw37 (lv_sub hl39 [0, 1, 2] rfl)
  exact loop_5 (Int.toNat (10 - 0) + 1) 0 (mf 62) _ _ _ ⟨(by show 0 ≤ (0 : Int32).toInt; have k_0 : (0 : Int32).toInt = 0 := (by decide +kernel); omega), (by show (0 : Int32).toInt ≤ 10; have k_0 : (0 : Int32).toInt = 0 := (by decide +kernel); omega)⟩ (by have k_0 : (0 : Int32).toInt = 0 := (by decide +kernel); omega) hw1 (lv_sub hl4 [0, 1, 2] rfl)

set_option maxHeartbeats 4000000 in
set_option maxRecDepth 100000 in
theorem s_spoils (l : Launch) (D : va_G) (cI cJ : ClassId) (sz M : Nat) (mr : Nat → Nat) (mi : Nat → Int32) (mf : Nat → Nat → Int32) (mg : Nat → Nat → Int64)  (h0 : 0 ≤ (mi 44).toInt ∧ (mi 44).toInt ≤ 10) : Met l yX12_spoils (Cond.code yX12_spoils cX12_spoils 2 none :: GW) ({ frames := 2, cells := 0, slots := 0, locals := 62 } : Room) (va_Pc [.ref M] (PW D cI cJ sz (MW cI cJ M mr mi mf mg) xT)) (va_Qv (fun (u : (Nat → Int32)) => ((u 2).toInt = ((mf 1) 2).toInt) ∧ ((u 3).toInt = ((mf 1) 3).toInt) ∧ ((u 5).toInt = ((mf 1) 5).toInt)) (fun u => QW D cI cJ (va_A (MW cI cJ M mr mi mf mg) sz) ((fun (u : (Nat → Int32)) => (MW cI cJ M mr mi (va_up mf 1 u) mg)) u)) (va_A (MW cI cJ M mr mi mf mg) sz)) 0 0 (va_A (MW cI cJ M mr mi mf mg) sz) := by
  refine mk_met (y := yX12_spoils) (bytes := cX12_spoils) (maxL := 2) (avs := [.ref M]) (WS := (MW cI cJ M mr mi mf mg)) (Qf := fun A => va_Qv (fun (u : (Nat → Int32)) => ((u 2).toInt = ((mf 1) 2).toInt) ∧ ((u 3).toInt = ((mf 1) 3).toInt) ∧ ((u 5).toInt = ((mf 1) 5).toInt)) (fun u => QW D cI cJ A ((fun (u : (Nat → Int32)) => (MW cI cJ M mr mi (va_up mf 1 u) mg)) u)) A) (by decide) (Nat.le_of_ble_eq_true rfl) ?_
  intro p e s m below meth c A ls E hr hlk hnm hX hw1 hl2
  have hl3 : lv_has ls 2 [(0, .ref M)] := hl2
  refine lv_iconst (pc := 0) (v := 0) E.1 E.2.1 dX12_spoils_0 (by decide +kernel) ?_
  refine lv_istore_n (pc := 1) (lv' := [(1, .int 0), (0, .ref M)]) E.1 E.2.1 dX12_spoils_1 rfl hl3 (by decide) rfl (fun ls hl4 => ?_)
  have loop_5 : ∀ (k : Nat) (x_6 : Int32) (g_7 : Nat → Int32) (H : Heap) (locs : List Loc) (ls : Array Slot), (0 ≤ x_6.toInt) ∧ (x_6.toInt ≤ (mi 44).toInt) ∧ ((g_7 2).toInt = ((mf 1) 2).toInt) ∧ ((g_7 3).toInt = ((mf 1) 3).toInt) ∧ ((g_7 5).toInt = ((mf 1) 5).toInt) → (mi 44).toInt - x_6.toInt < (k : Int) → WD D A s.heap (MW cI cJ M mr mi (va_up mf 1 g_7) mg) H locs → lv_has ls 2 [(1, .int x_6), (0, .ref M)] → W p l e ({ frames := 2, cells := 0, slots := 0, locals := 62 } : Room) s m ([.ref M] : List Value).toArray below meth c H locs 0 0 (MQ below (va_Qv (fun (u : (Nat → Int32)) => ((u 2).toInt = ((mf 1) 2).toInt) ∧ ((u 3).toInt = ((mf 1) 3).toInt) ∧ ((u 5).toInt = ((mf 1) 5).toInt)) (fun u => QW D cI cJ A ((fun (u : (Nat → Int32)) => (MW cI cJ M mr mi (va_up mf 1 u) mg)) u)) A) ([.ref M] : List Value).toArray s 0 0 A) (F0 m 2 ls []) := by
    intro k
    induction k with
    | zero =>
      intro x_6 g_7 _ _ _ hinv hm
      obtain ⟨hi_7_0, hi_7_1, hi_7_2, hi_7_3, hi_7_4⟩ := hinv
      exact absurd hm (by omega)
    | succ k ih_8 =>
      intro x_6 g_7 H locs ls hinv hm hw9 hl10
      obtain ⟨hi_7_0, hi_7_1, hi_7_2, hi_7_3, hi_7_4⟩ := hinv
      refine lv_iload_n (pc := 2) E.1 E.2.1 dX12_spoils_2 rfl (lv_at hl10 0 rfl) ?_
      refine lv_aload_n (pc := 3) E.1 E.2.1 dX12_spoils_3 rfl (lv_at hl10 1 rfl) ?_
      refine x_get (pc := 4) (T := TX12) (N := 70) (ci := 12) (v := .int (mi 44)) E hw9 inX12 0 44 q_1443 rfl rfl (by decide) rfl rfl dX12_spoils_4 ?_
      refine lv_icmp_ge (pc := 7) (tgt := 53) E.1 E.2.1 dX12_spoils_7 (by decide) (fun c_11 => ?_) (fun c_11 => ?_)
      · skip
        have hc_11 := leE (a := (mi 44).toInt) (b := x_6.toInt) rfl rfl c_11
        exact em_v (w1 := (fun (u : (Nat → Int32)) => (MW cI cJ M mr mi (va_up mf 1 u) mg))) E hr hlk g_7 hw9 ⟨hi_7_2, hi_7_3, hi_7_4⟩ (Nat.le_of_ble_eq_true rfl) (Nat.le_of_ble_eq_true rfl) dX12_spoils_53
      · skip
        have hc_11 := nleE (a := (mi 44).toInt) (b := x_6.toInt) rfl rfl c_11
        refine lv_aload_n (pc := 10) E.1 E.2.1 dX12_spoils_10 rfl (lv_at hl10 1 rfl) ?_
        refine x_get (pc := 11) (T := TX12) (N := 70) (ci := 12) (v := .ref (mr 1)) E hw9 inX12 0 1 q_1400 rfl rfl (by decide) rfl rfl dX12_spoils_11 ?_
        refine lv_bipush (pc := 14) (v := 46) E.1 E.2.1 dX12_spoils_14 (by decide +kernel) ?_
        refine lv_iload_n (pc := 16) E.1 E.2.1 dX12_spoils_16 rfl (lv_at hl10 0 rfl) ?_
        refine lv_iadd (pc := 17) E.1 E.2.1 dX12_spoils_17 ?_
        refine lv_topi (fun v_12 ev_12 => ?_)
        have hv_12 : v_12.toInt = 46 + x_6.toInt := by rw [ev_12]; exact addE (by decide +kernel) rfl (by omega)
        refine x_iald (pc := 18) (f := g_7) E hw9 1 rfl (inbE (a := v_12.toInt) rfl (by omega)) dX12_spoils_18 ?_
        refine lv_topi (fun v_13 ev_13 => ?_)
        refine lv_if_ne (pc := 19) (tgt := 47) E.1 E.2.1 dX12_spoils_19 (by decide) (fun c_14 => ?_) (fun c_14 => ?_)
        · skip
          have hc_14 := neE (a := v_13.toInt) (b := 0) rfl (by decide +kernel) c_14
          obtain ⟨v_15, ev_15⟩ : ∃ z : Int32, x_6 + Int32.ofInt (1) = z := ⟨_, rfl⟩
          have hv_15 : v_15.toInt = x_6.toInt + (1) := by rw [← ev_15]; exact incE rfl (by decide) (by omega)
          refine lv_iinc (pc := 47) (v := v_15) (lv' := [(1, .int v_15), (0, .ref M)]) E.1 E.2.1 dX12_spoils_47 hl10 (k := 0) rfl ev_15 (by decide) rfl (fun ls hl16 => ?_)
          refine lv_goto (pc := 50) (tgt := 2) E.1 E.2.1 dX12_spoils_50 (by decide) ?_
          exact ih_8 v_15 g_7 _ _ _ ⟨(by show 0 ≤ v_15.toInt; omega), (by show v_15.toInt ≤ (mi 44).toInt; omega), hi_7_2, hi_7_3, hi_7_4⟩ (by omega) hw9 (lv_sub hl16 [0, 1] rfl)
        · skip
          have hc_14 := eqE (a := v_13.toInt) (b := 0) rfl (by decide +kernel) c_14
          refine lv_aload_n (pc := 22) E.1 E.2.1 dX12_spoils_22 rfl (lv_at hl10 1 rfl) ?_
          refine lv_iload_n (pc := 23) E.1 E.2.1 dX12_spoils_23 rfl (lv_at hl10 0 rfl) ?_
          refine lv_iconst (pc := 24) (v := 3) E.1 E.2.1 dX12_spoils_24 (by decide +kernel) ?_
          refine cm_i (pc := 25) hw9 (rn_M (As := [.int x_6, .int 3]) (rest := []) E hw9 (s_ofNeed l D cI cJ _ M mr mi (va_up mf 1 g_7) mg x_6 3 (by show 0 ≤ x_6.toInt ∧ x_6.toInt ≤ 9; omega) (by show 0 ≤ (3 : Int32).toInt ∧ (3 : Int32).toInt ≤ 4; have k_0 : (3 : Int32).toInt = 3 := (by decide +kernel); omega)) (gdV q_1871 q_1873 q_100 q_162 q_1874) hdV_X12_ofNeed ⟨rfl, rfl⟩ ⟨(Nat.le_of_ble_eq_true rfl), (Nat.le_of_ble_eq_true rfl)⟩ ⟨(Nat.le_of_ble_eq_true rfl), (Nat.le_of_ble_eq_true rfl)⟩ 12 rfl rfl rfl rfl hl10.1 rfl (Nat.le_of_ble_eq_true rfl) dX12_spoils_25) (fun r_18 u_17 H1 locs hp hw19 => ?_)
          generalize H1 = H at hw19 ⊢
          have hw20 : WD D A s.heap (MW cI cJ M mr mi (va_up mf 1 g_7) mg) H locs := hw19
          refine lv_aload_n (pc := 28) E.1 E.2.1 dX12_spoils_28 rfl (lv_at hl10 1 rfl) ?_
          refine x_get (pc := 29) (T := TX12) (N := 70) (ci := 12) (v := .ref (mr 1)) E hw20 inX12 0 1 q_1400 rfl rfl (by decide) rfl rfl dX12_spoils_29 ?_
          refine lv_iconst (pc := 32) (v := 0) E.1 E.2.1 dX12_spoils_32 (by decide +kernel) ?_
          refine x_iald (pc := 33) (f := g_7) E hw20 1 rfl (inbE (a := 0) (by decide +kernel) (by omega)) dX12_spoils_33 ?_
          refine lv_topi (fun v_21 ev_21 => ?_)
          refine lv_icmp_ne (pc := 34) (tgt := 47) E.1 E.2.1 dX12_spoils_34 (by decide) (fun c_22 => ?_) (fun c_22 => ?_)
          · skip
            have hc_22 := neE (a := r_18.toInt) (b := v_21.toInt) rfl rfl c_22
            obtain ⟨v_23, ev_23⟩ : ∃ z : Int32, x_6 + Int32.ofInt (1) = z := ⟨_, rfl⟩
            have hv_23 : v_23.toInt = x_6.toInt + (1) := by rw [← ev_23]; exact incE rfl (by decide) (by omega)
            refine lv_iinc (pc := 47) (v := v_23) (lv' := [(1, .int v_23), (0, .ref M)]) E.1 E.2.1 dX12_spoils_47 hl10 (k := 0) rfl ev_23 (by decide) rfl (fun ls hl24 => ?_)
            refine lv_goto (pc := 50) (tgt := 2) E.1 E.2.1 dX12_spoils_50 (by decide) ?_
            exact ih_8 v_23 g_7 _ _ _ ⟨(by show 0 ≤ v_23.toInt; omega), (by show v_23.toInt ≤ (mi 44).toInt; omega), hi_7_2, hi_7_3, hi_7_4⟩ (by omega) hw20 (lv_sub hl24 [0, 1] rfl)
          · skip
            have hc_22 := eqE (a := r_18.toInt) (b := v_21.toInt) rfl rfl c_22
            refine lv_aload_n (pc := 37) E.1 E.2.1 dX12_spoils_37 rfl (lv_at hl10 1 rfl) ?_
            refine x_get (pc := 38) (T := TX12) (N := 70) (ci := 12) (v := .ref (mr 1)) E hw20 inX12 0 1 q_1400 rfl rfl (by decide) rfl rfl dX12_spoils_38 ?_
            refine lv_bipush (pc := 41) (v := 56) E.1 E.2.1 dX12_spoils_41 (by decide +kernel) ?_
            refine lv_iload_n (pc := 43) E.1 E.2.1 dX12_spoils_43 rfl (lv_at hl10 0 rfl) ?_
            refine lv_iadd (pc := 44) E.1 E.2.1 dX12_spoils_44 ?_
            refine lv_topi (fun v_25 ev_25 => ?_)
            have hv_25 : v_25.toInt = 56 + x_6.toInt := by rw [ev_25]; exact addE (by decide +kernel) rfl (by omega)
            refine lv_iconst (pc := 45) (v := 1) E.1 E.2.1 dX12_spoils_45 (by decide +kernel) ?_
            refine x_iastG (pc := 46) (f := g_7) (wf := fun g => (MW cI cJ M mr mi (va_up mf 1 g) mg)) E hw20 1 rfl (inbE (a := v_25.toInt) rfl (by omega)) (fun _ => rfl) dX12_spoils_46 (fun g_26 H locs eg_26 hw27 => ?_)
            have ht_28 : (g_26 2).toInt = (g_7 2).toInt := by rw [eg_26, pk_un (by have q9 := idxI (x := v_25) (by omega); omega)]
            have ht_29 : (g_26 3).toInt = (g_7 3).toInt := by rw [eg_26, pk_un (by have q9 := idxI (x := v_25) (by omega); omega)]
            have ht_30 : (g_26 5).toInt = (g_7 5).toInt := by rw [eg_26, pk_un (by have q9 := idxI (x := v_25) (by omega); omega)]
            obtain ⟨v_31, ev_31⟩ : ∃ z : Int32, x_6 + Int32.ofInt (1) = z := ⟨_, rfl⟩
            have hv_31 : v_31.toInt = x_6.toInt + (1) := by rw [← ev_31]; exact incE rfl (by decide) (by omega)
            refine lv_iinc (pc := 47) (v := v_31) (lv' := [(1, .int v_31), (0, .ref M)]) E.1 E.2.1 dX12_spoils_47 hl10 (k := 0) rfl ev_31 (by decide) rfl (fun ls hl32 => ?_)
            refine lv_goto (pc := 50) (tgt := 2) E.1 E.2.1 dX12_spoils_50 (by decide) ?_
            exact ih_8 v_31 g_26 _ _ _ ⟨(by show 0 ≤ v_31.toInt; omega), (by show v_31.toInt ≤ (mi 44).toInt; omega), (by show (g_26 2).toInt = ((mf 1) 2).toInt; omega), (by show (g_26 3).toInt = ((mf 1) 3).toInt; omega), (by show (g_26 5).toInt = ((mf 1) 5).toInt; omega)⟩ (by omega) hw27 (lv_sub hl32 [0, 1] rfl)
  exact loop_5 (Int.toNat ((mi 44).toInt - 0) + 1) 0 (mf 1) _ _ _ ⟨(by show 0 ≤ (0 : Int32).toInt; have k_0 : (0 : Int32).toInt = 0 := (by decide +kernel); omega), (by show (0 : Int32).toInt ≤ (mi 44).toInt; have k_0 : (0 : Int32).toInt = 0 := (by decide +kernel); omega), rfl, rfl, rfl⟩ (by have k_0 : (0 : Int32).toInt = 0 := (by decide +kernel); omega) hw1 (lv_sub hl4 [0, 1] rfl)

set_option maxHeartbeats 4000000 in
set_option maxRecDepth 100000 in
theorem s_doesNeeds (l : Launch) (D : va_G) (cI cJ : ClassId) (sz M : Nat) (mr : Nat → Nat) (mi : Nat → Int32) (mf : Nat → Nat → Int32) (mg : Nat → Nat → Int64) (z_h : Int32) (z_w : Int32) (h0 : 0 ≤ (mi 44).toInt ∧ (mi 44).toInt ≤ 10) : Met l yX12_doesNeeds (Cond.code yX12_doesNeeds cX12_doesNeeds 5 (some .int) :: GW) ({ frames := 3, cells := 0, slots := 0, locals := 84 } : Room) (va_Pc [.ref M, .int z_h, .int z_w] (PW D cI cJ sz (MW cI cJ M mr mi mf mg) xT)) (va_Qi (fun (r : Int32) (u : (Nat → Int32)) => ((u 2).toInt = ((mf 1) 2).toInt) ∧ ((u 3).toInt = ((mf 1) 3).toInt) ∧ ((u 5).toInt = ((mf 1) 5).toInt)) (fun u => QW D cI cJ (va_A (MW cI cJ M mr mi mf mg) sz) ((fun (u : (Nat → Int32)) => (MW cI cJ M mr mi (va_up mf 1 u) mg)) u)) (va_A (MW cI cJ M mr mi mf mg) sz)) 0 0 (va_A (MW cI cJ M mr mi mf mg) sz) := by
  refine mk_met (y := yX12_doesNeeds) (bytes := cX12_doesNeeds) (maxL := 5) (avs := [.ref M, .int z_h, .int z_w]) (WS := (MW cI cJ M mr mi mf mg)) (Qf := fun A => va_Qi (fun (r : Int32) (u : (Nat → Int32)) => ((u 2).toInt = ((mf 1) 2).toInt) ∧ ((u 3).toInt = ((mf 1) 3).toInt) ∧ ((u 5).toInt = ((mf 1) 5).toInt)) (fun u => QW D cI cJ A ((fun (u : (Nat → Int32)) => (MW cI cJ M mr mi (va_up mf 1 u) mg)) u)) A) (by decide) (Nat.le_of_ble_eq_true rfl) ?_
  intro p e s m below meth c A ls E hr hlk hnm hX hw1 hl2
  have hl3 : lv_has ls 5 [(0, .ref M), (1, .int z_h), (2, .int z_w)] := hl2
  refine lv_iconst (pc := 0) (v := 0) E.1 E.2.1 dX12_doesNeeds_0 (by decide +kernel) ?_
  refine lv_istore_n (pc := 1) (lv' := [(3, .int 0), (0, .ref M), (1, .int z_h), (2, .int z_w)]) E.1 E.2.1 dX12_doesNeeds_1 rfl hl3 (by decide) rfl (fun ls hl4 => ?_)
  refine lv_iconst (pc := 2) (v := 0) E.1 E.2.1 dX12_doesNeeds_2 (by decide +kernel) ?_
  refine lv_istore (pc := 3) (lv' := [(4, .int 0), (3, .int 0), (0, .ref M), (1, .int z_h), (2, .int z_w)]) E.1 E.2.1 dX12_doesNeeds_3 hl4 (by decide) rfl (fun ls hl5 => ?_)
  have loop_6 : ∀ (k : Nat) (x_7 : Int32) (x_8 : Int32) (g_9 : Nat → Int32) (H : Heap) (locs : List Loc) (ls : Array Slot), (0 ≤ x_7.toInt) ∧ (x_7.toInt ≤ (mi 44).toInt) ∧ ((g_9 2).toInt = ((mf 1) 2).toInt) ∧ ((g_9 3).toInt = ((mf 1) 3).toInt) ∧ ((g_9 5).toInt = ((mf 1) 5).toInt) → (mi 44).toInt - x_7.toInt < (k : Int) → WD D A s.heap (MW cI cJ M mr mi (va_up mf 1 g_9) mg) H locs → lv_has ls 5 [(4, .int x_7), (3, .int x_8), (0, .ref M), (1, .int z_h), (2, .int z_w)] → W p l e ({ frames := 3, cells := 0, slots := 0, locals := 84 } : Room) s m ([.ref M, .int z_h, .int z_w] : List Value).toArray below meth c H locs 0 0 (MQ below (va_Qi (fun (r : Int32) (u : (Nat → Int32)) => ((u 2).toInt = ((mf 1) 2).toInt) ∧ ((u 3).toInt = ((mf 1) 3).toInt) ∧ ((u 5).toInt = ((mf 1) 5).toInt)) (fun u => QW D cI cJ A ((fun (u : (Nat → Int32)) => (MW cI cJ M mr mi (va_up mf 1 u) mg)) u)) A) ([.ref M, .int z_h, .int z_w] : List Value).toArray s 0 0 A) (F0 m 5 ls []) := by
    intro k
    induction k with
    | zero =>
      intro x_7 x_8 g_9 _ _ _ hinv hm
      obtain ⟨hi_9_0, hi_9_1, hi_9_2, hi_9_3, hi_9_4⟩ := hinv
      exact absurd hm (by omega)
    | succ k ih_10 =>
      intro x_7 x_8 g_9 H locs ls hinv hm hw11 hl12
      obtain ⟨hi_9_0, hi_9_1, hi_9_2, hi_9_3, hi_9_4⟩ := hinv
      refine lv_iload (pc := 5) E.1 E.2.1 dX12_doesNeeds_5 (lv_at hl12 0 rfl) ?_
      refine lv_aload_n (pc := 7) E.1 E.2.1 dX12_doesNeeds_7 rfl (lv_at hl12 2 rfl) ?_
      refine x_get (pc := 8) (T := TX12) (N := 70) (ci := 12) (v := .int (mi 44)) E hw11 inX12 0 44 q_1443 rfl rfl (by decide) rfl rfl dX12_doesNeeds_8 ?_
      refine lv_icmp_ge (pc := 11) (tgt := 83) E.1 E.2.1 dX12_doesNeeds_11 (by decide) (fun c_13 => ?_) (fun c_13 => ?_)
      · skip
        have hc_13 := leE (a := (mi 44).toInt) (b := x_7.toInt) rfl rfl c_13
        refine lv_iload_n (pc := 83) E.1 E.2.1 dX12_doesNeeds_83 rfl (lv_at hl12 1 rfl) ?_
        exact em_i (w1 := (fun (u : (Nat → Int32)) => (MW cI cJ M mr mi (va_up mf 1 u) mg))) E hr hlk g_9 hw11 ⟨hi_9_2, hi_9_3, hi_9_4⟩ (Nat.le_of_ble_eq_true rfl) (Nat.le_of_ble_eq_true rfl) dX12_doesNeeds_84
      · skip
        have hc_13 := nleE (a := (mi 44).toInt) (b := x_7.toInt) rfl rfl c_13
        refine lv_aload_n (pc := 14) E.1 E.2.1 dX12_doesNeeds_14 rfl (lv_at hl12 2 rfl) ?_
        refine lv_iload (pc := 15) E.1 E.2.1 dX12_doesNeeds_15 (lv_at hl12 0 rfl) ?_
        refine lv_iconst (pc := 17) (v := 1) E.1 E.2.1 dX12_doesNeeds_17 (by decide +kernel) ?_
        refine cm_i (pc := 18) hw11 (rn_M (As := [.int x_7, .int 1]) (rest := []) E hw11 (s_ofNeed l D cI cJ _ M mr mi (va_up mf 1 g_9) mg x_7 1 (by show 0 ≤ x_7.toInt ∧ x_7.toInt ≤ 9; omega) (by show 0 ≤ (1 : Int32).toInt ∧ (1 : Int32).toInt ≤ 4; have k_0 : (1 : Int32).toInt = 1 := (by decide +kernel); omega)) (gdV q_1871 q_1873 q_100 q_162 q_1874) hdV_X12_ofNeed ⟨rfl, rfl⟩ ⟨(Nat.le_of_ble_eq_true rfl), (Nat.le_of_ble_eq_true rfl)⟩ ⟨(Nat.le_of_ble_eq_true rfl), (Nat.le_of_ble_eq_true rfl)⟩ 12 rfl rfl rfl rfl hl12.1 rfl (Nat.le_of_ble_eq_true rfl) dX12_doesNeeds_18) (fun r_15 u_14 H1 locs hp hw16 => ?_)
        generalize H1 = H at hw16 ⊢
        have hw17 : WD D A s.heap (MW cI cJ M mr mi (va_up mf 1 g_9) mg) H locs := hw16
        refine lv_iload_n (pc := 21) E.1 E.2.1 dX12_doesNeeds_21 rfl (lv_at hl12 3 rfl) ?_
        refine lv_icmp_ne (pc := 22) (tgt := 77) E.1 E.2.1 dX12_doesNeeds_22 (by decide) (fun c_18 => ?_) (fun c_18 => ?_)
        · skip
          have hc_18 := neE (a := r_15.toInt) (b := z_h.toInt) rfl rfl c_18
          obtain ⟨v_19, ev_19⟩ : ∃ z : Int32, x_7 + Int32.ofInt (1) = z := ⟨_, rfl⟩
          have hv_19 : v_19.toInt = x_7.toInt + (1) := by rw [← ev_19]; exact incE rfl (by decide) (by omega)
          refine lv_iinc (pc := 77) (v := v_19) (lv' := [(4, .int v_19), (3, .int x_8), (0, .ref M), (1, .int z_h), (2, .int z_w)]) E.1 E.2.1 dX12_doesNeeds_77 hl12 (k := 0) rfl ev_19 (by decide) rfl (fun ls hl20 => ?_)
          refine lv_goto (pc := 80) (tgt := 5) E.1 E.2.1 dX12_doesNeeds_80 (by decide) ?_
          exact ih_10 v_19 x_8 g_9 _ _ _ ⟨(by show 0 ≤ v_19.toInt; omega), (by show v_19.toInt ≤ (mi 44).toInt; omega), hi_9_2, hi_9_3, hi_9_4⟩ (by omega) hw17 (lv_sub hl20 [0, 1, 2, 3, 4] rfl)
        · skip
          have hc_18 := eqE (a := r_15.toInt) (b := z_h.toInt) rfl rfl c_18
          refine lv_aload_n (pc := 25) E.1 E.2.1 dX12_doesNeeds_25 rfl (lv_at hl12 2 rfl) ?_
          refine lv_iload (pc := 26) E.1 E.2.1 dX12_doesNeeds_26 (lv_at hl12 0 rfl) ?_
          refine cm_i (pc := 28) hw17 (rn_M (As := [.int x_7]) (rest := []) E hw17 (s_isOpen l D cI cJ _ M mr mi (va_up mf 1 g_9) mg x_7 (by show 0 ≤ x_7.toInt ∧ x_7.toInt ≤ 9; omega)) (gdV q_1875 q_1877 q_101 q_162 q_1878) hdV_X12_isOpen ⟨rfl, rfl⟩ ⟨(Nat.le_of_ble_eq_true rfl), (Nat.le_of_ble_eq_true rfl)⟩ ⟨(Nat.le_of_ble_eq_true rfl), (Nat.le_of_ble_eq_true rfl)⟩ 12 rfl rfl rfl rfl hl12.1 rfl (Nat.le_of_ble_eq_true rfl) dX12_doesNeeds_28) (fun r_22 u_21 H1 locs hp hw23 => ?_)
          generalize H1 = H at hw23 ⊢
          have hw24 : WD D A s.heap (MW cI cJ M mr mi (va_up mf 1 g_9) mg) H locs := hw23
          have hp_25 := hp
          have hp_25 : 0 ≤ r_22.toInt ∧ r_22.toInt ≤ 1 := hp_25
          refine lv_if_eq (pc := 31) (tgt := 77) E.1 E.2.1 dX12_doesNeeds_31 (by decide) (fun c_26 => ?_) (fun c_26 => ?_)
          · skip
            have hc_26 := eqE (a := r_22.toInt) (b := 0) rfl (by decide +kernel) c_26
            obtain ⟨v_27, ev_27⟩ : ∃ z : Int32, x_7 + Int32.ofInt (1) = z := ⟨_, rfl⟩
            have hv_27 : v_27.toInt = x_7.toInt + (1) := by rw [← ev_27]; exact incE rfl (by decide) (by omega)
            refine lv_iinc (pc := 77) (v := v_27) (lv' := [(4, .int v_27), (3, .int x_8), (0, .ref M), (1, .int z_h), (2, .int z_w)]) E.1 E.2.1 dX12_doesNeeds_77 hl12 (k := 0) rfl ev_27 (by decide) rfl (fun ls hl28 => ?_)
            refine lv_goto (pc := 80) (tgt := 5) E.1 E.2.1 dX12_doesNeeds_80 (by decide) ?_
            exact ih_10 v_27 x_8 g_9 _ _ _ ⟨(by show 0 ≤ v_27.toInt; omega), (by show v_27.toInt ≤ (mi 44).toInt; omega), hi_9_2, hi_9_3, hi_9_4⟩ (by omega) hw24 (lv_sub hl28 [0, 1, 2, 3, 4] rfl)
          · skip
            have hc_26 := neE (a := r_22.toInt) (b := 0) rfl (by decide +kernel) c_26
            refine lv_aload_n (pc := 34) E.1 E.2.1 dX12_doesNeeds_34 rfl (lv_at hl12 2 rfl) ?_
            refine lv_iload (pc := 35) E.1 E.2.1 dX12_doesNeeds_35 (lv_at hl12 0 rfl) ?_
            refine lv_iconst (pc := 37) (v := 0) E.1 E.2.1 dX12_doesNeeds_37 (by decide +kernel) ?_
            refine cm_i (pc := 38) hw24 (rn_M (As := [.int x_7, .int 0]) (rest := []) E hw24 (s_ofNeed l D cI cJ _ M mr mi (va_up mf 1 g_9) mg x_7 0 (by show 0 ≤ x_7.toInt ∧ x_7.toInt ≤ 9; omega) (by show 0 ≤ (0 : Int32).toInt ∧ (0 : Int32).toInt ≤ 4; have k_0 : (0 : Int32).toInt = 0 := (by decide +kernel); omega)) (gdV q_1871 q_1873 q_100 q_162 q_1874) hdV_X12_ofNeed ⟨rfl, rfl⟩ ⟨(Nat.le_of_ble_eq_true rfl), (Nat.le_of_ble_eq_true rfl)⟩ ⟨(Nat.le_of_ble_eq_true rfl), (Nat.le_of_ble_eq_true rfl)⟩ 12 rfl rfl rfl rfl hl12.1 rfl (Nat.le_of_ble_eq_true rfl) dX12_doesNeeds_38) (fun r_30 u_29 H1 locs hp hw31 => ?_)
            generalize H1 = H at hw31 ⊢
            have hw32 : WD D A s.heap (MW cI cJ M mr mi (va_up mf 1 g_9) mg) H locs := hw31
            refine lv_iconst (pc := 41) (v := 3) E.1 E.2.1 dX12_doesNeeds_41 (by decide +kernel) ?_
            refine lv_icmp_ne (pc := 42) (tgt := 52) E.1 E.2.1 dX12_doesNeeds_42 (by decide) (fun c_33 => ?_) (fun c_33 => ?_)
            · skip
              have hc_33 := neE (a := r_30.toInt) (b := 3) rfl (by decide +kernel) c_33
              refine lv_aload_n (pc := 52) E.1 E.2.1 dX12_doesNeeds_52 rfl (lv_at hl12 2 rfl) ?_
              refine x_get (pc := 53) (T := TX12) (N := 70) (ci := 12) (v := .ref (mr 1)) E hw32 inX12 0 1 q_1400 rfl rfl (by decide) rfl rfl dX12_doesNeeds_53 ?_
              refine lv_bipush (pc := 56) (v := 46) E.1 E.2.1 dX12_doesNeeds_56 (by decide +kernel) ?_
              refine lv_iload (pc := 58) E.1 E.2.1 dX12_doesNeeds_58 (lv_at hl12 0 rfl) ?_
              refine lv_iadd (pc := 60) E.1 E.2.1 dX12_doesNeeds_60 ?_
              refine lv_topi (fun v_34 ev_34 => ?_)
              have hv_34 : v_34.toInt = 46 + x_7.toInt := by rw [ev_34]; exact addE (by decide +kernel) rfl (by omega)
              refine lv_aload_n (pc := 61) E.1 E.2.1 dX12_doesNeeds_61 rfl (lv_at hl12 2 rfl) ?_
              refine x_get (pc := 62) (T := TX12) (N := 70) (ci := 12) (v := .ref (mr 1)) E hw32 inX12 0 1 q_1400 rfl rfl (by decide) rfl rfl dX12_doesNeeds_62 ?_
              refine lv_iconst (pc := 65) (v := 0) E.1 E.2.1 dX12_doesNeeds_65 (by decide +kernel) ?_
              refine x_iald (pc := 66) (f := g_9) E hw32 1 rfl (inbE (a := 0) (by decide +kernel) (by omega)) dX12_doesNeeds_66 ?_
              refine lv_topi (fun v_35 ev_35 => ?_)
              refine lv_iconst (pc := 67) (v := 1) E.1 E.2.1 dX12_doesNeeds_67 (by decide +kernel) ?_
              refine lv_iadd (pc := 68) E.1 E.2.1 dX12_doesNeeds_68 ?_
              refine lv_topi (fun v_36 ev_36 => ?_)
              refine x_iastG (pc := 69) (f := g_9) (wf := fun g => (MW cI cJ M mr mi (va_up mf 1 g) mg)) E hw32 1 rfl (inbE (a := v_34.toInt) rfl (by omega)) (fun _ => rfl) dX12_doesNeeds_69 (fun g_37 H locs eg_37 hw38 => ?_)
              have ht_39 : (g_37 2).toInt = (g_9 2).toInt := by rw [eg_37, pk_un (by have q9 := idxI (x := v_34) (by omega); omega)]
              have ht_40 : (g_37 3).toInt = (g_9 3).toInt := by rw [eg_37, pk_un (by have q9 := idxI (x := v_34) (by omega); omega)]
              have ht_41 : (g_37 5).toInt = (g_9 5).toInt := by rw [eg_37, pk_un (by have q9 := idxI (x := v_34) (by omega); omega)]
              refine lv_iload_n (pc := 70) E.1 E.2.1 dX12_doesNeeds_70 rfl (lv_at hl12 1 rfl) ?_
              refine lv_iconst (pc := 71) (v := 1) E.1 E.2.1 dX12_doesNeeds_71 (by decide +kernel) ?_
              refine lv_iload (pc := 72) E.1 E.2.1 dX12_doesNeeds_72 (lv_at hl12 0 rfl) ?_
              refine lv_ishl (pc := 74) E.1 E.2.1 dX12_doesNeeds_74 ?_
              refine lv_topi (fun v_42 ev_42 => ?_)
              refine lv_ior (pc := 75) E.1 E.2.1 dX12_doesNeeds_75 ?_
              refine lv_topi (fun v_43 ev_43 => ?_)
              refine lv_istore_n (pc := 76) (lv' := [(3, .int v_43), (4, .int x_7), (0, .ref M), (1, .int z_h), (2, .int z_w)]) E.1 E.2.1 dX12_doesNeeds_76 rfl hl12 (by decide) rfl (fun ls hl44 => ?_)
              obtain ⟨v_45, ev_45⟩ : ∃ z : Int32, x_7 + Int32.ofInt (1) = z := ⟨_, rfl⟩
              have hv_45 : v_45.toInt = x_7.toInt + (1) := by rw [← ev_45]; exact incE rfl (by decide) (by omega)
              refine lv_iinc (pc := 77) (v := v_45) (lv' := [(4, .int v_45), (3, .int v_43), (0, .ref M), (1, .int z_h), (2, .int z_w)]) E.1 E.2.1 dX12_doesNeeds_77 hl44 (k := 1) rfl ev_45 (by decide) rfl (fun ls hl46 => ?_)
              refine lv_goto (pc := 80) (tgt := 5) E.1 E.2.1 dX12_doesNeeds_80 (by decide) ?_
              exact ih_10 v_45 v_43 g_37 _ _ _ ⟨(by show 0 ≤ v_45.toInt; omega), (by show v_45.toInt ≤ (mi 44).toInt; omega), (by show (g_37 2).toInt = ((mf 1) 2).toInt; omega), (by show (g_37 3).toInt = ((mf 1) 3).toInt; omega), (by show (g_37 5).toInt = ((mf 1) 5).toInt; omega)⟩ (by omega) hw38 (lv_sub hl46 [0, 1, 2, 3, 4] rfl)
            · skip
              have hc_33 := eqE (a := r_30.toInt) (b := 3) rfl (by decide +kernel) c_33
              refine lv_iload_n (pc := 45) E.1 E.2.1 dX12_doesNeeds_45 rfl (lv_at hl12 4 rfl) ?_
              refine lv_if_ne (pc := 46) (tgt := 52) E.1 E.2.1 dX12_doesNeeds_46 (by decide) (fun c_47 => ?_) (fun c_47 => ?_)
              · skip
                have hc_47 := neE (a := z_w.toInt) (b := 0) rfl (by decide +kernel) c_47
                refine lv_aload_n (pc := 52) E.1 E.2.1 dX12_doesNeeds_52 rfl (lv_at hl12 2 rfl) ?_
                refine x_get (pc := 53) (T := TX12) (N := 70) (ci := 12) (v := .ref (mr 1)) E hw32 inX12 0 1 q_1400 rfl rfl (by decide) rfl rfl dX12_doesNeeds_53 ?_
                refine lv_bipush (pc := 56) (v := 46) E.1 E.2.1 dX12_doesNeeds_56 (by decide +kernel) ?_
                refine lv_iload (pc := 58) E.1 E.2.1 dX12_doesNeeds_58 (lv_at hl12 0 rfl) ?_
                refine lv_iadd (pc := 60) E.1 E.2.1 dX12_doesNeeds_60 ?_
                refine lv_topi (fun v_48 ev_48 => ?_)
                have hv_48 : v_48.toInt = 46 + x_7.toInt := by rw [ev_48]; exact addE (by decide +kernel) rfl (by omega)
                refine lv_aload_n (pc := 61) E.1 E.2.1 dX12_doesNeeds_61 rfl (lv_at hl12 2 rfl) ?_
                refine x_get (pc := 62) (T := TX12) (N := 70) (ci := 12) (v := .ref (mr 1)) E hw32 inX12 0 1 q_1400 rfl rfl (by decide) rfl rfl dX12_doesNeeds_62 ?_
                refine lv_iconst (pc := 65) (v := 0) E.1 E.2.1 dX12_doesNeeds_65 (by decide +kernel) ?_
                refine x_iald (pc := 66) (f := g_9) E hw32 1 rfl (inbE (a := 0) (by decide +kernel) (by omega)) dX12_doesNeeds_66 ?_
                refine lv_topi (fun v_49 ev_49 => ?_)
                refine lv_iconst (pc := 67) (v := 1) E.1 E.2.1 dX12_doesNeeds_67 (by decide +kernel) ?_
                refine lv_iadd (pc := 68) E.1 E.2.1 dX12_doesNeeds_68 ?_
                refine lv_topi (fun v_50 ev_50 => ?_)
                refine x_iastG (pc := 69) (f := g_9) (wf := fun g => (MW cI cJ M mr mi (va_up mf 1 g) mg)) E hw32 1 rfl (inbE (a := v_48.toInt) rfl (by omega)) (fun _ => rfl) dX12_doesNeeds_69 (fun g_51 H locs eg_51 hw52 => ?_)
                have ht_53 : (g_51 2).toInt = (g_9 2).toInt := by rw [eg_51, pk_un (by have q9 := idxI (x := v_48) (by omega); omega)]
                have ht_54 : (g_51 3).toInt = (g_9 3).toInt := by rw [eg_51, pk_un (by have q9 := idxI (x := v_48) (by omega); omega)]
                have ht_55 : (g_51 5).toInt = (g_9 5).toInt := by rw [eg_51, pk_un (by have q9 := idxI (x := v_48) (by omega); omega)]
                refine lv_iload_n (pc := 70) E.1 E.2.1 dX12_doesNeeds_70 rfl (lv_at hl12 1 rfl) ?_
                refine lv_iconst (pc := 71) (v := 1) E.1 E.2.1 dX12_doesNeeds_71 (by decide +kernel) ?_
                refine lv_iload (pc := 72) E.1 E.2.1 dX12_doesNeeds_72 (lv_at hl12 0 rfl) ?_
                refine lv_ishl (pc := 74) E.1 E.2.1 dX12_doesNeeds_74 ?_
                refine lv_topi (fun v_56 ev_56 => ?_)
                refine lv_ior (pc := 75) E.1 E.2.1 dX12_doesNeeds_75 ?_
                refine lv_topi (fun v_57 ev_57 => ?_)
                refine lv_istore_n (pc := 76) (lv' := [(3, .int v_57), (4, .int x_7), (0, .ref M), (1, .int z_h), (2, .int z_w)]) E.1 E.2.1 dX12_doesNeeds_76 rfl hl12 (by decide) rfl (fun ls hl58 => ?_)
                obtain ⟨v_59, ev_59⟩ : ∃ z : Int32, x_7 + Int32.ofInt (1) = z := ⟨_, rfl⟩
                have hv_59 : v_59.toInt = x_7.toInt + (1) := by rw [← ev_59]; exact incE rfl (by decide) (by omega)
                refine lv_iinc (pc := 77) (v := v_59) (lv' := [(4, .int v_59), (3, .int v_57), (0, .ref M), (1, .int z_h), (2, .int z_w)]) E.1 E.2.1 dX12_doesNeeds_77 hl58 (k := 1) rfl ev_59 (by decide) rfl (fun ls hl60 => ?_)
                refine lv_goto (pc := 80) (tgt := 5) E.1 E.2.1 dX12_doesNeeds_80 (by decide) ?_
                exact ih_10 v_59 v_57 g_51 _ _ _ ⟨(by show 0 ≤ v_59.toInt; omega), (by show v_59.toInt ≤ (mi 44).toInt; omega), (by show (g_51 2).toInt = ((mf 1) 2).toInt; omega), (by show (g_51 3).toInt = ((mf 1) 3).toInt; omega), (by show (g_51 5).toInt = ((mf 1) 5).toInt; omega)⟩ (by omega) hw52 (lv_sub hl60 [0, 1, 2, 3, 4] rfl)
              · skip
                have hc_47 := eqE (a := z_w.toInt) (b := 0) rfl (by decide +kernel) c_47
                refine lv_goto (pc := 49) (tgt := 77) E.1 E.2.1 dX12_doesNeeds_49 (by decide) ?_
                obtain ⟨v_61, ev_61⟩ : ∃ z : Int32, x_7 + Int32.ofInt (1) = z := ⟨_, rfl⟩
                have hv_61 : v_61.toInt = x_7.toInt + (1) := by rw [← ev_61]; exact incE rfl (by decide) (by omega)
                refine lv_iinc (pc := 77) (v := v_61) (lv' := [(4, .int v_61), (3, .int x_8), (0, .ref M), (1, .int z_h), (2, .int z_w)]) E.1 E.2.1 dX12_doesNeeds_77 hl12 (k := 0) rfl ev_61 (by decide) rfl (fun ls hl62 => ?_)
                refine lv_goto (pc := 80) (tgt := 5) E.1 E.2.1 dX12_doesNeeds_80 (by decide) ?_
                exact ih_10 v_61 x_8 g_9 _ _ _ ⟨(by show 0 ≤ v_61.toInt; omega), (by show v_61.toInt ≤ (mi 44).toInt; omega), hi_9_2, hi_9_3, hi_9_4⟩ (by omega) hw32 (lv_sub hl62 [0, 1, 2, 3, 4] rfl)
  exact loop_6 (Int.toNat ((mi 44).toInt - 0) + 1) 0 0 (mf 1) _ _ _ ⟨(by show 0 ≤ (0 : Int32).toInt; have k_0 : (0 : Int32).toInt = 0 := (by decide +kernel); omega), (by show (0 : Int32).toInt ≤ (mi 44).toInt; have k_0 : (0 : Int32).toInt = 0 := (by decide +kernel); omega), rfl, rfl, rfl⟩ (by have k_0 : (0 : Int32).toInt = 0 := (by decide +kernel); have k_1 : (0 : Int32).toInt = 0 := (by decide +kernel); omega) hw1 (lv_sub hl5 [0, 1, 2, 3, 4] rfl)

set_option maxHeartbeats 4000000 in
set_option maxRecDepth 100000 in
theorem s_notes (l : Launch) (D : va_G) (cI cJ : ClassId) (sz M : Nat) (mr : Nat → Nat) (mi : Nat → Int32) (mf : Nat → Nat → Int32) (mg : Nat → Nat → Int64) (z_h : Int32) (z_lit : Int32) (z_burnt : Int32) (z_done : Int32) (h0 : 0 ≤ ((mf 1) 2).toInt ∧ ((mf 1) 2).toInt ≤ 150) : Met l yX12_notes (Cond.code yX12_notes cX12_notes 6 none :: GW) ({ frames := 1, cells := 0, slots := 0, locals := 40 } : Room) (va_Pc [.ref M, .int z_h, .int z_lit, .int z_burnt, .int z_done] (PW D cI cJ sz (MW cI cJ M mr mi mf mg) xT)) (va_Qv (fun (u : (Nat → Int32) × (Nat → Int32)) => (0 ≤ (u.1 2).toInt ∧ (u.1 2).toInt ≤ 150) ∧ ((u.1 3).toInt = ((mf 1) 3).toInt) ∧ ((u.1 5).toInt = ((mf 1) 5).toInt)) (fun u => QW D cI cJ (va_A (MW cI cJ M mr mi mf mg) sz) ((fun (u : (Nat → Int32) × (Nat → Int32)) => (MW cI cJ M mr mi (va_up (va_up mf 1 u.1) 16 u.2) mg)) u)) (va_A (MW cI cJ M mr mi mf mg) sz)) 0 0 (va_A (MW cI cJ M mr mi mf mg) sz) := by
  refine mk_met (y := yX12_notes) (bytes := cX12_notes) (maxL := 6) (avs := [.ref M, .int z_h, .int z_lit, .int z_burnt, .int z_done]) (WS := (MW cI cJ M mr mi mf mg)) (Qf := fun A => va_Qv (fun (u : (Nat → Int32) × (Nat → Int32)) => (0 ≤ (u.1 2).toInt ∧ (u.1 2).toInt ≤ 150) ∧ ((u.1 3).toInt = ((mf 1) 3).toInt) ∧ ((u.1 5).toInt = ((mf 1) 5).toInt)) (fun u => QW D cI cJ A ((fun (u : (Nat → Int32) × (Nat → Int32)) => (MW cI cJ M mr mi (va_up (va_up mf 1 u.1) 16 u.2) mg)) u)) A) (by decide) (Nat.le_of_ble_eq_true rfl) ?_
  intro p e s m below meth c A ls E hr hlk hnm hX hw1 hl2
  have hl3 : lv_has ls 6 [(0, .ref M), (1, .int z_h), (2, .int z_lit), (3, .int z_burnt), (4, .int z_done)] := hl2
  refine lv_aload_n (pc := 0) E.1 E.2.1 dX12_notes_0 rfl (lv_at hl3 0 rfl) ?_
  refine x_get (pc := 1) (T := TX12) (N := 70) (ci := 12) (v := .int (mi 5)) E hw1 inX12 0 5 q_1404 rfl rfl (by decide) rfl rfl dX12_notes_1 ?_
  refine lv_if_ne (pc := 4) (tgt := 19) E.1 E.2.1 dX12_notes_4 (by decide) (fun c_4 => ?_) (fun c_4 => ?_)
  · skip
    have hc_4 := neE (a := (mi 5).toInt) (b := 0) rfl (by decide +kernel) c_4
    exact em_v (w1 := (fun (u : (Nat → Int32) × (Nat → Int32)) => (MW cI cJ M mr mi (va_up (va_up mf 1 u.1) 16 u.2) mg))) E hr hlk ((mf 1), (mf 16)) hw1 ⟨h0, rfl, rfl⟩ (Nat.le_of_ble_eq_true rfl) (Nat.le_of_ble_eq_true rfl) dX12_notes_19
  · skip
    have hc_4 := eqE (a := (mi 5).toInt) (b := 0) rfl (by decide +kernel) c_4
    refine lv_aload_n (pc := 7) E.1 E.2.1 dX12_notes_7 rfl (lv_at hl3 0 rfl) ?_
    refine x_get (pc := 8) (T := TX12) (N := 70) (ci := 12) (v := .ref (mr 1)) E hw1 inX12 0 1 q_1400 rfl rfl (by decide) rfl rfl dX12_notes_8 ?_
    refine lv_iconst (pc := 11) (v := 2) E.1 E.2.1 dX12_notes_11 (by decide +kernel) ?_
    refine x_iald (pc := 12) (f := (mf 1)) E hw1 1 rfl (inbE (a := 2) (by decide +kernel) (by omega)) dX12_notes_12 ?_
    refine lv_topi (fun v_5 ev_5 => ?_)
    have hv_5 : v_5.toInt = ((mf 1) 2).toInt := by rw [ev_5]; rfl
    refine lv_sipush (pc := 13) (v := 150) E.1 E.2.1 dX12_notes_13 (by decide +kernel) ?_
    refine lv_icmp_ne (pc := 16) (tgt := 20) E.1 E.2.1 dX12_notes_16 (by decide) (fun c_6 => ?_) (fun c_6 => ?_)
    · skip
      have hc_6 := neE (a := v_5.toInt) (b := 150) rfl (by decide +kernel) c_6
      refine lv_bipush (pc := 20) (v := 6) E.1 E.2.1 dX12_notes_20 (by decide +kernel) ?_
      refine lv_aload_n (pc := 22) E.1 E.2.1 dX12_notes_22 rfl (lv_at hl3 0 rfl) ?_
      refine x_get (pc := 23) (T := TX12) (N := 70) (ci := 12) (v := .ref (mr 1)) E hw1 inX12 0 1 q_1400 rfl rfl (by decide) rfl rfl dX12_notes_23 ?_
      refine lv_iconst (pc := 26) (v := 2) E.1 E.2.1 dX12_notes_26 (by decide +kernel) ?_
      refine x_iald (pc := 27) (f := (mf 1)) E hw1 1 rfl (inbE (a := 2) (by decide +kernel) (by omega)) dX12_notes_27 ?_
      refine lv_topi (fun v_7 ev_7 => ?_)
      have hv_7 : v_7.toInt = ((mf 1) 2).toInt := by rw [ev_7]; rfl
      refine lv_imul (pc := 28) E.1 E.2.1 dX12_notes_28 ?_
      refine lv_topi (fun v_8 ev_8 => ?_)
      have hv_8 : v_8.toInt = 6 * v_7.toInt := by rw [ev_8]; exact mulE (by decide +kernel) rfl (by omega)
      refine lv_istore (pc := 29) (lv' := [(5, .int v_8), (0, .ref M), (1, .int z_h), (2, .int z_lit), (3, .int z_burnt), (4, .int z_done)]) E.1 E.2.1 dX12_notes_29 hl3 (by decide) rfl (fun ls hl9 => ?_)
      refine lv_aload_n (pc := 31) E.1 E.2.1 dX12_notes_31 rfl (lv_at hl9 1 rfl) ?_
      refine x_get (pc := 32) (T := TX12) (N := 70) (ci := 12) (v := .ref (mr 16)) E hw1 inX12 0 16 q_1415 rfl rfl (by decide) rfl rfl dX12_notes_32 ?_
      refine lv_iload (pc := 35) E.1 E.2.1 dX12_notes_35 (lv_at hl9 0 rfl) ?_
      refine lv_aload_n (pc := 37) E.1 E.2.1 dX12_notes_37 rfl (lv_at hl9 1 rfl) ?_
      refine x_get (pc := 38) (T := TX12) (N := 70) (ci := 12) (v := .ref (mr 1)) E hw1 inX12 0 1 q_1400 rfl rfl (by decide) rfl rfl dX12_notes_38 ?_
      refine lv_iconst (pc := 41) (v := 0) E.1 E.2.1 dX12_notes_41 (by decide +kernel) ?_
      refine x_iald (pc := 42) (f := (mf 1)) E hw1 1 rfl (inbE (a := 0) (by decide +kernel) (by omega)) dX12_notes_42 ?_
      refine lv_topi (fun v_10 ev_10 => ?_)
      refine x_iastG (pc := 43) (f := (mf 16)) (wf := fun g => (MW cI cJ M mr mi (va_up mf 16 g) mg)) E hw1 9 rfl (inbE (a := v_8.toInt) rfl (by omega)) (fun _ => rfl) dX12_notes_43 (fun g_11 H locs eg_11 hw12 => ?_)
      refine lv_aload_n (pc := 44) E.1 E.2.1 dX12_notes_44 rfl (lv_at hl9 1 rfl) ?_
      refine x_get (pc := 45) (T := TX12) (N := 70) (ci := 12) (v := .ref (mr 16)) E hw12 inX12 0 16 q_1415 rfl rfl (by decide) rfl rfl dX12_notes_45 ?_
      refine lv_iload (pc := 48) E.1 E.2.1 dX12_notes_48 (lv_at hl9 0 rfl) ?_
      refine lv_iconst (pc := 50) (v := 1) E.1 E.2.1 dX12_notes_50 (by decide +kernel) ?_
      refine lv_iadd (pc := 51) E.1 E.2.1 dX12_notes_51 ?_
      refine lv_topi (fun v_13 ev_13 => ?_)
      have hv_13 : v_13.toInt = v_8.toInt + 1 := by rw [ev_13]; exact addE rfl (by decide +kernel) (by omega)
      refine lv_iload_n (pc := 52) E.1 E.2.1 dX12_notes_52 rfl (lv_at hl9 2 rfl) ?_
      refine x_iastG (pc := 53) (f := g_11) (wf := fun g => (MW cI cJ M mr mi (va_up mf 16 g) mg)) E hw12 9 rfl (inbE (a := v_13.toInt) rfl (by omega)) (fun _ => rfl) dX12_notes_53 (fun g_14 H locs eg_14 hw15 => ?_)
      refine lv_aload_n (pc := 54) E.1 E.2.1 dX12_notes_54 rfl (lv_at hl9 1 rfl) ?_
      refine x_get (pc := 55) (T := TX12) (N := 70) (ci := 12) (v := .ref (mr 16)) E hw15 inX12 0 16 q_1415 rfl rfl (by decide) rfl rfl dX12_notes_55 ?_
      refine lv_iload (pc := 58) E.1 E.2.1 dX12_notes_58 (lv_at hl9 0 rfl) ?_
      refine lv_iconst (pc := 60) (v := 2) E.1 E.2.1 dX12_notes_60 (by decide +kernel) ?_
      refine lv_iadd (pc := 61) E.1 E.2.1 dX12_notes_61 ?_
      refine lv_topi (fun v_16 ev_16 => ?_)
      have hv_16 : v_16.toInt = v_8.toInt + 2 := by rw [ev_16]; exact addE rfl (by decide +kernel) (by omega)
      refine lv_iload_n (pc := 62) E.1 E.2.1 dX12_notes_62 rfl (lv_at hl9 3 rfl) ?_
      refine lv_if_eq (pc := 63) (tgt := 70) E.1 E.2.1 dX12_notes_63 (by decide) (fun c_17 => ?_) (fun c_17 => ?_)
      · skip
        have hc_17 := eqE (a := z_lit.toInt) (b := 0) rfl (by decide +kernel) c_17
        refine lv_iconst (pc := 70) (v := 0) E.1 E.2.1 dX12_notes_70 (by decide +kernel) ?_
        refine x_iastG (pc := 71) (f := g_14) (wf := fun g => (MW cI cJ M mr mi (va_up mf 16 g) mg)) E hw15 9 rfl (inbE (a := v_16.toInt) rfl (by omega)) (fun _ => rfl) dX12_notes_71 (fun g_18 H locs eg_18 hw19 => ?_)
        refine lv_aload_n (pc := 72) E.1 E.2.1 dX12_notes_72 rfl (lv_at hl9 1 rfl) ?_
        refine x_get (pc := 73) (T := TX12) (N := 70) (ci := 12) (v := .ref (mr 16)) E hw19 inX12 0 16 q_1415 rfl rfl (by decide) rfl rfl dX12_notes_73 ?_
        refine lv_iload (pc := 76) E.1 E.2.1 dX12_notes_76 (lv_at hl9 0 rfl) ?_
        refine lv_iconst (pc := 78) (v := 3) E.1 E.2.1 dX12_notes_78 (by decide +kernel) ?_
        refine lv_iadd (pc := 79) E.1 E.2.1 dX12_notes_79 ?_
        refine lv_topi (fun v_20 ev_20 => ?_)
        have hv_20 : v_20.toInt = v_8.toInt + 3 := by rw [ev_20]; exact addE rfl (by decide +kernel) (by omega)
        refine lv_iload_n (pc := 80) E.1 E.2.1 dX12_notes_80 rfl (lv_at hl9 4 rfl) ?_
        refine x_iastG (pc := 81) (f := g_18) (wf := fun g => (MW cI cJ M mr mi (va_up mf 16 g) mg)) E hw19 9 rfl (inbE (a := v_20.toInt) rfl (by omega)) (fun _ => rfl) dX12_notes_81 (fun g_21 H locs eg_21 hw22 => ?_)
        refine lv_aload_n (pc := 82) E.1 E.2.1 dX12_notes_82 rfl (lv_at hl9 1 rfl) ?_
        refine x_get (pc := 83) (T := TX12) (N := 70) (ci := 12) (v := .ref (mr 16)) E hw22 inX12 0 16 q_1415 rfl rfl (by decide) rfl rfl dX12_notes_83 ?_
        refine lv_iload (pc := 86) E.1 E.2.1 dX12_notes_86 (lv_at hl9 0 rfl) ?_
        refine lv_iconst (pc := 88) (v := 4) E.1 E.2.1 dX12_notes_88 (by decide +kernel) ?_
        refine lv_iadd (pc := 89) E.1 E.2.1 dX12_notes_89 ?_
        refine lv_topi (fun v_23 ev_23 => ?_)
        have hv_23 : v_23.toInt = v_8.toInt + 4 := by rw [ev_23]; exact addE rfl (by decide +kernel) (by omega)
        refine lv_aload_n (pc := 90) E.1 E.2.1 dX12_notes_90 rfl (lv_at hl9 1 rfl) ?_
        refine x_get (pc := 91) (T := TX12) (N := 70) (ci := 12) (v := .ref (mr 1)) E hw22 inX12 0 1 q_1400 rfl rfl (by decide) rfl rfl dX12_notes_91 ?_
        refine lv_iconst (pc := 94) (v := 4) E.1 E.2.1 dX12_notes_94 (by decide +kernel) ?_
        refine x_iald (pc := 95) (f := (mf 1)) E hw22 1 rfl (inbE (a := 4) (by decide +kernel) (by omega)) dX12_notes_95 ?_
        refine lv_topi (fun v_24 ev_24 => ?_)
        refine x_iastG (pc := 96) (f := g_21) (wf := fun g => (MW cI cJ M mr mi (va_up mf 16 g) mg)) E hw22 9 rfl (inbE (a := v_23.toInt) rfl (by omega)) (fun _ => rfl) dX12_notes_96 (fun g_25 H locs eg_25 hw26 => ?_)
        refine lv_aload_n (pc := 97) E.1 E.2.1 dX12_notes_97 rfl (lv_at hl9 1 rfl) ?_
        refine x_get (pc := 98) (T := TX12) (N := 70) (ci := 12) (v := .ref (mr 16)) E hw26 inX12 0 16 q_1415 rfl rfl (by decide) rfl rfl dX12_notes_98 ?_
        refine lv_iload (pc := 101) E.1 E.2.1 dX12_notes_101 (lv_at hl9 0 rfl) ?_
        refine lv_iconst (pc := 103) (v := 5) E.1 E.2.1 dX12_notes_103 (by decide +kernel) ?_
        refine lv_iadd (pc := 104) E.1 E.2.1 dX12_notes_104 ?_
        refine lv_topi (fun v_27 ev_27 => ?_)
        have hv_27 : v_27.toInt = v_8.toInt + 5 := by rw [ev_27]; exact addE rfl (by decide +kernel) (by omega)
        refine lv_iload (pc := 105) E.1 E.2.1 dX12_notes_105 (lv_at hl9 5 rfl) ?_
        refine x_iastG (pc := 107) (f := g_25) (wf := fun g => (MW cI cJ M mr mi (va_up mf 16 g) mg)) E hw26 9 rfl (inbE (a := v_27.toInt) rfl (by omega)) (fun _ => rfl) dX12_notes_107 (fun g_28 H locs eg_28 hw29 => ?_)
        refine lv_aload_n (pc := 108) E.1 E.2.1 dX12_notes_108 rfl (lv_at hl9 1 rfl) ?_
        refine x_get (pc := 109) (T := TX12) (N := 70) (ci := 12) (v := .ref (mr 1)) E hw29 inX12 0 1 q_1400 rfl rfl (by decide) rfl rfl dX12_notes_109 ?_
        refine lv_iconst (pc := 112) (v := 2) E.1 E.2.1 dX12_notes_112 (by decide +kernel) ?_
        refine lv_aload_n (pc := 113) E.1 E.2.1 dX12_notes_113 rfl (lv_at hl9 1 rfl) ?_
        refine x_get (pc := 114) (T := TX12) (N := 70) (ci := 12) (v := .ref (mr 1)) E hw29 inX12 0 1 q_1400 rfl rfl (by decide) rfl rfl dX12_notes_114 ?_
        refine lv_iconst (pc := 117) (v := 2) E.1 E.2.1 dX12_notes_117 (by decide +kernel) ?_
        refine x_iald (pc := 118) (f := (mf 1)) E hw29 1 rfl (inbE (a := 2) (by decide +kernel) (by omega)) dX12_notes_118 ?_
        refine lv_topi (fun v_30 ev_30 => ?_)
        have hv_30 : v_30.toInt = ((mf 1) 2).toInt := by rw [ev_30]; rfl
        refine lv_iconst (pc := 119) (v := 1) E.1 E.2.1 dX12_notes_119 (by decide +kernel) ?_
        refine lv_iadd (pc := 120) E.1 E.2.1 dX12_notes_120 ?_
        refine lv_topi (fun v_31 ev_31 => ?_)
        have hv_31 : v_31.toInt = v_30.toInt + 1 := by rw [ev_31]; exact addE rfl (by decide +kernel) (by omega)
        refine x_iastG (pc := 121) (f := (mf 1)) (wf := fun g => (MW cI cJ M mr mi (va_up (va_up mf 1 g) 16 g_28) mg)) E hw29 1 rfl (inbE (a := 2) (by decide +kernel) (by omega)) (fun _ => rfl) dX12_notes_121 (fun g_32 H locs eg_32 hw33 => ?_)
        have ht_34 : (g_32 2).toInt = (v_31 : Int32).toInt := by rw [eg_32]; rfl
        have ht_35 : (g_32 3).toInt = ((mf 1) 3).toInt := by rw [eg_32]; rfl
        have ht_36 : (g_32 5).toInt = ((mf 1) 5).toInt := by rw [eg_32]; rfl
        exact em_v (w1 := (fun (u : (Nat → Int32) × (Nat → Int32)) => (MW cI cJ M mr mi (va_up (va_up mf 1 u.1) 16 u.2) mg))) E hr hlk (g_32, g_28) hw33 ⟨(by show 0 ≤ (g_32 2).toInt ∧ (g_32 2).toInt ≤ 150; omega), (by show (g_32 3).toInt = ((mf 1) 3).toInt; omega), (by show (g_32 5).toInt = ((mf 1) 5).toInt; omega)⟩ (Nat.le_of_ble_eq_true rfl) (Nat.le_of_ble_eq_true rfl) dX12_notes_122
      · skip
        have hc_17 := neE (a := z_lit.toInt) (b := 0) rfl (by decide +kernel) c_17
        refine lv_iconst (pc := 66) (v := 1) E.1 E.2.1 dX12_notes_66 (by decide +kernel) ?_
        refine lv_goto (pc := 67) (tgt := 71) E.1 E.2.1 dX12_notes_67 (by decide) ?_
        refine x_iastG (pc := 71) (f := g_14) (wf := fun g => (MW cI cJ M mr mi (va_up mf 16 g) mg)) E hw15 9 rfl (inbE (a := v_16.toInt) rfl (by omega)) (fun _ => rfl) dX12_notes_71 (fun g_37 H locs eg_37 hw38 => ?_)
        refine lv_aload_n (pc := 72) E.1 E.2.1 dX12_notes_72 rfl (lv_at hl9 1 rfl) ?_
        refine x_get (pc := 73) (T := TX12) (N := 70) (ci := 12) (v := .ref (mr 16)) E hw38 inX12 0 16 q_1415 rfl rfl (by decide) rfl rfl dX12_notes_73 ?_
        refine lv_iload (pc := 76) E.1 E.2.1 dX12_notes_76 (lv_at hl9 0 rfl) ?_
        refine lv_iconst (pc := 78) (v := 3) E.1 E.2.1 dX12_notes_78 (by decide +kernel) ?_
        refine lv_iadd (pc := 79) E.1 E.2.1 dX12_notes_79 ?_
        refine lv_topi (fun v_39 ev_39 => ?_)
        have hv_39 : v_39.toInt = v_8.toInt + 3 := by rw [ev_39]; exact addE rfl (by decide +kernel) (by omega)
        refine lv_iload_n (pc := 80) E.1 E.2.1 dX12_notes_80 rfl (lv_at hl9 4 rfl) ?_
        refine x_iastG (pc := 81) (f := g_37) (wf := fun g => (MW cI cJ M mr mi (va_up mf 16 g) mg)) E hw38 9 rfl (inbE (a := v_39.toInt) rfl (by omega)) (fun _ => rfl) dX12_notes_81 (fun g_40 H locs eg_40 hw41 => ?_)
        refine lv_aload_n (pc := 82) E.1 E.2.1 dX12_notes_82 rfl (lv_at hl9 1 rfl) ?_
        refine x_get (pc := 83) (T := TX12) (N := 70) (ci := 12) (v := .ref (mr 16)) E hw41 inX12 0 16 q_1415 rfl rfl (by decide) rfl rfl dX12_notes_83 ?_
        refine lv_iload (pc := 86) E.1 E.2.1 dX12_notes_86 (lv_at hl9 0 rfl) ?_
        refine lv_iconst (pc := 88) (v := 4) E.1 E.2.1 dX12_notes_88 (by decide +kernel) ?_
        refine lv_iadd (pc := 89) E.1 E.2.1 dX12_notes_89 ?_
        refine lv_topi (fun v_42 ev_42 => ?_)
        have hv_42 : v_42.toInt = v_8.toInt + 4 := by rw [ev_42]; exact addE rfl (by decide +kernel) (by omega)
        refine lv_aload_n (pc := 90) E.1 E.2.1 dX12_notes_90 rfl (lv_at hl9 1 rfl) ?_
        refine x_get (pc := 91) (T := TX12) (N := 70) (ci := 12) (v := .ref (mr 1)) E hw41 inX12 0 1 q_1400 rfl rfl (by decide) rfl rfl dX12_notes_91 ?_
        refine lv_iconst (pc := 94) (v := 4) E.1 E.2.1 dX12_notes_94 (by decide +kernel) ?_
        refine x_iald (pc := 95) (f := (mf 1)) E hw41 1 rfl (inbE (a := 4) (by decide +kernel) (by omega)) dX12_notes_95 ?_
        refine lv_topi (fun v_43 ev_43 => ?_)
        refine x_iastG (pc := 96) (f := g_40) (wf := fun g => (MW cI cJ M mr mi (va_up mf 16 g) mg)) E hw41 9 rfl (inbE (a := v_42.toInt) rfl (by omega)) (fun _ => rfl) dX12_notes_96 (fun g_44 H locs eg_44 hw45 => ?_)
        refine lv_aload_n (pc := 97) E.1 E.2.1 dX12_notes_97 rfl (lv_at hl9 1 rfl) ?_
        refine x_get (pc := 98) (T := TX12) (N := 70) (ci := 12) (v := .ref (mr 16)) E hw45 inX12 0 16 q_1415 rfl rfl (by decide) rfl rfl dX12_notes_98 ?_
        refine lv_iload (pc := 101) E.1 E.2.1 dX12_notes_101 (lv_at hl9 0 rfl) ?_
        refine lv_iconst (pc := 103) (v := 5) E.1 E.2.1 dX12_notes_103 (by decide +kernel) ?_
        refine lv_iadd (pc := 104) E.1 E.2.1 dX12_notes_104 ?_
        refine lv_topi (fun v_46 ev_46 => ?_)
        have hv_46 : v_46.toInt = v_8.toInt + 5 := by rw [ev_46]; exact addE rfl (by decide +kernel) (by omega)
        refine lv_iload (pc := 105) E.1 E.2.1 dX12_notes_105 (lv_at hl9 5 rfl) ?_
        refine x_iastG (pc := 107) (f := g_44) (wf := fun g => (MW cI cJ M mr mi (va_up mf 16 g) mg)) E hw45 9 rfl (inbE (a := v_46.toInt) rfl (by omega)) (fun _ => rfl) dX12_notes_107 (fun g_47 H locs eg_47 hw48 => ?_)
        refine lv_aload_n (pc := 108) E.1 E.2.1 dX12_notes_108 rfl (lv_at hl9 1 rfl) ?_
        refine x_get (pc := 109) (T := TX12) (N := 70) (ci := 12) (v := .ref (mr 1)) E hw48 inX12 0 1 q_1400 rfl rfl (by decide) rfl rfl dX12_notes_109 ?_
        refine lv_iconst (pc := 112) (v := 2) E.1 E.2.1 dX12_notes_112 (by decide +kernel) ?_
        refine lv_aload_n (pc := 113) E.1 E.2.1 dX12_notes_113 rfl (lv_at hl9 1 rfl) ?_
        refine x_get (pc := 114) (T := TX12) (N := 70) (ci := 12) (v := .ref (mr 1)) E hw48 inX12 0 1 q_1400 rfl rfl (by decide) rfl rfl dX12_notes_114 ?_
        refine lv_iconst (pc := 117) (v := 2) E.1 E.2.1 dX12_notes_117 (by decide +kernel) ?_
        refine x_iald (pc := 118) (f := (mf 1)) E hw48 1 rfl (inbE (a := 2) (by decide +kernel) (by omega)) dX12_notes_118 ?_
        refine lv_topi (fun v_49 ev_49 => ?_)
        have hv_49 : v_49.toInt = ((mf 1) 2).toInt := by rw [ev_49]; rfl
        refine lv_iconst (pc := 119) (v := 1) E.1 E.2.1 dX12_notes_119 (by decide +kernel) ?_
        refine lv_iadd (pc := 120) E.1 E.2.1 dX12_notes_120 ?_
        refine lv_topi (fun v_50 ev_50 => ?_)
        have hv_50 : v_50.toInt = v_49.toInt + 1 := by rw [ev_50]; exact addE rfl (by decide +kernel) (by omega)
        refine x_iastG (pc := 121) (f := (mf 1)) (wf := fun g => (MW cI cJ M mr mi (va_up (va_up mf 1 g) 16 g_47) mg)) E hw48 1 rfl (inbE (a := 2) (by decide +kernel) (by omega)) (fun _ => rfl) dX12_notes_121 (fun g_51 H locs eg_51 hw52 => ?_)
        have ht_53 : (g_51 2).toInt = (v_50 : Int32).toInt := by rw [eg_51]; rfl
        have ht_54 : (g_51 3).toInt = ((mf 1) 3).toInt := by rw [eg_51]; rfl
        have ht_55 : (g_51 5).toInt = ((mf 1) 5).toInt := by rw [eg_51]; rfl
        exact em_v (w1 := (fun (u : (Nat → Int32) × (Nat → Int32)) => (MW cI cJ M mr mi (va_up (va_up mf 1 u.1) 16 u.2) mg))) E hr hlk (g_51, g_47) hw52 ⟨(by show 0 ≤ (g_51 2).toInt ∧ (g_51 2).toInt ≤ 150; omega), (by show (g_51 3).toInt = ((mf 1) 3).toInt; omega), (by show (g_51 5).toInt = ((mf 1) 5).toInt; omega)⟩ (Nat.le_of_ble_eq_true rfl) (Nat.le_of_ble_eq_true rfl) dX12_notes_122
    · skip
      have hc_6 := eqE (a := v_5.toInt) (b := 150) rfl (by decide +kernel) c_6
      exact em_v (w1 := (fun (u : (Nat → Int32) × (Nat → Int32)) => (MW cI cJ M mr mi (va_up (va_up mf 1 u.1) 16 u.2) mg))) E hr hlk ((mf 1), (mf 16)) hw1 ⟨h0, rfl, rfl⟩ (Nat.le_of_ble_eq_true rfl) (Nat.le_of_ble_eq_true rfl) dX12_notes_19

set_option maxHeartbeats 4000000 in
set_option maxRecDepth 100000 in
theorem s_snows (l : Launch) (D : va_G) (cI cJ : ClassId) (sz M : Nat) (mr : Nat → Nat) (mi : Nat → Int32) (mf : Nat → Nat → Int32) (mg : Nat → Nat → Int64)   : Met l yX12_snows (Cond.code yX12_snows cX12_snows 1 none :: GW) ({ frames := 2, cells := 0, slots := 0, locals := 63 } : Room) (va_Pc [.ref M] (PW D cI cJ sz (MW cI cJ M mr mi mf mg) xT)) (va_Qv (fun (u : (Nat → Int32)) => ((u 2).toInt = ((mf 1) 2).toInt) ∧ ((u 3).toInt = ((mf 1) 3).toInt) ∧ ((u 5).toInt = ((mf 1) 5).toInt)) (fun u => QW D cI cJ (va_A (MW cI cJ M mr mi mf mg) sz) ((fun (u : (Nat → Int32)) => (MW cI cJ M mr mi (va_up mf 1 u) mg)) u)) (va_A (MW cI cJ M mr mi mf mg) sz)) 0 0 (va_A (MW cI cJ M mr mi mf mg) sz) := by
  refine mk_met (y := yX12_snows) (bytes := cX12_snows) (maxL := 1) (avs := [.ref M]) (WS := (MW cI cJ M mr mi mf mg)) (Qf := fun A => va_Qv (fun (u : (Nat → Int32)) => ((u 2).toInt = ((mf 1) 2).toInt) ∧ ((u 3).toInt = ((mf 1) 3).toInt) ∧ ((u 5).toInt = ((mf 1) 5).toInt)) (fun u => QW D cI cJ A ((fun (u : (Nat → Int32)) => (MW cI cJ M mr mi (va_up mf 1 u) mg)) u)) A) (by decide) (Nat.le_of_ble_eq_true rfl) ?_
  intro p e s m below meth c A ls E hr hlk hnm hX hw1 hl2
  have hl3 : lv_has ls 1 [(0, .ref M)] := hl2
  refine lv_aload_n (pc := 0) E.1 E.2.1 dX12_snows_0 rfl (lv_at hl3 0 rfl) ?_
  refine x_get (pc := 1) (T := TX12) (N := 70) (ci := 12) (v := .int (mi 5)) E hw1 inX12 0 5 q_1404 rfl rfl (by decide) rfl rfl dX12_snows_1 ?_
  refine lv_if_ne (pc := 4) (tgt := 14) E.1 E.2.1 dX12_snows_4 (by decide) (fun c_4 => ?_) (fun c_4 => ?_)
  · skip
    have hc_4 := neE (a := (mi 5).toInt) (b := 0) rfl (by decide +kernel) c_4
    exact em_v (w1 := (fun (u : (Nat → Int32)) => (MW cI cJ M mr mi (va_up mf 1 u) mg))) E hr hlk (mf 1) hw1 ⟨rfl, rfl, rfl⟩ (Nat.le_of_ble_eq_true rfl) (Nat.le_of_ble_eq_true rfl) dX12_snows_14
  · skip
    have hc_4 := eqE (a := (mi 5).toInt) (b := 0) rfl (by decide +kernel) c_4
    refine lv_aload_n (pc := 7) E.1 E.2.1 dX12_snows_7 rfl (lv_at hl3 0 rfl) ?_
    refine x_get (pc := 8) (T := TX12) (N := 70) (ci := 12) (v := .int (mi 12)) E hw1 inX12 0 12 q_1411 rfl rfl (by decide) rfl rfl dX12_snows_8 ?_
    refine lv_if_ne (pc := 11) (tgt := 15) E.1 E.2.1 dX12_snows_11 (by decide) (fun c_5 => ?_) (fun c_5 => ?_)
    · skip
      have hc_5 := neE (a := (mi 12).toInt) (b := 0) rfl (by decide +kernel) c_5
      refine lv_aload_n (pc := 15) E.1 E.2.1 dX12_snows_15 rfl (lv_at hl3 0 rfl) ?_
      refine x_get (pc := 16) (T := TX12) (N := 70) (ci := 12) (v := .ref (mr 1)) E hw1 inX12 0 1 q_1400 rfl rfl (by decide) rfl rfl dX12_snows_16 ?_
      refine lv_iconst (pc := 19) (v := 4) E.1 E.2.1 dX12_snows_19 (by decide +kernel) ?_
      refine lv_aload_n (pc := 20) E.1 E.2.1 dX12_snows_20 rfl (lv_at hl3 0 rfl) ?_
      refine lv_sipush (pc := 21) (v := 1000) E.1 E.2.1 dX12_snows_21 (by decide +kernel) ?_
      refine cm_i (pc := 24) hw1 (rn_M (As := [.int 1000]) (rest := [.int 4, .ref (mr 1)]) E hw1 (s_draw l D cI cJ _ M mr mi mf mg 1000 (by show 1 ≤ (1000 : Int32).toInt; have k_0 : (1000 : Int32).toInt = 1000 := (by decide +kernel); omega)) (gdV q_1923 q_1925 q_113 q_162 q_1926) hdV_X12_draw ⟨rfl, rfl⟩ ⟨(Nat.le_of_ble_eq_true rfl), (Nat.le_of_ble_eq_true rfl)⟩ ⟨(Nat.le_of_ble_eq_true rfl), (Nat.le_of_ble_eq_true rfl)⟩ 12 rfl rfl rfl rfl hl3.1 rfl (Nat.le_of_ble_eq_true rfl) dX12_snows_24) (fun r_7 u_6 H1 locs hp hw8 => ?_)
      obtain ⟨gnow_9, rfl⟩ : ∃ z, z = u_6 := ⟨_, rfl⟩
      generalize H1 = H at hw8 ⊢
      have hw10 : WD D A s.heap (MW cI cJ M mr mi (va_up mf 1 gnow_9) mg) H locs := hw8
      obtain ⟨hp_11, hp_12, hp_13⟩ := hp
      have hp_11 : (gnow_9 2).toInt = ((mf 1) 2).toInt := hp_11
      have hp_12 : (gnow_9 3).toInt = ((mf 1) 3).toInt := hp_12
      have hp_13 : (gnow_9 5).toInt = ((mf 1) 5).toInt := hp_13
      refine lv_aload_n (pc := 27) E.1 E.2.1 dX12_snows_27 rfl (lv_at hl3 0 rfl) ?_
      refine x_get (pc := 28) (T := TX12) (N := 70) (ci := 12) (v := .int (mi 12)) E hw10 inX12 0 12 q_1411 rfl rfl (by decide) rfl rfl dX12_snows_28 ?_
      refine lv_icmp_ge (pc := 31) (tgt := 52) E.1 E.2.1 dX12_snows_31 (by decide) (fun c_14 => ?_) (fun c_14 => ?_)
      · skip
        have hc_14 := leE (a := (mi 12).toInt) (b := r_7.toInt) rfl rfl c_14
        refine lv_aload_n (pc := 52) E.1 E.2.1 dX12_snows_52 rfl (lv_at hl3 0 rfl) ?_
        refine lv_aload_n (pc := 53) E.1 E.2.1 dX12_snows_53 rfl (lv_at hl3 0 rfl) ?_
        refine x_get (pc := 54) (T := TX12) (N := 70) (ci := 12) (v := .ref (mr 1)) E hw10 inX12 0 1 q_1400 rfl rfl (by decide) rfl rfl dX12_snows_54 ?_
        refine lv_iconst (pc := 57) (v := 4) E.1 E.2.1 dX12_snows_57 (by decide +kernel) ?_
        refine x_iald (pc := 58) (f := gnow_9) E hw10 1 rfl (inbE (a := 4) (by decide +kernel) (by omega)) dX12_snows_58 ?_
        refine lv_topi (fun v_15 ev_15 => ?_)
        refine lv_iconst (pc := 59) (v := 1) E.1 E.2.1 dX12_snows_59 (by decide +kernel) ?_
        refine lv_isub (pc := 60) E.1 E.2.1 dX12_snows_60 ?_
        refine lv_topi (fun v_16 ev_16 => ?_)
        refine lv_iconst (pc := 61) (v := 0) E.1 E.2.1 dX12_snows_61 (by decide +kernel) ?_
        refine lv_bipush (pc := 62) (v := 9) E.1 E.2.1 dX12_snows_62 (by decide +kernel) ?_
        refine cm_i (pc := 64) hw10 (rn_M (As := [.int v_16, .int 0, .int 9]) (rest := [.int 4, .ref (mr 1)]) E hw10 (s_held l D cI cJ _ M mr mi (va_up mf 1 gnow_9) mg v_16 0 9 (by show (0 : Int32).toInt ≤ (9 : Int32).toInt; have k_0 : (0 : Int32).toInt = 0 := (by decide +kernel); have k_1 : (9 : Int32).toInt = 9 := (by decide +kernel); omega)) (gdV q_1895 q_1897 q_106 q_162 q_1898) hdV_X12_held ⟨rfl, rfl⟩ ⟨(Nat.le_of_ble_eq_true rfl), (Nat.le_of_ble_eq_true rfl)⟩ ⟨(Nat.le_of_ble_eq_true rfl), (Nat.le_of_ble_eq_true rfl)⟩ 12 rfl rfl rfl rfl hl3.1 rfl (Nat.le_of_ble_eq_true rfl) dX12_snows_64) (fun r_18 u_17 H1 locs hp hw19 => ?_)
        generalize H1 = H at hw19 ⊢
        have hw20 : WD D A s.heap (MW cI cJ M mr mi (va_up mf 1 gnow_9) mg) H locs := hw19
        have hp_21 := hp
        have hp_21 : (0 : Int32).toInt ≤ r_18.toInt ∧ r_18.toInt ≤ (9 : Int32).toInt := hp_21
        rw [show (0 : Int32).toInt = 0 from by decide +kernel] at hp_21
        rw [show (9 : Int32).toInt = 9 from by decide +kernel] at hp_21
        refine x_iastG (pc := 67) (f := gnow_9) (wf := fun g => (MW cI cJ M mr mi (va_up mf 1 g) mg)) E hw20 1 rfl (inbE (a := 4) (by decide +kernel) (by omega)) (fun _ => rfl) dX12_snows_67 (fun g_22 H locs eg_22 hw23 => ?_)
        have ht_24 : (g_22 2).toInt = (gnow_9 2).toInt := by rw [eg_22]; rfl
        have ht_25 : (g_22 3).toInt = (gnow_9 3).toInt := by rw [eg_22]; rfl
        have ht_26 : (g_22 5).toInt = (gnow_9 5).toInt := by rw [eg_22]; rfl
        exact em_v (w1 := (fun (u : (Nat → Int32)) => (MW cI cJ M mr mi (va_up mf 1 u) mg))) E hr hlk g_22 hw23 ⟨(by show (g_22 2).toInt = ((mf 1) 2).toInt; omega), (by show (g_22 3).toInt = ((mf 1) 3).toInt; omega), (by show (g_22 5).toInt = ((mf 1) 5).toInt; omega)⟩ (Nat.le_of_ble_eq_true rfl) (Nat.le_of_ble_eq_true rfl) dX12_snows_68
      · skip
        have hc_14 := nleE (a := (mi 12).toInt) (b := r_7.toInt) rfl rfl c_14
        refine lv_aload_n (pc := 34) E.1 E.2.1 dX12_snows_34 rfl (lv_at hl3 0 rfl) ?_
        refine lv_aload_n (pc := 35) E.1 E.2.1 dX12_snows_35 rfl (lv_at hl3 0 rfl) ?_
        refine x_get (pc := 36) (T := TX12) (N := 70) (ci := 12) (v := .ref (mr 1)) E hw10 inX12 0 1 q_1400 rfl rfl (by decide) rfl rfl dX12_snows_36 ?_
        refine lv_iconst (pc := 39) (v := 4) E.1 E.2.1 dX12_snows_39 (by decide +kernel) ?_
        refine x_iald (pc := 40) (f := gnow_9) E hw10 1 rfl (inbE (a := 4) (by decide +kernel) (by omega)) dX12_snows_40 ?_
        refine lv_topi (fun v_27 ev_27 => ?_)
        refine lv_iconst (pc := 41) (v := 1) E.1 E.2.1 dX12_snows_41 (by decide +kernel) ?_
        refine lv_iadd (pc := 42) E.1 E.2.1 dX12_snows_42 ?_
        refine lv_topi (fun v_28 ev_28 => ?_)
        refine lv_iconst (pc := 43) (v := 0) E.1 E.2.1 dX12_snows_43 (by decide +kernel) ?_
        refine lv_bipush (pc := 44) (v := 9) E.1 E.2.1 dX12_snows_44 (by decide +kernel) ?_
        refine cm_i (pc := 46) hw10 (rn_M (As := [.int v_28, .int 0, .int 9]) (rest := [.int 4, .ref (mr 1)]) E hw10 (s_held l D cI cJ _ M mr mi (va_up mf 1 gnow_9) mg v_28 0 9 (by show (0 : Int32).toInt ≤ (9 : Int32).toInt; have k_0 : (0 : Int32).toInt = 0 := (by decide +kernel); have k_1 : (9 : Int32).toInt = 9 := (by decide +kernel); omega)) (gdV q_1895 q_1897 q_106 q_162 q_1898) hdV_X12_held ⟨rfl, rfl⟩ ⟨(Nat.le_of_ble_eq_true rfl), (Nat.le_of_ble_eq_true rfl)⟩ ⟨(Nat.le_of_ble_eq_true rfl), (Nat.le_of_ble_eq_true rfl)⟩ 12 rfl rfl rfl rfl hl3.1 rfl (Nat.le_of_ble_eq_true rfl) dX12_snows_46) (fun r_30 u_29 H1 locs hp hw31 => ?_)
        generalize H1 = H at hw31 ⊢
        have hw32 : WD D A s.heap (MW cI cJ M mr mi (va_up mf 1 gnow_9) mg) H locs := hw31
        have hp_33 := hp
        have hp_33 : (0 : Int32).toInt ≤ r_30.toInt ∧ r_30.toInt ≤ (9 : Int32).toInt := hp_33
        rw [show (0 : Int32).toInt = 0 from by decide +kernel] at hp_33
        rw [show (9 : Int32).toInt = 9 from by decide +kernel] at hp_33
        refine lv_goto (pc := 49) (tgt := 67) E.1 E.2.1 dX12_snows_49 (by decide) ?_
        refine x_iastG (pc := 67) (f := gnow_9) (wf := fun g => (MW cI cJ M mr mi (va_up mf 1 g) mg)) E hw32 1 rfl (inbE (a := 4) (by decide +kernel) (by omega)) (fun _ => rfl) dX12_snows_67 (fun g_34 H locs eg_34 hw35 => ?_)
        have ht_36 : (g_34 2).toInt = (gnow_9 2).toInt := by rw [eg_34]; rfl
        have ht_37 : (g_34 3).toInt = (gnow_9 3).toInt := by rw [eg_34]; rfl
        have ht_38 : (g_34 5).toInt = (gnow_9 5).toInt := by rw [eg_34]; rfl
        exact em_v (w1 := (fun (u : (Nat → Int32)) => (MW cI cJ M mr mi (va_up mf 1 u) mg))) E hr hlk g_34 hw35 ⟨(by show (g_34 2).toInt = ((mf 1) 2).toInt; omega), (by show (g_34 3).toInt = ((mf 1) 3).toInt; omega), (by show (g_34 5).toInt = ((mf 1) 5).toInt; omega)⟩ (Nat.le_of_ble_eq_true rfl) (Nat.le_of_ble_eq_true rfl) dX12_snows_68
    · skip
      have hc_5 := eqE (a := (mi 12).toInt) (b := 0) rfl (by decide +kernel) c_5
      exact em_v (w1 := (fun (u : (Nat → Int32)) => (MW cI cJ M mr mi (va_up mf 1 u) mg))) E hr hlk (mf 1) hw1 ⟨rfl, rfl, rfl⟩ (Nat.le_of_ble_eq_true rfl) (Nat.le_of_ble_eq_true rfl) dX12_snows_14

set_option maxHeartbeats 4000000 in
set_option maxRecDepth 100000 in
theorem s_findsRows (l : Launch) (D : va_G) (cI cJ : ClassId) (sz M : Nat) (mr : Nat → Nat) (mi : Nat → Int32) (mf : Nat → Nat → Int32) (mg : Nat → Nat → Int64) (z_n : Int32) (h0 : 0 ≤ (mi 6).toInt ∧ (mi 6).toInt ≤ 10) (h1 : 0 ≤ (mi 17).toInt ∧ (mi 17).toInt ≤ 8) (h2 : 0 ≤ (mi 42).toInt ∧ (mi 42).toInt ≤ 40) (h3 : 1 ≤ z_n.toInt ∧ z_n.toInt ≤ 10) (a_paths : pathsOK (mf 43)) : Met l yX12_findsRows (Cond.code yX12_findsRows cX12_findsRows 4 none :: GW) ({ frames := 4, cells := 0, slots := 0, locals := 108 } : Room) (va_Pc [.ref M, .int z_n] (PW D cI cJ sz (MW cI cJ M mr mi mf mg) xT)) (va_Qv (fun (u : (Nat → Int32) × (Nat → Int64) × (Nat → Int64)) => True) (fun u => QW D cI cJ (va_A (MW cI cJ M mr mi mf mg) sz) ((fun (u : (Nat → Int32) × (Nat → Int64) × (Nat → Int64)) => (MW cI cJ M mr mi (va_up mf 55 u.1) (va_up (va_up mg 64 u.2.1) 65 u.2.2))) u)) (va_A (MW cI cJ M mr mi mf mg) sz)) 0 0 (va_A (MW cI cJ M mr mi mf mg) sz) := by
  refine mk_met (y := yX12_findsRows) (bytes := cX12_findsRows) (maxL := 4) (avs := [.ref M, .int z_n]) (WS := (MW cI cJ M mr mi mf mg)) (Qf := fun A => va_Qv (fun (u : (Nat → Int32) × (Nat → Int64) × (Nat → Int64)) => True) (fun u => QW D cI cJ A ((fun (u : (Nat → Int32) × (Nat → Int64) × (Nat → Int64)) => (MW cI cJ M mr mi (va_up mf 55 u.1) (va_up (va_up mg 64 u.2.1) 65 u.2.2))) u)) A) (by decide) (Nat.le_of_ble_eq_true rfl) ?_
  intro p e s m below meth c A ls E hr hlk hnm hX hw1 hl2
  have hl3 : lv_has ls 4 [(0, .ref M), (1, .int z_n)] := hl2
  refine lv_aload_n (pc := 0) E.1 E.2.1 dX12_findsRows_0 rfl (lv_at hl3 0 rfl) ?_
  refine lv_aload_n (pc := 1) E.1 E.2.1 dX12_findsRows_1 rfl (lv_at hl3 0 rfl) ?_
  refine x_get (pc := 2) (T := TX12) (N := 70) (ci := 12) (v := .ref (mr 1)) E hw1 inX12 0 1 q_1400 rfl rfl (by decide) rfl rfl dX12_findsRows_2 ?_
  refine lv_iconst (pc := 5) (v := 4) E.1 E.2.1 dX12_findsRows_5 (by decide +kernel) ?_
  refine x_iald (pc := 6) (f := (mf 1)) E hw1 1 rfl (inbE (a := 4) (by decide +kernel) (by omega)) dX12_findsRows_6 ?_
  refine lv_topi (fun v_4 ev_4 => ?_)
  refine cm_v (pc := 7) hw1 (rn_M (As := [.int v_4]) (rest := []) E hw1 (s_findsFar l D cI cJ _ M mr mi mf mg v_4 h0 h2 a_paths) (gdV q_1822 q_1824 q_89 q_162 q_1825) hdV_X12_findsFar ⟨rfl, rfl⟩ ⟨(Nat.le_of_ble_eq_true rfl), (Nat.le_of_ble_eq_true rfl)⟩ ⟨(Nat.le_of_ble_eq_true rfl), (Nat.le_of_ble_eq_true rfl)⟩ 12 rfl rfl rfl rfl hl3.1 rfl (Nat.le_of_ble_eq_true rfl) dX12_findsRows_7) (fun u_5 H1 locs hp hw7 => ?_)
  obtain ⟨gfarOf_8, rfl⟩ : ∃ z, z = u_5 := ⟨_, rfl⟩
  generalize H1 = H at hw7 ⊢
  have hw9 : WD D A s.heap (MW cI cJ M mr mi (va_up mf 55 gfarOf_8) mg) H locs := hw7
  refine lv_iconst (pc := 10) (v := 0) E.1 E.2.1 dX12_findsRows_10 (by decide +kernel) ?_
  refine lv_istore_n (pc := 11) (lv' := [(2, .int 0), (0, .ref M), (1, .int z_n)]) E.1 E.2.1 dX12_findsRows_11 rfl hl3 (by decide) rfl (fun ls hl10 => ?_)
  have loop_11 : ∀ (k : Nat) (x_12 : Int32) (g_13 : Nat → Int64) (H : Heap) (locs : List Loc) (ls : Array Slot), (0 ≤ x_12.toInt) ∧ (x_12.toInt ≤ z_n.toInt) → z_n.toInt - x_12.toInt < (k : Int) → WD D A s.heap (MW cI cJ M mr mi (va_up mf 55 gfarOf_8) (va_up mg 64 g_13)) H locs → lv_has ls 4 [(2, .int x_12), (0, .ref M), (1, .int z_n)] → W p l e ({ frames := 4, cells := 0, slots := 0, locals := 108 } : Room) s m ([.ref M, .int z_n] : List Value).toArray below meth c H locs 0 0 (MQ below (va_Qv (fun (u : (Nat → Int32) × (Nat → Int64) × (Nat → Int64)) => True) (fun u => QW D cI cJ A ((fun (u : (Nat → Int32) × (Nat → Int64) × (Nat → Int64)) => (MW cI cJ M mr mi (va_up mf 55 u.1) (va_up (va_up mg 64 u.2.1) 65 u.2.2))) u)) A) ([.ref M, .int z_n] : List Value).toArray s 0 0 A) (F0 m 12 ls []) := by
    intro k
    induction k with
    | zero =>
      intro x_12 g_13 _ _ _ hinv hm
      obtain ⟨hi_13_0, hi_13_1⟩ := hinv
      exact absurd hm (by omega)
    | succ k ih_14 =>
      intro x_12 g_13 H locs ls hinv hm hw15 hl16
      obtain ⟨hi_13_0, hi_13_1⟩ := hinv
      refine lv_iload_n (pc := 12) E.1 E.2.1 dX12_findsRows_12 rfl (lv_at hl16 0 rfl) ?_
      refine lv_iload_n (pc := 13) E.1 E.2.1 dX12_findsRows_13 rfl (lv_at hl16 2 rfl) ?_
      refine lv_icmp_ge (pc := 14) (tgt := 83) E.1 E.2.1 dX12_findsRows_14 (by decide) (fun c_17 => ?_) (fun c_17 => ?_)
      · skip
        have hc_17 := leE (a := z_n.toInt) (b := x_12.toInt) rfl rfl c_17
        refine lv_iload_n (pc := 83) E.1 E.2.1 dX12_findsRows_83 rfl (lv_at hl16 2 rfl) ?_
        refine lv_iconst (pc := 84) (v := 1) E.1 E.2.1 dX12_findsRows_84 (by decide +kernel) ?_
        refine lv_isub (pc := 85) E.1 E.2.1 dX12_findsRows_85 ?_
        refine lv_topi (fun v_18 ev_18 => ?_)
        have hv_18 : v_18.toInt = z_n.toInt - 1 := by rw [ev_18]; exact subE rfl (by decide +kernel) (by omega)
        refine lv_istore_n (pc := 86) (lv' := [(2, .int v_18), (0, .ref M), (1, .int z_n)]) E.1 E.2.1 dX12_findsRows_86 rfl hl16 (by decide) rfl (fun ls hl19 => ?_)
        have loop_20 : ∀ (k : Nat) (x_21 : Int32) (g_22 : Nat → Int64) (H : Heap) (locs : List Loc) (ls : Array Slot), ((-1) ≤ x_21.toInt) ∧ (x_21.toInt ≤ z_n.toInt - 1) → x_21.toInt + 1 < (k : Int) → WD D A s.heap (MW cI cJ M mr mi (va_up mf 55 gfarOf_8) (va_up (va_up mg 64 g_13) 65 g_22)) H locs → lv_has ls 4 [(2, .int x_21), (0, .ref M), (1, .int z_n)] → W p l e ({ frames := 4, cells := 0, slots := 0, locals := 108 } : Room) s m ([.ref M, .int z_n] : List Value).toArray below meth c H locs 0 0 (MQ below (va_Qv (fun (u : (Nat → Int32) × (Nat → Int64) × (Nat → Int64)) => True) (fun u => QW D cI cJ A ((fun (u : (Nat → Int32) × (Nat → Int64) × (Nat → Int64)) => (MW cI cJ M mr mi (va_up mf 55 u.1) (va_up (va_up mg 64 u.2.1) 65 u.2.2))) u)) A) ([.ref M, .int z_n] : List Value).toArray s 0 0 A) (F0 m 87 ls []) := by
          intro k
          induction k with
          | zero =>
            intro x_21 g_22 _ _ _ hinv hm
            obtain ⟨hi_22_0, hi_22_1⟩ := hinv
            exact absurd hm (by omega)
          | succ k ih_23 =>
            intro x_21 g_22 H locs ls hinv hm hw24 hl25
            obtain ⟨hi_22_0, hi_22_1⟩ := hinv
            refine lv_iload_n (pc := 87) E.1 E.2.1 dX12_findsRows_87 rfl (lv_at hl25 0 rfl) ?_
            refine lv_if_lt (pc := 88) (tgt := 160) E.1 E.2.1 dX12_findsRows_88 (by decide) (fun c_26 => ?_) (fun c_26 => ?_)
            · skip
              have hc_26 := ltE (a := x_21.toInt) (b := 0) rfl (by decide +kernel) c_26
              exact em_v (w1 := (fun (u : (Nat → Int32) × (Nat → Int64) × (Nat → Int64)) => (MW cI cJ M mr mi (va_up mf 55 u.1) (va_up (va_up mg 64 u.2.1) 65 u.2.2)))) E hr hlk (gfarOf_8, g_13, g_22) hw24 trivial (Nat.le_of_ble_eq_true rfl) (Nat.le_of_ble_eq_true rfl) dX12_findsRows_160
            · skip
              have hc_26 := nltE (a := x_21.toInt) (b := 0) rfl (by decide +kernel) c_26
              refine lv_iconst (pc := 91) (v := 0) E.1 E.2.1 dX12_findsRows_91 (by decide +kernel) ?_
              refine lv_istore_n (pc := 92) (lv' := [(3, .int 0), (2, .int x_21), (0, .ref M), (1, .int z_n)]) E.1 E.2.1 dX12_findsRows_92 rfl hl25 (by decide) rfl (fun ls hl27 => ?_)
              have loop_28 : ∀ (k : Nat) (x_29 : Int32) (g_30 : Nat → Int64) (H : Heap) (locs : List Loc) (ls : Array Slot), (0 ≤ x_29.toInt) ∧ (x_29.toInt ≤ (mi 6).toInt) → (mi 6).toInt - x_29.toInt < (k : Int) → WD D A s.heap (MW cI cJ M mr mi (va_up mf 55 gfarOf_8) (va_up (va_up mg 64 g_13) 65 g_30)) H locs → lv_has ls 4 [(3, .int x_29), (2, .int x_21), (0, .ref M), (1, .int z_n)] → W p l e ({ frames := 4, cells := 0, slots := 0, locals := 108 } : Room) s m ([.ref M, .int z_n] : List Value).toArray below meth c H locs 0 0 (MQ below (va_Qv (fun (u : (Nat → Int32) × (Nat → Int64) × (Nat → Int64)) => True) (fun u => QW D cI cJ A ((fun (u : (Nat → Int32) × (Nat → Int64) × (Nat → Int64)) => (MW cI cJ M mr mi (va_up mf 55 u.1) (va_up (va_up mg 64 u.2.1) 65 u.2.2))) u)) A) ([.ref M, .int z_n] : List Value).toArray s 0 0 A) (F0 m 93 ls []) := by
                intro k
                induction k with
                | zero =>
                  intro x_29 g_30 _ _ _ hinv hm
                  obtain ⟨hi_30_0, hi_30_1⟩ := hinv
                  exact absurd hm (by omega)
                | succ k ih_31 =>
                  intro x_29 g_30 H locs ls hinv hm hw32 hl33
                  obtain ⟨hi_30_0, hi_30_1⟩ := hinv
                  refine lv_iload_n (pc := 93) E.1 E.2.1 dX12_findsRows_93 rfl (lv_at hl33 0 rfl) ?_
                  refine lv_aload_n (pc := 94) E.1 E.2.1 dX12_findsRows_94 rfl (lv_at hl33 2 rfl) ?_
                  refine x_get (pc := 95) (T := TX12) (N := 70) (ci := 12) (v := .int (mi 6)) E hw32 inX12 0 6 q_1405 rfl rfl (by decide) rfl rfl dX12_findsRows_95 ?_
                  refine lv_icmp_ge (pc := 98) (tgt := 154) E.1 E.2.1 dX12_findsRows_98 (by decide) (fun c_34 => ?_) (fun c_34 => ?_)
                  · skip
                    have hc_34 := leE (a := (mi 6).toInt) (b := x_29.toInt) rfl rfl c_34
                    obtain ⟨v_35, ev_35⟩ : ∃ z : Int32, x_21 + Int32.ofInt (-1) = z := ⟨_, rfl⟩
                    have hv_35 : v_35.toInt = x_21.toInt + (-1) := by rw [← ev_35]; exact incE rfl (by decide) (by omega)
                    refine lv_iinc (pc := 154) (v := v_35) (lv' := [(2, .int v_35), (3, .int x_29), (0, .ref M), (1, .int z_n)]) E.1 E.2.1 dX12_findsRows_154 hl33 (k := 1) rfl ev_35 (by decide) rfl (fun ls hl36 => ?_)
                    refine lv_goto (pc := 157) (tgt := 87) E.1 E.2.1 dX12_findsRows_157 (by decide) ?_
                    exact ih_23 v_35 g_30 _ _ _ ⟨(by show (-1) ≤ v_35.toInt; omega), (by show v_35.toInt ≤ z_n.toInt - 1; omega)⟩ (by omega) hw32 (lv_sub hl36 [0, 2, 3] rfl)
                  · skip
                    have hc_34 := nleE (a := (mi 6).toInt) (b := x_29.toInt) rfl rfl c_34
                    refine lv_aload_n (pc := 101) E.1 E.2.1 dX12_findsRows_101 rfl (lv_at hl33 2 rfl) ?_
                    refine x_get (pc := 102) (T := TX12) (N := 70) (ci := 12) (v := .ref (mr 65)) E hw32 inX12 0 65 q_1464 rfl rfl (by decide) rfl rfl dX12_findsRows_102 ?_
                    refine lv_bipush (pc := 105) (v := 10) E.1 E.2.1 dX12_findsRows_105 (by decide +kernel) ?_
                    refine lv_iload_n (pc := 107) E.1 E.2.1 dX12_findsRows_107 rfl (lv_at hl33 1 rfl) ?_
                    refine lv_imul (pc := 108) E.1 E.2.1 dX12_findsRows_108 ?_
                    refine lv_topi (fun v_37 ev_37 => ?_)
                    have hv_37 : v_37.toInt = 10 * x_21.toInt := by rw [ev_37]; exact mulE (by decide +kernel) rfl (by omega)
                    refine lv_iload_n (pc := 109) E.1 E.2.1 dX12_findsRows_109 rfl (lv_at hl33 0 rfl) ?_
                    refine lv_iadd (pc := 110) E.1 E.2.1 dX12_findsRows_110 ?_
                    refine lv_topi (fun v_38 ev_38 => ?_)
                    have hv_38 : v_38.toInt = v_37.toInt + x_29.toInt := by rw [ev_38]; exact addE rfl rfl (by omega)
                    refine lv_aload_n (pc := 111) E.1 E.2.1 dX12_findsRows_111 rfl (lv_at hl33 2 rfl) ?_
                    refine lv_iload_n (pc := 112) E.1 E.2.1 dX12_findsRows_112 rfl (lv_at hl33 1 rfl) ?_
                    refine lv_iload_n (pc := 113) E.1 E.2.1 dX12_findsRows_113 rfl (lv_at hl33 0 rfl) ?_
                    refine cm_i (pc := 114) hw32 (rn_M (As := [.int x_21, .int x_29]) (rest := [.int v_38, .ref (mr 65)]) E hw32 (s_canBe l D cI cJ _ M mr mi (va_up mf 55 gfarOf_8) (va_up (va_up mg 64 g_13) 65 g_30) x_21 x_29 h1) (gdV q_2097 q_2099 q_142 q_162 q_2100) hdV_X12_canBe ⟨rfl, rfl⟩ ⟨(Nat.le_of_ble_eq_true rfl), (Nat.le_of_ble_eq_true rfl)⟩ ⟨(Nat.le_of_ble_eq_true rfl), (Nat.le_of_ble_eq_true rfl)⟩ 12 rfl rfl rfl rfl hl33.1 rfl (Nat.le_of_ble_eq_true rfl) dX12_findsRows_114) (fun r_40 u_39 H1 locs hp hw41 => ?_)
                    generalize H1 = H at hw41 ⊢
                    have hw42 : WD D A s.heap (MW cI cJ M mr mi (va_up mf 55 gfarOf_8) (va_up (va_up mg 64 g_13) 65 g_30)) H locs := hw41
                    have hp_43 := hp
                    have hp_43 : 0 ≤ r_40.toInt ∧ r_40.toInt ≤ 1 := hp_43
                    refine lv_if_ne (pc := 117) (tgt := 124) E.1 E.2.1 dX12_findsRows_117 (by decide) (fun c_44 => ?_) (fun c_44 => ?_)
                    · skip
                      have hc_44 := neE (a := r_40.toInt) (b := 0) rfl (by decide +kernel) c_44
                      refine lv_iload_n (pc := 124) E.1 E.2.1 dX12_findsRows_124 rfl (lv_at hl33 1 rfl) ?_
                      refine lv_iload_n (pc := 125) E.1 E.2.1 dX12_findsRows_125 rfl (lv_at hl33 3 rfl) ?_
                      refine lv_iconst (pc := 126) (v := 1) E.1 E.2.1 dX12_findsRows_126 (by decide +kernel) ?_
                      refine lv_isub (pc := 127) E.1 E.2.1 dX12_findsRows_127 ?_
                      refine lv_topi (fun v_45 ev_45 => ?_)
                      have hv_45 : v_45.toInt = z_n.toInt - 1 := by rw [ev_45]; exact subE rfl (by decide +kernel) (by omega)
                      refine lv_icmp_ne (pc := 128) (tgt := 135) E.1 E.2.1 dX12_findsRows_128 (by decide) (fun c_46 => ?_) (fun c_46 => ?_)
                      · skip
                        have hc_46 := neE (a := x_21.toInt) (b := v_45.toInt) rfl rfl c_46
                        refine lv_aload_n (pc := 135) E.1 E.2.1 dX12_findsRows_135 rfl (lv_at hl33 2 rfl) ?_
                        refine lv_aload_n (pc := 136) E.1 E.2.1 dX12_findsRows_136 rfl (lv_at hl33 2 rfl) ?_
                        refine x_get (pc := 137) (T := TX12) (N := 70) (ci := 12) (v := .ref (mr 65)) E hw42 inX12 0 65 q_1464 rfl rfl (by decide) rfl rfl dX12_findsRows_137 ?_
                        refine lv_iload_n (pc := 140) E.1 E.2.1 dX12_findsRows_140 rfl (lv_at hl33 1 rfl) ?_
                        refine lv_iconst (pc := 141) (v := 1) E.1 E.2.1 dX12_findsRows_141 (by decide +kernel) ?_
                        refine lv_iadd (pc := 142) E.1 E.2.1 dX12_findsRows_142 ?_
                        refine lv_topi (fun v_47 ev_47 => ?_)
                        have hv_47 : v_47.toInt = x_21.toInt + 1 := by rw [ev_47]; exact addE rfl (by decide +kernel) (by omega)
                        refine lv_iload_n (pc := 143) E.1 E.2.1 dX12_findsRows_143 rfl (lv_at hl33 0 rfl) ?_
                        refine cm_l (pc := 144) hw42 (rn_M (As := [.ref (mr 65), .int v_47, .int x_29]) (rest := [.int v_38, .ref (mr 65)]) E hw42 (s_sumOf_65 l D cI cJ _ M mr mi (va_up mf 55 gfarOf_8) (va_up (va_up mg 64 g_13) 65 g_30) v_47 x_29 h0 (by show 0 ≤ v_47.toInt ∧ v_47.toInt ≤ 9; omega) (by show 0 ≤ x_29.toInt ∧ x_29.toInt ≤ 9; omega)) (gdV q_2101 q_2103 q_143 q_162 q_2104) hdV_X12_sumOf ⟨rfl, rfl⟩ ⟨(Nat.le_of_ble_eq_true rfl), (Nat.le_of_ble_eq_true rfl)⟩ ⟨(Nat.le_of_ble_eq_true rfl), (Nat.le_of_ble_eq_true rfl)⟩ 12 rfl rfl rfl rfl hl33.1 rfl (Nat.le_of_ble_eq_true rfl) dX12_findsRows_144) (fun r_49 u_48 H1 locs hp hw50 => ?_)
                        generalize H1 = H at hw50 ⊢
                        have hw51 : WD D A s.heap (MW cI cJ M mr mi (va_up mf 55 gfarOf_8) (va_up (va_up mg 64 g_13) 65 g_30)) H locs := hw50
                        refine x_lastO (pc := 147) (f := g_30) (wf := fun g => (MW cI cJ M mr mi (va_up mf 55 gfarOf_8) (va_up (va_up mg 64 g_13) 65 g))) E hw51 37 rfl (inbE (a := v_38.toInt) rfl (by omega)) (fun _ => rfl) dX12_findsRows_147 (fun g_52 H locs hw53 => ?_)
                        obtain ⟨v_54, ev_54⟩ : ∃ z : Int32, x_29 + Int32.ofInt (1) = z := ⟨_, rfl⟩
                        have hv_54 : v_54.toInt = x_29.toInt + (1) := by rw [← ev_54]; exact incE rfl (by decide) (by omega)
                        refine lv_iinc (pc := 148) (v := v_54) (lv' := [(3, .int v_54), (2, .int x_21), (0, .ref M), (1, .int z_n)]) E.1 E.2.1 dX12_findsRows_148 hl33 (k := 0) rfl ev_54 (by decide) rfl (fun ls hl55 => ?_)
                        refine lv_goto (pc := 151) (tgt := 93) E.1 E.2.1 dX12_findsRows_151 (by decide) ?_
                        exact ih_31 v_54 g_52 _ _ _ ⟨(by show 0 ≤ v_54.toInt; omega), (by show v_54.toInt ≤ (mi 6).toInt; omega)⟩ (by omega) hw53 (lv_sub hl55 [0, 1, 2, 3] rfl)
                      · skip
                        have hc_46 := eqE (a := x_21.toInt) (b := v_45.toInt) rfl rfl c_46
                        refine lv_lconst (pc := 131) (v := 1) E.1 E.2.1 dX12_findsRows_131 (by decide +kernel) ?_
                        refine lv_goto (pc := 132) (tgt := 147) E.1 E.2.1 dX12_findsRows_132 (by decide) ?_
                        refine x_lastO (pc := 147) (f := g_30) (wf := fun g => (MW cI cJ M mr mi (va_up mf 55 gfarOf_8) (va_up (va_up mg 64 g_13) 65 g))) E hw42 37 rfl (inbE (a := v_38.toInt) rfl (by omega)) (fun _ => rfl) dX12_findsRows_147 (fun g_56 H locs hw57 => ?_)
                        obtain ⟨v_58, ev_58⟩ : ∃ z : Int32, x_29 + Int32.ofInt (1) = z := ⟨_, rfl⟩
                        have hv_58 : v_58.toInt = x_29.toInt + (1) := by rw [← ev_58]; exact incE rfl (by decide) (by omega)
                        refine lv_iinc (pc := 148) (v := v_58) (lv' := [(3, .int v_58), (2, .int x_21), (0, .ref M), (1, .int z_n)]) E.1 E.2.1 dX12_findsRows_148 hl33 (k := 0) rfl ev_58 (by decide) rfl (fun ls hl59 => ?_)
                        refine lv_goto (pc := 151) (tgt := 93) E.1 E.2.1 dX12_findsRows_151 (by decide) ?_
                        exact ih_31 v_58 g_56 _ _ _ ⟨(by show 0 ≤ v_58.toInt; omega), (by show v_58.toInt ≤ (mi 6).toInt; omega)⟩ (by omega) hw57 (lv_sub hl59 [0, 1, 2, 3] rfl)
                    · skip
                      have hc_44 := eqE (a := r_40.toInt) (b := 0) rfl (by decide +kernel) c_44
                      refine lv_lconst (pc := 120) (v := 0) E.1 E.2.1 dX12_findsRows_120 (by decide +kernel) ?_
                      refine lv_goto (pc := 121) (tgt := 147) E.1 E.2.1 dX12_findsRows_121 (by decide) ?_
                      refine x_lastO (pc := 147) (f := g_30) (wf := fun g => (MW cI cJ M mr mi (va_up mf 55 gfarOf_8) (va_up (va_up mg 64 g_13) 65 g))) E hw42 37 rfl (inbE (a := v_38.toInt) rfl (by omega)) (fun _ => rfl) dX12_findsRows_147 (fun g_60 H locs hw61 => ?_)
                      obtain ⟨v_62, ev_62⟩ : ∃ z : Int32, x_29 + Int32.ofInt (1) = z := ⟨_, rfl⟩
                      have hv_62 : v_62.toInt = x_29.toInt + (1) := by rw [← ev_62]; exact incE rfl (by decide) (by omega)
                      refine lv_iinc (pc := 148) (v := v_62) (lv' := [(3, .int v_62), (2, .int x_21), (0, .ref M), (1, .int z_n)]) E.1 E.2.1 dX12_findsRows_148 hl33 (k := 0) rfl ev_62 (by decide) rfl (fun ls hl63 => ?_)
                      refine lv_goto (pc := 151) (tgt := 93) E.1 E.2.1 dX12_findsRows_151 (by decide) ?_
                      exact ih_31 v_62 g_60 _ _ _ ⟨(by show 0 ≤ v_62.toInt; omega), (by show v_62.toInt ≤ (mi 6).toInt; omega)⟩ (by omega) hw61 (lv_sub hl63 [0, 1, 2, 3] rfl)
              exact loop_28 (Int.toNat ((mi 6).toInt - 0) + 1) 0 g_22 _ _ _ ⟨(by show 0 ≤ (0 : Int32).toInt; have k_0 : (0 : Int32).toInt = 0 := (by decide +kernel); omega), (by show (0 : Int32).toInt ≤ (mi 6).toInt; have k_0 : (0 : Int32).toInt = 0 := (by decide +kernel); omega)⟩ (by have k_0 : (0 : Int32).toInt = 0 := (by decide +kernel); omega) hw24 (lv_sub hl27 [0, 1, 2, 3] rfl)
        exact loop_20 (Int.toNat (v_18.toInt + 1) + 1) v_18 (mg 65) _ _ _ ⟨(by show (-1) ≤ v_18.toInt; omega), (by show v_18.toInt ≤ z_n.toInt - 1; omega)⟩ (by omega) hw15 (lv_sub hl19 [0, 1, 2] rfl)
      · skip
        have hc_17 := nleE (a := z_n.toInt) (b := x_12.toInt) rfl rfl c_17
        refine lv_iconst (pc := 17) (v := 0) E.1 E.2.1 dX12_findsRows_17 (by decide +kernel) ?_
        refine lv_istore_n (pc := 18) (lv' := [(3, .int 0), (2, .int x_12), (0, .ref M), (1, .int z_n)]) E.1 E.2.1 dX12_findsRows_18 rfl hl16 (by decide) rfl (fun ls hl64 => ?_)
        have loop_65 : ∀ (k : Nat) (x_66 : Int32) (g_67 : Nat → Int64) (H : Heap) (locs : List Loc) (ls : Array Slot), (0 ≤ x_66.toInt) ∧ (x_66.toInt ≤ (mi 6).toInt) → (mi 6).toInt - x_66.toInt < (k : Int) → WD D A s.heap (MW cI cJ M mr mi (va_up mf 55 gfarOf_8) (va_up mg 64 g_67)) H locs → lv_has ls 4 [(3, .int x_66), (2, .int x_12), (0, .ref M), (1, .int z_n)] → W p l e ({ frames := 4, cells := 0, slots := 0, locals := 108 } : Room) s m ([.ref M, .int z_n] : List Value).toArray below meth c H locs 0 0 (MQ below (va_Qv (fun (u : (Nat → Int32) × (Nat → Int64) × (Nat → Int64)) => True) (fun u => QW D cI cJ A ((fun (u : (Nat → Int32) × (Nat → Int64) × (Nat → Int64)) => (MW cI cJ M mr mi (va_up mf 55 u.1) (va_up (va_up mg 64 u.2.1) 65 u.2.2))) u)) A) ([.ref M, .int z_n] : List Value).toArray s 0 0 A) (F0 m 19 ls []) := by
          intro k
          induction k with
          | zero =>
            intro x_66 g_67 _ _ _ hinv hm
            obtain ⟨hi_67_0, hi_67_1⟩ := hinv
            exact absurd hm (by omega)
          | succ k ih_68 =>
            intro x_66 g_67 H locs ls hinv hm hw69 hl70
            obtain ⟨hi_67_0, hi_67_1⟩ := hinv
            refine lv_iload_n (pc := 19) E.1 E.2.1 dX12_findsRows_19 rfl (lv_at hl70 0 rfl) ?_
            refine lv_aload_n (pc := 20) E.1 E.2.1 dX12_findsRows_20 rfl (lv_at hl70 2 rfl) ?_
            refine x_get (pc := 21) (T := TX12) (N := 70) (ci := 12) (v := .int (mi 6)) E hw69 inX12 0 6 q_1405 rfl rfl (by decide) rfl rfl dX12_findsRows_21 ?_
            refine lv_icmp_ge (pc := 24) (tgt := 77) E.1 E.2.1 dX12_findsRows_24 (by decide) (fun c_71 => ?_) (fun c_71 => ?_)
            · skip
              have hc_71 := leE (a := (mi 6).toInt) (b := x_66.toInt) rfl rfl c_71
              obtain ⟨v_72, ev_72⟩ : ∃ z : Int32, x_12 + Int32.ofInt (1) = z := ⟨_, rfl⟩
              have hv_72 : v_72.toInt = x_12.toInt + (1) := by rw [← ev_72]; exact incE rfl (by decide) (by omega)
              refine lv_iinc (pc := 77) (v := v_72) (lv' := [(2, .int v_72), (3, .int x_66), (0, .ref M), (1, .int z_n)]) E.1 E.2.1 dX12_findsRows_77 hl70 (k := 1) rfl ev_72 (by decide) rfl (fun ls hl73 => ?_)
              refine lv_goto (pc := 80) (tgt := 12) E.1 E.2.1 dX12_findsRows_80 (by decide) ?_
              exact ih_14 v_72 g_67 _ _ _ ⟨(by show 0 ≤ v_72.toInt; omega), (by show v_72.toInt ≤ z_n.toInt; omega)⟩ (by omega) hw69 (lv_sub hl73 [0, 2, 3] rfl)
            · skip
              have hc_71 := nleE (a := (mi 6).toInt) (b := x_66.toInt) rfl rfl c_71
              refine lv_aload_n (pc := 27) E.1 E.2.1 dX12_findsRows_27 rfl (lv_at hl70 2 rfl) ?_
              refine x_get (pc := 28) (T := TX12) (N := 70) (ci := 12) (v := .ref (mr 64)) E hw69 inX12 0 64 q_1463 rfl rfl (by decide) rfl rfl dX12_findsRows_28 ?_
              refine lv_bipush (pc := 31) (v := 10) E.1 E.2.1 dX12_findsRows_31 (by decide +kernel) ?_
              refine lv_iload_n (pc := 33) E.1 E.2.1 dX12_findsRows_33 rfl (lv_at hl70 1 rfl) ?_
              refine lv_imul (pc := 34) E.1 E.2.1 dX12_findsRows_34 ?_
              refine lv_topi (fun v_74 ev_74 => ?_)
              have hv_74 : v_74.toInt = 10 * x_12.toInt := by rw [ev_74]; exact mulE (by decide +kernel) rfl (by omega)
              refine lv_iload_n (pc := 35) E.1 E.2.1 dX12_findsRows_35 rfl (lv_at hl70 0 rfl) ?_
              refine lv_iadd (pc := 36) E.1 E.2.1 dX12_findsRows_36 ?_
              refine lv_topi (fun v_75 ev_75 => ?_)
              have hv_75 : v_75.toInt = v_74.toInt + x_66.toInt := by rw [ev_75]; exact addE rfl rfl (by omega)
              refine lv_aload_n (pc := 37) E.1 E.2.1 dX12_findsRows_37 rfl (lv_at hl70 2 rfl) ?_
              refine lv_iload_n (pc := 38) E.1 E.2.1 dX12_findsRows_38 rfl (lv_at hl70 1 rfl) ?_
              refine lv_iload_n (pc := 39) E.1 E.2.1 dX12_findsRows_39 rfl (lv_at hl70 0 rfl) ?_
              refine cm_i (pc := 40) hw69 (rn_M (As := [.int x_12, .int x_66]) (rest := [.int v_75, .ref (mr 64)]) E hw69 (s_canBe l D cI cJ _ M mr mi (va_up mf 55 gfarOf_8) (va_up mg 64 g_67) x_12 x_66 h1) (gdV q_2097 q_2099 q_142 q_162 q_2100) hdV_X12_canBe ⟨rfl, rfl⟩ ⟨(Nat.le_of_ble_eq_true rfl), (Nat.le_of_ble_eq_true rfl)⟩ ⟨(Nat.le_of_ble_eq_true rfl), (Nat.le_of_ble_eq_true rfl)⟩ 12 rfl rfl rfl rfl hl70.1 rfl (Nat.le_of_ble_eq_true rfl) dX12_findsRows_40) (fun r_77 u_76 H1 locs hp hw78 => ?_)
              generalize H1 = H at hw78 ⊢
              have hw79 : WD D A s.heap (MW cI cJ M mr mi (va_up mf 55 gfarOf_8) (va_up mg 64 g_67)) H locs := hw78
              have hp_80 := hp
              have hp_80 : 0 ≤ r_77.toInt ∧ r_77.toInt ≤ 1 := hp_80
              refine lv_if_ne (pc := 43) (tgt := 50) E.1 E.2.1 dX12_findsRows_43 (by decide) (fun c_81 => ?_) (fun c_81 => ?_)
              · skip
                have hc_81 := neE (a := r_77.toInt) (b := 0) rfl (by decide +kernel) c_81
                refine lv_iload_n (pc := 50) E.1 E.2.1 dX12_findsRows_50 rfl (lv_at hl70 1 rfl) ?_
                refine lv_if_ne (pc := 51) (tgt := 58) E.1 E.2.1 dX12_findsRows_51 (by decide) (fun c_82 => ?_) (fun c_82 => ?_)
                · skip
                  have hc_82 := neE (a := x_12.toInt) (b := 0) rfl (by decide +kernel) c_82
                  refine lv_aload_n (pc := 58) E.1 E.2.1 dX12_findsRows_58 rfl (lv_at hl70 2 rfl) ?_
                  refine lv_aload_n (pc := 59) E.1 E.2.1 dX12_findsRows_59 rfl (lv_at hl70 2 rfl) ?_
                  refine x_get (pc := 60) (T := TX12) (N := 70) (ci := 12) (v := .ref (mr 64)) E hw79 inX12 0 64 q_1463 rfl rfl (by decide) rfl rfl dX12_findsRows_60 ?_
                  refine lv_iload_n (pc := 63) E.1 E.2.1 dX12_findsRows_63 rfl (lv_at hl70 1 rfl) ?_
                  refine lv_iconst (pc := 64) (v := 1) E.1 E.2.1 dX12_findsRows_64 (by decide +kernel) ?_
                  refine lv_isub (pc := 65) E.1 E.2.1 dX12_findsRows_65 ?_
                  refine lv_topi (fun v_83 ev_83 => ?_)
                  have hv_83 : v_83.toInt = x_12.toInt - 1 := by rw [ev_83]; exact subE rfl (by decide +kernel) (by omega)
                  refine lv_iload_n (pc := 66) E.1 E.2.1 dX12_findsRows_66 rfl (lv_at hl70 0 rfl) ?_
                  refine cm_l (pc := 67) hw79 (rn_M (As := [.ref (mr 64), .int v_83, .int x_66]) (rest := [.int v_75, .ref (mr 64)]) E hw79 (s_sumOf_64 l D cI cJ _ M mr mi (va_up mf 55 gfarOf_8) (va_up mg 64 g_67) v_83 x_66 h0 (by show 0 ≤ v_83.toInt ∧ v_83.toInt ≤ 9; omega) (by show 0 ≤ x_66.toInt ∧ x_66.toInt ≤ 9; omega)) (gdV q_2101 q_2103 q_143 q_162 q_2104) hdV_X12_sumOf ⟨rfl, rfl⟩ ⟨(Nat.le_of_ble_eq_true rfl), (Nat.le_of_ble_eq_true rfl)⟩ ⟨(Nat.le_of_ble_eq_true rfl), (Nat.le_of_ble_eq_true rfl)⟩ 12 rfl rfl rfl rfl hl70.1 rfl (Nat.le_of_ble_eq_true rfl) dX12_findsRows_67) (fun r_85 u_84 H1 locs hp hw86 => ?_)
                  generalize H1 = H at hw86 ⊢
                  have hw87 : WD D A s.heap (MW cI cJ M mr mi (va_up mf 55 gfarOf_8) (va_up mg 64 g_67)) H locs := hw86
                  refine x_lastO (pc := 70) (f := g_67) (wf := fun g => (MW cI cJ M mr mi (va_up mf 55 gfarOf_8) (va_up mg 64 g))) E hw87 36 rfl (inbE (a := v_75.toInt) rfl (by omega)) (fun _ => rfl) dX12_findsRows_70 (fun g_88 H locs hw89 => ?_)
                  obtain ⟨v_90, ev_90⟩ : ∃ z : Int32, x_66 + Int32.ofInt (1) = z := ⟨_, rfl⟩
                  have hv_90 : v_90.toInt = x_66.toInt + (1) := by rw [← ev_90]; exact incE rfl (by decide) (by omega)
                  refine lv_iinc (pc := 71) (v := v_90) (lv' := [(3, .int v_90), (2, .int x_12), (0, .ref M), (1, .int z_n)]) E.1 E.2.1 dX12_findsRows_71 hl70 (k := 0) rfl ev_90 (by decide) rfl (fun ls hl91 => ?_)
                  refine lv_goto (pc := 74) (tgt := 19) E.1 E.2.1 dX12_findsRows_74 (by decide) ?_
                  exact ih_68 v_90 g_88 _ _ _ ⟨(by show 0 ≤ v_90.toInt; omega), (by show v_90.toInt ≤ (mi 6).toInt; omega)⟩ (by omega) hw89 (lv_sub hl91 [0, 1, 2, 3] rfl)
                · skip
                  have hc_82 := eqE (a := x_12.toInt) (b := 0) rfl (by decide +kernel) c_82
                  refine lv_lconst (pc := 54) (v := 1) E.1 E.2.1 dX12_findsRows_54 (by decide +kernel) ?_
                  refine lv_goto (pc := 55) (tgt := 70) E.1 E.2.1 dX12_findsRows_55 (by decide) ?_
                  refine x_lastO (pc := 70) (f := g_67) (wf := fun g => (MW cI cJ M mr mi (va_up mf 55 gfarOf_8) (va_up mg 64 g))) E hw79 36 rfl (inbE (a := v_75.toInt) rfl (by omega)) (fun _ => rfl) dX12_findsRows_70 (fun g_92 H locs hw93 => ?_)
                  obtain ⟨v_94, ev_94⟩ : ∃ z : Int32, x_66 + Int32.ofInt (1) = z := ⟨_, rfl⟩
                  have hv_94 : v_94.toInt = x_66.toInt + (1) := by rw [← ev_94]; exact incE rfl (by decide) (by omega)
                  refine lv_iinc (pc := 71) (v := v_94) (lv' := [(3, .int v_94), (2, .int x_12), (0, .ref M), (1, .int z_n)]) E.1 E.2.1 dX12_findsRows_71 hl70 (k := 0) rfl ev_94 (by decide) rfl (fun ls hl95 => ?_)
                  refine lv_goto (pc := 74) (tgt := 19) E.1 E.2.1 dX12_findsRows_74 (by decide) ?_
                  exact ih_68 v_94 g_92 _ _ _ ⟨(by show 0 ≤ v_94.toInt; omega), (by show v_94.toInt ≤ (mi 6).toInt; omega)⟩ (by omega) hw93 (lv_sub hl95 [0, 1, 2, 3] rfl)
              · skip
                have hc_81 := eqE (a := r_77.toInt) (b := 0) rfl (by decide +kernel) c_81
                refine lv_lconst (pc := 46) (v := 0) E.1 E.2.1 dX12_findsRows_46 (by decide +kernel) ?_
                refine lv_goto (pc := 47) (tgt := 70) E.1 E.2.1 dX12_findsRows_47 (by decide) ?_
                refine x_lastO (pc := 70) (f := g_67) (wf := fun g => (MW cI cJ M mr mi (va_up mf 55 gfarOf_8) (va_up mg 64 g))) E hw79 36 rfl (inbE (a := v_75.toInt) rfl (by omega)) (fun _ => rfl) dX12_findsRows_70 (fun g_96 H locs hw97 => ?_)
                obtain ⟨v_98, ev_98⟩ : ∃ z : Int32, x_66 + Int32.ofInt (1) = z := ⟨_, rfl⟩
                have hv_98 : v_98.toInt = x_66.toInt + (1) := by rw [← ev_98]; exact incE rfl (by decide) (by omega)
                refine lv_iinc (pc := 71) (v := v_98) (lv' := [(3, .int v_98), (2, .int x_12), (0, .ref M), (1, .int z_n)]) E.1 E.2.1 dX12_findsRows_71 hl70 (k := 0) rfl ev_98 (by decide) rfl (fun ls hl99 => ?_)
                refine lv_goto (pc := 74) (tgt := 19) E.1 E.2.1 dX12_findsRows_74 (by decide) ?_
                exact ih_68 v_98 g_96 _ _ _ ⟨(by show 0 ≤ v_98.toInt; omega), (by show v_98.toInt ≤ (mi 6).toInt; omega)⟩ (by omega) hw97 (lv_sub hl99 [0, 1, 2, 3] rfl)
        exact loop_65 (Int.toNat ((mi 6).toInt - 0) + 1) 0 g_13 _ _ _ ⟨(by show 0 ≤ (0 : Int32).toInt; have k_0 : (0 : Int32).toInt = 0 := (by decide +kernel); omega), (by show (0 : Int32).toInt ≤ (mi 6).toInt; have k_0 : (0 : Int32).toInt = 0 := (by decide +kernel); omega)⟩ (by have k_0 : (0 : Int32).toInt = 0 := (by decide +kernel); omega) hw15 (lv_sub hl64 [0, 1, 2, 3] rfl)
  exact loop_11 (Int.toNat (z_n.toInt - 0) + 1) 0 (mg 64) _ _ _ ⟨(by show 0 ≤ (0 : Int32).toInt; have k_0 : (0 : Int32).toInt = 0 := (by decide +kernel); omega), (by show (0 : Int32).toInt ≤ z_n.toInt; have k_0 : (0 : Int32).toInt = 0 := (by decide +kernel); omega)⟩ (by have k_0 : (0 : Int32).toInt = 0 := (by decide +kernel); omega) hw9 (lv_sub hl10 [0, 1, 2] rfl)

set_option maxHeartbeats 4000000 in
set_option maxRecDepth 100000 in
theorem s_ways (l : Launch) (D : va_G) (cI cJ : ClassId) (sz M : Nat) (mr : Nat → Nat) (mi : Nat → Int32) (mf : Nat → Nat → Int32) (mg : Nat → Nat → Int64) (z_n : Int32) (h0 : 0 ≤ (mi 6).toInt ∧ (mi 6).toInt ≤ 10) (h1 : 0 ≤ (mi 17).toInt ∧ (mi 17).toInt ≤ 8) (h2 : 0 ≤ (mi 42).toInt ∧ (mi 42).toInt ≤ 40) (a_paths : pathsOK (mf 43)) : Met l yX12_ways (Cond.code yX12_ways cX12_ways 2 (some .long) :: GW) ({ frames := 5, cells := 0, slots := 0, locals := 131 } : Room) (va_Pc [.ref M, .int z_n] (PW D cI cJ sz (MW cI cJ M mr mi mf mg) xT)) (va_Ql (fun (r : Int64) (u : Int32 × (Nat → Int32) × (Nat → Int64) × (Nat → Int64)) => True) (fun u => QW D cI cJ (va_A (MW cI cJ M mr mi mf mg) sz) ((fun (u : Int32 × (Nat → Int32) × (Nat → Int64) × (Nat → Int64)) => (MW cI cJ M mr (upd mi 0 u.1) (va_up mf 55 u.2.1) (va_up (va_up mg 64 u.2.2.1) 65 u.2.2.2))) u)) (va_A (MW cI cJ M mr mi mf mg) sz)) 0 0 (va_A (MW cI cJ M mr mi mf mg) sz) := by
  refine mk_met (y := yX12_ways) (bytes := cX12_ways) (maxL := 2) (avs := [.ref M, .int z_n]) (WS := (MW cI cJ M mr mi mf mg)) (Qf := fun A => va_Ql (fun (r : Int64) (u : Int32 × (Nat → Int32) × (Nat → Int64) × (Nat → Int64)) => True) (fun u => QW D cI cJ A ((fun (u : Int32 × (Nat → Int32) × (Nat → Int64) × (Nat → Int64)) => (MW cI cJ M mr (upd mi 0 u.1) (va_up mf 55 u.2.1) (va_up (va_up mg 64 u.2.2.1) 65 u.2.2.2))) u)) A) (by decide) (Nat.le_of_ble_eq_true rfl) ?_
  intro p e s m below meth c A ls E hr hlk hnm hX hw1 hl2
  have hl3 : lv_has ls 2 [(0, .ref M), (1, .int z_n)] := hl2
  refine lv_aload_n (pc := 0) E.1 E.2.1 dX12_ways_0 rfl (lv_at hl3 0 rfl) ?_
  refine lv_iconst (pc := 1) (v := 0) E.1 E.2.1 dX12_ways_1 (by decide +kernel) ?_
  refine x_put (pc := 2) (T := TX12) (N := 70) (ci := 12) (ws' := (MW cI cJ M mr (upd mi 0 0) mf mg)) E hw1 inX12 tyX12_ok nmX12 0 0 q_1399 rfl rfl (by decide) rfl rfl rfl rfl (Nat.le_of_ble_eq_true rfl) rfl dX12_ways_2 (fun H locs hw4 => ?_)
  refine lv_aload_n (pc := 5) E.1 E.2.1 dX12_ways_5 rfl (lv_at hl3 0 rfl) ?_
  refine lv_iload_n (pc := 6) E.1 E.2.1 dX12_ways_6 rfl (lv_at hl3 1 rfl) ?_
  refine lv_iconst (pc := 7) (v := 1) E.1 E.2.1 dX12_ways_7 (by decide +kernel) ?_
  refine lv_bipush (pc := 8) (v := 10) E.1 E.2.1 dX12_ways_8 (by decide +kernel) ?_
  refine cm_i (pc := 10) hw4 (rn_M (As := [.int z_n, .int 1, .int 10]) (rest := []) E hw4 (s_isIn l D cI cJ _ M mr (upd mi 0 0) mf mg z_n 1 10) (gdV q_1622 q_1624 q_46 q_162 q_1625) hdV_X12_isIn ⟨rfl, rfl⟩ ⟨(Nat.le_of_ble_eq_true rfl), (Nat.le_of_ble_eq_true rfl)⟩ ⟨(Nat.le_of_ble_eq_true rfl), (Nat.le_of_ble_eq_true rfl)⟩ 12 rfl rfl rfl rfl hl3.1 rfl (Nat.le_of_ble_eq_true rfl) dX12_ways_10) (fun r_6 u_5 H1 locs hp hw7 => ?_)
  generalize H1 = H at hw7 ⊢
  have hw8 : WD D A s.heap (MW cI cJ M mr (upd mi 0 0) mf mg) H locs := hw7
  have hp_9 := hp
  rcases hp_9 with ⟨rfl, ha_10⟩ | ⟨rfl, ha_11⟩ | ⟨rfl, ha_12, ha_13⟩
  · skip
    have ha_10 : z_n.toInt < (1 : Int32).toInt := ha_10
    rw [show (1 : Int32).toInt = 1 from by decide +kernel] at ha_10
    refine lv_if_ne (pc := 13) (tgt := 20) E.1 E.2.1 dX12_ways_13 (by decide) (fun c_14 => absurd (meqE (a := 0) (b := 0) (by decide +kernel) (by decide +kernel) (by omega)) c_14) (fun _ => ?_)
    refine lv_ldc2 (pc := 16) (v := (-1)) E.1 E.2.1 E.2.2.2.1 (E.2.2.2.2.1 _ q_2092) dX12_ways_16 ?_
    exact em_l (w1 := (fun (u : Int32 × (Nat → Int32) × (Nat → Int64) × (Nat → Int64)) => (MW cI cJ M mr (upd mi 0 u.1) (va_up mf 55 u.2.1) (va_up (va_up mg 64 u.2.2.1) 65 u.2.2.2)))) E hr hlk (0, (mf 55), (mg 64), (mg 65)) hw8 trivial (Nat.le_of_ble_eq_true rfl) (Nat.le_of_ble_eq_true rfl) dX12_ways_19
  · skip
    have ha_11 : (10 : Int32).toInt < z_n.toInt := ha_11
    rw [show (10 : Int32).toInt = 10 from by decide +kernel] at ha_11
    refine lv_if_ne (pc := 13) (tgt := 20) E.1 E.2.1 dX12_ways_13 (by decide) (fun c_15 => absurd (meqE (a := 0) (b := 0) (by decide +kernel) (by decide +kernel) (by omega)) c_15) (fun _ => ?_)
    refine lv_ldc2 (pc := 16) (v := (-1)) E.1 E.2.1 E.2.2.2.1 (E.2.2.2.2.1 _ q_2092) dX12_ways_16 ?_
    exact em_l (w1 := (fun (u : Int32 × (Nat → Int32) × (Nat → Int64) × (Nat → Int64)) => (MW cI cJ M mr (upd mi 0 u.1) (va_up mf 55 u.2.1) (va_up (va_up mg 64 u.2.2.1) 65 u.2.2.2)))) E hr hlk (0, (mf 55), (mg 64), (mg 65)) hw8 trivial (Nat.le_of_ble_eq_true rfl) (Nat.le_of_ble_eq_true rfl) dX12_ways_19
  · skip
    have ha_12 : (1 : Int32).toInt ≤ z_n.toInt := ha_12
    rw [show (1 : Int32).toInt = 1 from by decide +kernel] at ha_12
    have ha_13 : z_n.toInt ≤ (10 : Int32).toInt := ha_13
    rw [show (10 : Int32).toInt = 10 from by decide +kernel] at ha_13
    refine lv_if_ne (pc := 13) (tgt := 20) E.1 E.2.1 dX12_ways_13 (by decide) (fun _ => ?_) (fun c_16 => absurd c_16 (mneE (a := 1) (b := 0) (by decide +kernel) (by decide +kernel) (by omega)))
    refine lv_aload_n (pc := 20) E.1 E.2.1 dX12_ways_20 rfl (lv_at hl3 0 rfl) ?_
    refine lv_iload_n (pc := 21) E.1 E.2.1 dX12_ways_21 rfl (lv_at hl3 1 rfl) ?_
    refine cm_v (pc := 22) hw8 (rn_M (As := [.int z_n]) (rest := []) E hw8 (s_findsRows l D cI cJ _ M mr (upd mi 0 0) mf mg z_n h0 h1 h2 (by show 1 ≤ z_n.toInt ∧ z_n.toInt ≤ 10; omega) a_paths) (gdV q_2093 q_2095 q_141 q_162 q_2096) hdV_X12_findsRows ⟨rfl, rfl⟩ ⟨(Nat.le_of_ble_eq_true rfl), (Nat.le_of_ble_eq_true rfl)⟩ ⟨(Nat.le_of_ble_eq_true rfl), (Nat.le_of_ble_eq_true rfl)⟩ 12 rfl rfl rfl rfl hl3.1 rfl (Nat.le_of_ble_eq_true rfl) dX12_ways_22) (fun u_17 H1 locs hp hw19 => ?_)
    obtain ⟨gfarOf_20, growsTo_21, growsFrom_22⟩ := u_17
    generalize H1 = H at hw19 ⊢
    have hw23 : WD D A s.heap (MW cI cJ M mr (upd mi 0 0) (va_up mf 55 gfarOf_20) (va_up (va_up mg 64 growsTo_21) 65 growsFrom_22)) H locs := hw19
    refine lv_aload_n (pc := 25) E.1 E.2.1 dX12_ways_25 rfl (lv_at hl3 0 rfl) ?_
    refine lv_iload_n (pc := 26) E.1 E.2.1 dX12_ways_26 rfl (lv_at hl3 1 rfl) ?_
    refine cm_l (pc := 27) hw23 (rn_M (As := [.int z_n]) (rest := []) E hw23 (s_allRows l D cI cJ _ M mr (upd mi 0 0) (va_up mf 55 gfarOf_20) (va_up (va_up mg 64 growsTo_21) 65 growsFrom_22) z_n h0 (by show 1 ≤ z_n.toInt ∧ z_n.toInt ≤ 10; omega)) (gdV q_2105 q_2107 q_144 q_162 q_2108) hdV_X12_allRows ⟨rfl, rfl⟩ ⟨(Nat.le_of_ble_eq_true rfl), (Nat.le_of_ble_eq_true rfl)⟩ ⟨(Nat.le_of_ble_eq_true rfl), (Nat.le_of_ble_eq_true rfl)⟩ 12 rfl rfl rfl rfl hl3.1 rfl (Nat.le_of_ble_eq_true rfl) dX12_ways_27) (fun r_25 u_24 H1 locs hp hw26 => ?_)
    generalize H1 = H at hw26 ⊢
    have hw27 : WD D A s.heap (MW cI cJ M mr (upd mi 0 0) (va_up mf 55 gfarOf_20) (va_up (va_up mg 64 growsTo_21) 65 growsFrom_22)) H locs := hw26
    exact em_l (w1 := (fun (u : Int32 × (Nat → Int32) × (Nat → Int64) × (Nat → Int64)) => (MW cI cJ M mr (upd mi 0 u.1) (va_up mf 55 u.2.1) (va_up (va_up mg 64 u.2.2.1) 65 u.2.2.2)))) E hr hlk (0, gfarOf_20, growsTo_21, growsFrom_22) hw27 trivial (Nat.le_of_ble_eq_true rfl) (Nat.le_of_ble_eq_true rfl) dX12_ways_30

set_option maxHeartbeats 4000000 in
set_option maxRecDepth 100000 in
theorem s_been (l : Launch) (D : va_G) (cI cJ : ClassId) (sz M : Nat) (mr : Nat → Nat) (mi : Nat → Int32) (mf : Nat → Nat → Int32) (mg : Nat → Nat → Int64) (z_n : Int32) (z_night : Int32) (h0 : 0 ≤ (mi 6).toInt ∧ (mi 6).toInt ≤ 10) (h1 : 0 ≤ (mi 17).toInt ∧ (mi 17).toInt ≤ 8) (h2 : 0 ≤ (mi 42).toInt ∧ (mi 42).toInt ≤ 40) (a_paths : pathsOK (mf 43)) : Met l yX12_been (Cond.code yX12_been cX12_been 5 (some .int) :: GW) ({ frames := 5, cells := 0, slots := 0, locals := 131 } : Room) (va_Pc [.ref M, .int z_n, .int z_night] (PW D cI cJ sz (MW cI cJ M mr mi mf mg) xT)) (va_Qi (fun (r : Int32) (u : Int32 × (Nat → Int32) × (Nat → Int64) × (Nat → Int64)) => True) (fun u => QW D cI cJ (va_A (MW cI cJ M mr mi mf mg) sz) ((fun (u : Int32 × (Nat → Int32) × (Nat → Int64) × (Nat → Int64)) => (MW cI cJ M mr (upd mi 0 u.1) (va_up mf 55 u.2.1) (va_up (va_up mg 64 u.2.2.1) 65 u.2.2.2))) u)) (va_A (MW cI cJ M mr mi mf mg) sz)) 0 0 (va_A (MW cI cJ M mr mi mf mg) sz) := by
  refine mk_met (y := yX12_been) (bytes := cX12_been) (maxL := 5) (avs := [.ref M, .int z_n, .int z_night]) (WS := (MW cI cJ M mr mi mf mg)) (Qf := fun A => va_Qi (fun (r : Int32) (u : Int32 × (Nat → Int32) × (Nat → Int64) × (Nat → Int64)) => True) (fun u => QW D cI cJ A ((fun (u : Int32 × (Nat → Int32) × (Nat → Int64) × (Nat → Int64)) => (MW cI cJ M mr (upd mi 0 u.1) (va_up mf 55 u.2.1) (va_up (va_up mg 64 u.2.2.1) 65 u.2.2.2))) u)) A) (by decide) (Nat.le_of_ble_eq_true rfl) ?_
  intro p e s m below meth c A ls E hr hlk hnm hX hw1 hl2
  have hl3 : lv_has ls 5 [(0, .ref M), (1, .int z_n), (2, .int z_night)] := hl2
  refine lv_aload_n (pc := 0) E.1 E.2.1 dX12_been_0 rfl (lv_at hl3 0 rfl) ?_
  refine lv_iconst (pc := 1) (v := 0) E.1 E.2.1 dX12_been_1 (by decide +kernel) ?_
  refine x_put (pc := 2) (T := TX12) (N := 70) (ci := 12) (ws' := (MW cI cJ M mr (upd mi 0 0) mf mg)) E hw1 inX12 tyX12_ok nmX12 0 0 q_1399 rfl rfl (by decide) rfl rfl rfl rfl (Nat.le_of_ble_eq_true rfl) rfl dX12_been_2 (fun H locs hw4 => ?_)
  refine lv_aload_n (pc := 5) E.1 E.2.1 dX12_been_5 rfl (lv_at hl3 0 rfl) ?_
  refine lv_iload_n (pc := 6) E.1 E.2.1 dX12_been_6 rfl (lv_at hl3 1 rfl) ?_
  refine lv_iconst (pc := 7) (v := 1) E.1 E.2.1 dX12_been_7 (by decide +kernel) ?_
  refine lv_bipush (pc := 8) (v := 10) E.1 E.2.1 dX12_been_8 (by decide +kernel) ?_
  refine cm_i (pc := 10) hw4 (rn_M (As := [.int z_n, .int 1, .int 10]) (rest := []) E hw4 (s_isIn l D cI cJ _ M mr (upd mi 0 0) mf mg z_n 1 10) (gdV q_1622 q_1624 q_46 q_162 q_1625) hdV_X12_isIn ⟨rfl, rfl⟩ ⟨(Nat.le_of_ble_eq_true rfl), (Nat.le_of_ble_eq_true rfl)⟩ ⟨(Nat.le_of_ble_eq_true rfl), (Nat.le_of_ble_eq_true rfl)⟩ 12 rfl rfl rfl rfl hl3.1 rfl (Nat.le_of_ble_eq_true rfl) dX12_been_10) (fun r_6 u_5 H1 locs hp hw7 => ?_)
  generalize H1 = H at hw7 ⊢
  have hw8 : WD D A s.heap (MW cI cJ M mr (upd mi 0 0) mf mg) H locs := hw7
  have hp_9 := hp
  rcases hp_9 with ⟨rfl, ha_10⟩ | ⟨rfl, ha_11⟩ | ⟨rfl, ha_12, ha_13⟩
  · skip
    have ha_10 : z_n.toInt < (1 : Int32).toInt := ha_10
    rw [show (1 : Int32).toInt = 1 from by decide +kernel] at ha_10
    refine lv_if_eq (pc := 13) (tgt := 28) E.1 E.2.1 dX12_been_13 (by decide) (fun _ => ?_) (fun c_14 => absurd (meqE (a := 0) (b := 0) (by decide +kernel) (by decide +kernel) (by omega)) c_14)
    refine lv_iconst (pc := 28) (v := (-1)) E.1 E.2.1 dX12_been_28 (by decide +kernel) ?_
    exact em_i (w1 := (fun (u : Int32 × (Nat → Int32) × (Nat → Int64) × (Nat → Int64)) => (MW cI cJ M mr (upd mi 0 u.1) (va_up mf 55 u.2.1) (va_up (va_up mg 64 u.2.2.1) 65 u.2.2.2)))) E hr hlk (0, (mf 55), (mg 64), (mg 65)) hw8 trivial (Nat.le_of_ble_eq_true rfl) (Nat.le_of_ble_eq_true rfl) dX12_been_29
  · skip
    have ha_11 : (10 : Int32).toInt < z_n.toInt := ha_11
    rw [show (10 : Int32).toInt = 10 from by decide +kernel] at ha_11
    refine lv_if_eq (pc := 13) (tgt := 28) E.1 E.2.1 dX12_been_13 (by decide) (fun _ => ?_) (fun c_15 => absurd (meqE (a := 0) (b := 0) (by decide +kernel) (by decide +kernel) (by omega)) c_15)
    refine lv_iconst (pc := 28) (v := (-1)) E.1 E.2.1 dX12_been_28 (by decide +kernel) ?_
    exact em_i (w1 := (fun (u : Int32 × (Nat → Int32) × (Nat → Int64) × (Nat → Int64)) => (MW cI cJ M mr (upd mi 0 u.1) (va_up mf 55 u.2.1) (va_up (va_up mg 64 u.2.2.1) 65 u.2.2.2)))) E hr hlk (0, (mf 55), (mg 64), (mg 65)) hw8 trivial (Nat.le_of_ble_eq_true rfl) (Nat.le_of_ble_eq_true rfl) dX12_been_29
  · skip
    have ha_12 : (1 : Int32).toInt ≤ z_n.toInt := ha_12
    rw [show (1 : Int32).toInt = 1 from by decide +kernel] at ha_12
    have ha_13 : z_n.toInt ≤ (10 : Int32).toInt := ha_13
    rw [show (10 : Int32).toInt = 10 from by decide +kernel] at ha_13
    refine lv_if_eq (pc := 13) (tgt := 28) E.1 E.2.1 dX12_been_13 (by decide) (fun c_16 => absurd c_16 (mneE (a := 1) (b := 0) (by decide +kernel) (by decide +kernel) (by omega))) (fun _ => ?_)
    refine lv_aload_n (pc := 16) E.1 E.2.1 dX12_been_16 rfl (lv_at hl3 0 rfl) ?_
    refine lv_iload_n (pc := 17) E.1 E.2.1 dX12_been_17 rfl (lv_at hl3 2 rfl) ?_
    refine lv_iconst (pc := 18) (v := 0) E.1 E.2.1 dX12_been_18 (by decide +kernel) ?_
    refine lv_iload_n (pc := 19) E.1 E.2.1 dX12_been_19 rfl (lv_at hl3 1 rfl) ?_
    refine lv_iconst (pc := 20) (v := 1) E.1 E.2.1 dX12_been_20 (by decide +kernel) ?_
    refine lv_isub (pc := 21) E.1 E.2.1 dX12_been_21 ?_
    refine lv_topi (fun v_17 ev_17 => ?_)
    have hv_17 : v_17.toInt = z_n.toInt - 1 := by rw [ev_17]; exact subE rfl (by decide +kernel) (by omega)
    refine cm_i (pc := 22) hw8 (rn_M (As := [.int z_night, .int 0, .int v_17]) (rest := []) E hw8 (s_isIn l D cI cJ _ M mr (upd mi 0 0) mf mg z_night 0 v_17) (gdV q_1622 q_1624 q_46 q_162 q_1625) hdV_X12_isIn ⟨rfl, rfl⟩ ⟨(Nat.le_of_ble_eq_true rfl), (Nat.le_of_ble_eq_true rfl)⟩ ⟨(Nat.le_of_ble_eq_true rfl), (Nat.le_of_ble_eq_true rfl)⟩ 12 rfl rfl rfl rfl hl3.1 rfl (Nat.le_of_ble_eq_true rfl) dX12_been_22) (fun r_19 u_18 H1 locs hp hw20 => ?_)
    generalize H1 = H at hw20 ⊢
    have hw21 : WD D A s.heap (MW cI cJ M mr (upd mi 0 0) mf mg) H locs := hw20
    have hp_22 := hp
    rcases hp_22 with ⟨rfl, ha_23⟩ | ⟨rfl, ha_24⟩ | ⟨rfl, ha_25, ha_26⟩
    · skip
      have ha_23 : z_night.toInt < (0 : Int32).toInt := ha_23
      rw [show (0 : Int32).toInt = 0 from by decide +kernel] at ha_23
      refine lv_if_ne (pc := 25) (tgt := 30) E.1 E.2.1 dX12_been_25 (by decide) (fun c_27 => absurd (meqE (a := 0) (b := 0) (by decide +kernel) (by decide +kernel) (by omega)) c_27) (fun _ => ?_)
      refine lv_iconst (pc := 28) (v := (-1)) E.1 E.2.1 dX12_been_28 (by decide +kernel) ?_
      exact em_i (w1 := (fun (u : Int32 × (Nat → Int32) × (Nat → Int64) × (Nat → Int64)) => (MW cI cJ M mr (upd mi 0 u.1) (va_up mf 55 u.2.1) (va_up (va_up mg 64 u.2.2.1) 65 u.2.2.2)))) E hr hlk (0, (mf 55), (mg 64), (mg 65)) hw21 trivial (Nat.le_of_ble_eq_true rfl) (Nat.le_of_ble_eq_true rfl) dX12_been_29
    · skip
      have ha_24 : v_17.toInt < z_night.toInt := ha_24
      refine lv_if_ne (pc := 25) (tgt := 30) E.1 E.2.1 dX12_been_25 (by decide) (fun c_28 => absurd (meqE (a := 0) (b := 0) (by decide +kernel) (by decide +kernel) (by omega)) c_28) (fun _ => ?_)
      refine lv_iconst (pc := 28) (v := (-1)) E.1 E.2.1 dX12_been_28 (by decide +kernel) ?_
      exact em_i (w1 := (fun (u : Int32 × (Nat → Int32) × (Nat → Int64) × (Nat → Int64)) => (MW cI cJ M mr (upd mi 0 u.1) (va_up mf 55 u.2.1) (va_up (va_up mg 64 u.2.2.1) 65 u.2.2.2)))) E hr hlk (0, (mf 55), (mg 64), (mg 65)) hw21 trivial (Nat.le_of_ble_eq_true rfl) (Nat.le_of_ble_eq_true rfl) dX12_been_29
    · skip
      have ha_25 : (0 : Int32).toInt ≤ z_night.toInt := ha_25
      rw [show (0 : Int32).toInt = 0 from by decide +kernel] at ha_25
      have ha_26 : z_night.toInt ≤ v_17.toInt := ha_26
      refine lv_if_ne (pc := 25) (tgt := 30) E.1 E.2.1 dX12_been_25 (by decide) (fun _ => ?_) (fun c_29 => absurd c_29 (mneE (a := 1) (b := 0) (by decide +kernel) (by decide +kernel) (by omega)))
      refine lv_aload_n (pc := 30) E.1 E.2.1 dX12_been_30 rfl (lv_at hl3 0 rfl) ?_
      refine lv_iload_n (pc := 31) E.1 E.2.1 dX12_been_31 rfl (lv_at hl3 1 rfl) ?_
      refine cm_v (pc := 32) hw21 (rn_M (As := [.int z_n]) (rest := []) E hw21 (s_findsRows l D cI cJ _ M mr (upd mi 0 0) mf mg z_n h0 h1 h2 (by show 1 ≤ z_n.toInt ∧ z_n.toInt ≤ 10; omega) a_paths) (gdV q_2093 q_2095 q_141 q_162 q_2096) hdV_X12_findsRows ⟨rfl, rfl⟩ ⟨(Nat.le_of_ble_eq_true rfl), (Nat.le_of_ble_eq_true rfl)⟩ ⟨(Nat.le_of_ble_eq_true rfl), (Nat.le_of_ble_eq_true rfl)⟩ 12 rfl rfl rfl rfl hl3.1 rfl (Nat.le_of_ble_eq_true rfl) dX12_been_32) (fun u_30 H1 locs hp hw32 => ?_)
      obtain ⟨gfarOf_33, growsTo_34, growsFrom_35⟩ := u_30
      generalize H1 = H at hw32 ⊢
      have hw36 : WD D A s.heap (MW cI cJ M mr (upd mi 0 0) (va_up mf 55 gfarOf_33) (va_up (va_up mg 64 growsTo_34) 65 growsFrom_35)) H locs := hw32
      refine lv_iconst (pc := 35) (v := 0) E.1 E.2.1 dX12_been_35 (by decide +kernel) ?_
      refine lv_istore_n (pc := 36) (lv' := [(3, .int 0), (0, .ref M), (1, .int z_n), (2, .int z_night)]) E.1 E.2.1 dX12_been_36 rfl hl3 (by decide) rfl (fun ls hl37 => ?_)
      refine lv_iconst (pc := 37) (v := 0) E.1 E.2.1 dX12_been_37 (by decide +kernel) ?_
      refine lv_istore (pc := 38) (lv' := [(4, .int 0), (3, .int 0), (0, .ref M), (1, .int z_n), (2, .int z_night)]) E.1 E.2.1 dX12_been_38 hl37 (by decide) rfl (fun ls hl38 => ?_)
      have loop_39 : ∀ (k : Nat) (x_40 : Int32) (x_41 : Int32) (H : Heap) (locs : List Loc) (ls : Array Slot), (0 ≤ x_40.toInt) ∧ (x_40.toInt ≤ (mi 6).toInt) → (mi 6).toInt - x_40.toInt < (k : Int) → WD D A s.heap (MW cI cJ M mr (upd mi 0 0) (va_up mf 55 gfarOf_33) (va_up (va_up mg 64 growsTo_34) 65 growsFrom_35)) H locs → lv_has ls 5 [(4, .int x_40), (3, .int x_41), (0, .ref M), (1, .int z_n), (2, .int z_night)] → W p l e ({ frames := 5, cells := 0, slots := 0, locals := 131 } : Room) s m ([.ref M, .int z_n, .int z_night] : List Value).toArray below meth c H locs 0 0 (MQ below (va_Qi (fun (r : Int32) (u : Int32 × (Nat → Int32) × (Nat → Int64) × (Nat → Int64)) => True) (fun u => QW D cI cJ A ((fun (u : Int32 × (Nat → Int32) × (Nat → Int64) × (Nat → Int64)) => (MW cI cJ M mr (upd mi 0 u.1) (va_up mf 55 u.2.1) (va_up (va_up mg 64 u.2.2.1) 65 u.2.2.2))) u)) A) ([.ref M, .int z_n, .int z_night] : List Value).toArray s 0 0 A) (F0 m 40 ls []) := by
        intro k
        induction k with
        | zero =>
          intro x_40 x_41 _ _ _ hinv hm
          obtain ⟨hi_41_0, hi_41_1⟩ := hinv
          exact absurd hm (by omega)
        | succ k ih_42 =>
          intro x_40 x_41 H locs ls hinv hm hw43 hl44
          obtain ⟨hi_41_0, hi_41_1⟩ := hinv
          refine lv_iload (pc := 40) E.1 E.2.1 dX12_been_40 (lv_at hl44 0 rfl) ?_
          refine lv_aload_n (pc := 42) E.1 E.2.1 dX12_been_42 rfl (lv_at hl44 2 rfl) ?_
          refine x_get (pc := 43) (T := TX12) (N := 70) (ci := 12) (v := .int (mi 6)) E hw43 inX12 0 6 q_1405 rfl rfl (by decide) rfl rfl dX12_been_43 ?_
          refine lv_icmp_ge (pc := 46) (tgt := 74) E.1 E.2.1 dX12_been_46 (by decide) (fun c_45 => ?_) (fun c_45 => ?_)
          · skip
            have hc_45 := leE (a := (mi 6).toInt) (b := x_40.toInt) rfl rfl c_45
            refine lv_iload_n (pc := 74) E.1 E.2.1 dX12_been_74 rfl (lv_at hl44 1 rfl) ?_
            exact em_i (w1 := (fun (u : Int32 × (Nat → Int32) × (Nat → Int64) × (Nat → Int64)) => (MW cI cJ M mr (upd mi 0 u.1) (va_up mf 55 u.2.1) (va_up (va_up mg 64 u.2.2.1) 65 u.2.2.2)))) E hr hlk (0, gfarOf_33, growsTo_34, growsFrom_35) hw43 trivial (Nat.le_of_ble_eq_true rfl) (Nat.le_of_ble_eq_true rfl) dX12_been_75
          · skip
            have hc_45 := nleE (a := (mi 6).toInt) (b := x_40.toInt) rfl rfl c_45
            refine lv_aload_n (pc := 49) E.1 E.2.1 dX12_been_49 rfl (lv_at hl44 2 rfl) ?_
            refine lv_iload_n (pc := 50) E.1 E.2.1 dX12_been_50 rfl (lv_at hl44 4 rfl) ?_
            refine lv_iload (pc := 51) E.1 E.2.1 dX12_been_51 (lv_at hl44 0 rfl) ?_
            refine cm_l (pc := 53) hw43 (rn_M (As := [.int z_night, .int x_40]) (rest := []) E hw43 (s_rowsBy l D cI cJ _ M mr (upd mi 0 0) (va_up mf 55 gfarOf_33) (va_up (va_up mg 64 growsTo_34) 65 growsFrom_35) z_night x_40 (by show 0 ≤ z_night.toInt ∧ z_night.toInt ≤ 9; omega) (by show 0 ≤ x_40.toInt ∧ x_40.toInt ≤ 9; omega)) (gdV q_2113 q_2115 q_145 q_162 q_2116) hdV_X12_rowsBy ⟨rfl, rfl⟩ ⟨(Nat.le_of_ble_eq_true rfl), (Nat.le_of_ble_eq_true rfl)⟩ ⟨(Nat.le_of_ble_eq_true rfl), (Nat.le_of_ble_eq_true rfl)⟩ 12 rfl rfl rfl rfl hl44.1 rfl (Nat.le_of_ble_eq_true rfl) dX12_been_53) (fun r_47 u_46 H1 locs hp hw48 => ?_)
            generalize H1 = H at hw48 ⊢
            have hw49 : WD D A s.heap (MW cI cJ M mr (upd mi 0 0) (va_up mf 55 gfarOf_33) (va_up (va_up mg 64 growsTo_34) 65 growsFrom_35)) H locs := hw48
            refine lv_lconst (pc := 56) (v := 0) E.1 E.2.1 dX12_been_56 (by decide +kernel) ?_
            refine W.lcmp (pc := 57) E.1 E.2.1 dX12_been_57 ?_
            refine lv_topi (fun v_50 ev_50 => ?_)
            refine lv_if_le (pc := 58) (tgt := 68) E.1 E.2.1 dX12_been_58 (by decide) (fun c_51 => ?_) (fun c_51 => ?_)
            · skip
              have hc_51 := leE (a := v_50.toInt) (b := 0) rfl (by decide +kernel) c_51
              obtain ⟨v_52, ev_52⟩ : ∃ z : Int32, x_40 + Int32.ofInt (1) = z := ⟨_, rfl⟩
              have hv_52 : v_52.toInt = x_40.toInt + (1) := by rw [← ev_52]; exact incE rfl (by decide) (by omega)
              refine lv_iinc (pc := 68) (v := v_52) (lv' := [(4, .int v_52), (3, .int x_41), (0, .ref M), (1, .int z_n), (2, .int z_night)]) E.1 E.2.1 dX12_been_68 hl44 (k := 0) rfl ev_52 (by decide) rfl (fun ls hl53 => ?_)
              refine lv_goto (pc := 71) (tgt := 40) E.1 E.2.1 dX12_been_71 (by decide) ?_
              exact ih_42 v_52 x_41 _ _ _ ⟨(by show 0 ≤ v_52.toInt; omega), (by show v_52.toInt ≤ (mi 6).toInt; omega)⟩ (by omega) hw49 (lv_sub hl53 [0, 1, 2, 3, 4] rfl)
            · skip
              have hc_51 := nleE (a := v_50.toInt) (b := 0) rfl (by decide +kernel) c_51
              refine lv_iload_n (pc := 61) E.1 E.2.1 dX12_been_61 rfl (lv_at hl44 1 rfl) ?_
              refine lv_iconst (pc := 62) (v := 1) E.1 E.2.1 dX12_been_62 (by decide +kernel) ?_
              refine lv_iload (pc := 63) E.1 E.2.1 dX12_been_63 (lv_at hl44 0 rfl) ?_
              refine lv_ishl (pc := 65) E.1 E.2.1 dX12_been_65 ?_
              refine lv_topi (fun v_54 ev_54 => ?_)
              refine lv_ior (pc := 66) E.1 E.2.1 dX12_been_66 ?_
              refine lv_topi (fun v_55 ev_55 => ?_)
              refine lv_istore_n (pc := 67) (lv' := [(3, .int v_55), (4, .int x_40), (0, .ref M), (1, .int z_n), (2, .int z_night)]) E.1 E.2.1 dX12_been_67 rfl hl44 (by decide) rfl (fun ls hl56 => ?_)
              obtain ⟨v_57, ev_57⟩ : ∃ z : Int32, x_40 + Int32.ofInt (1) = z := ⟨_, rfl⟩
              have hv_57 : v_57.toInt = x_40.toInt + (1) := by rw [← ev_57]; exact incE rfl (by decide) (by omega)
              refine lv_iinc (pc := 68) (v := v_57) (lv' := [(4, .int v_57), (3, .int v_55), (0, .ref M), (1, .int z_n), (2, .int z_night)]) E.1 E.2.1 dX12_been_68 hl56 (k := 1) rfl ev_57 (by decide) rfl (fun ls hl58 => ?_)
              refine lv_goto (pc := 71) (tgt := 40) E.1 E.2.1 dX12_been_71 (by decide) ?_
              exact ih_42 v_57 v_55 _ _ _ ⟨(by show 0 ≤ v_57.toInt; omega), (by show v_57.toInt ≤ (mi 6).toInt; omega)⟩ (by omega) hw49 (lv_sub hl58 [0, 1, 2, 3, 4] rfl)
      exact loop_39 (Int.toNat ((mi 6).toInt - 0) + 1) 0 0 _ _ _ ⟨(by show 0 ≤ (0 : Int32).toInt; have k_0 : (0 : Int32).toInt = 0 := (by decide +kernel); omega), (by show (0 : Int32).toInt ≤ (mi 6).toInt; have k_0 : (0 : Int32).toInt = 0 := (by decide +kernel); omega)⟩ (by have k_0 : (0 : Int32).toInt = 0 := (by decide +kernel); have k_1 : (0 : Int32).toInt = 0 := (by decide +kernel); omega) hw36 (lv_sub hl38 [0, 1, 2, 3, 4] rfl)

set_option maxHeartbeats 4000000 in
set_option maxRecDepth 100000 in
theorem s_sale (l : Launch) (D : va_G) (cI cJ : ClassId) (sz M : Nat) (mr : Nat → Nat) (mi : Nat → Int32) (mf : Nat → Nat → Int32) (mg : Nat → Nat → Int64) (z_what : Int32) (h0 : 0 ≤ (mi 6).toInt ∧ (mi 6).toInt ≤ 10) : Met l yX12_sale (Cond.code yX12_sale cX12_sale 4 (some .int) :: GW) ({ frames := 2, cells := 0, slots := 0, locals := 63 } : Room) (va_Pc [.ref M, .int z_what] (PW D cI cJ sz (MW cI cJ M mr mi mf mg) xT)) (va_Qi (fun (r : Int32) (u : Int32) => True) (fun u => QW D cI cJ (va_A (MW cI cJ M mr mi mf mg) sz) ((fun (u : Int32) => (MW cI cJ M mr (upd mi 0 u) mf mg)) u)) (va_A (MW cI cJ M mr mi mf mg) sz)) 0 0 (va_A (MW cI cJ M mr mi mf mg) sz) := by
  refine mk_met (y := yX12_sale) (bytes := cX12_sale) (maxL := 4) (avs := [.ref M, .int z_what]) (WS := (MW cI cJ M mr mi mf mg)) (Qf := fun A => va_Qi (fun (r : Int32) (u : Int32) => True) (fun u => QW D cI cJ A ((fun (u : Int32) => (MW cI cJ M mr (upd mi 0 u) mf mg)) u)) A) (by decide) (Nat.le_of_ble_eq_true rfl) ?_
  intro p e s m below meth c A ls E hr hlk hnm hX hw1 hl2
  have hl3 : lv_has ls 4 [(0, .ref M), (1, .int z_what)] := hl2
  refine lv_aload_n (pc := 0) E.1 E.2.1 dX12_sale_0 rfl (lv_at hl3 0 rfl) ?_
  refine lv_iconst (pc := 1) (v := 0) E.1 E.2.1 dX12_sale_1 (by decide +kernel) ?_
  refine x_put (pc := 2) (T := TX12) (N := 70) (ci := 12) (ws' := (MW cI cJ M mr (upd mi 0 0) mf mg)) E hw1 inX12 tyX12_ok nmX12 0 0 q_1399 rfl rfl (by decide) rfl rfl rfl rfl (Nat.le_of_ble_eq_true rfl) rfl dX12_sale_2 (fun H locs hw4 => ?_)
  refine lv_aload_n (pc := 5) E.1 E.2.1 dX12_sale_5 rfl (lv_at hl3 0 rfl) ?_
  refine lv_iconst (pc := 6) (v := (-1)) E.1 E.2.1 dX12_sale_6 (by decide +kernel) ?_
  refine cm_i (pc := 7) hw4 (rn_M (As := [.int (-1)]) (rest := []) E hw4 (s_highest l D cI cJ _ M mr (upd mi 0 0) mf mg (-1) h0) (gdV q_2054 q_2056 q_137 q_162 q_2057) hdV_X12_highest ⟨rfl, rfl⟩ ⟨(Nat.le_of_ble_eq_true rfl), (Nat.le_of_ble_eq_true rfl)⟩ ⟨(Nat.le_of_ble_eq_true rfl), (Nat.le_of_ble_eq_true rfl)⟩ 12 rfl rfl rfl rfl hl3.1 rfl (Nat.le_of_ble_eq_true rfl) dX12_sale_7) (fun r_6 u_5 H1 locs hp hw7 => ?_)
  generalize H1 = H at hw7 ⊢
  have hw8 : WD D A s.heap (MW cI cJ M mr (upd mi 0 0) mf mg) H locs := hw7
  obtain ⟨hp_9, hp_10⟩ := hp
  have hp_9 : (-1) ≤ r_6.toInt := hp_9
  have hp_10 : r_6.toInt ≤ (mi 6).toInt - 1 := hp_10
  refine lv_istore_n (pc := 10) (lv' := [(2, .int r_6), (0, .ref M), (1, .int z_what)]) E.1 E.2.1 dX12_sale_10 rfl hl3 (by decide) rfl (fun ls hl11 => ?_)
  refine lv_iload_n (pc := 11) E.1 E.2.1 dX12_sale_11 rfl (lv_at hl11 0 rfl) ?_
  refine lv_iconst (pc := 12) (v := (-1)) E.1 E.2.1 dX12_sale_12 (by decide +kernel) ?_
  refine lv_icmp_eq (pc := 13) (tgt := 20) E.1 E.2.1 dX12_sale_13 (by decide) (fun c_12 => ?_) (fun c_12 => ?_)
  · skip
    have hc_12 := eqE (a := r_6.toInt) (b := (-1)) rfl (by decide +kernel) c_12
    refine lv_iload_n (pc := 20) E.1 E.2.1 dX12_sale_20 rfl (lv_at hl11 2 rfl) ?_
    refine lv_if_ne (pc := 21) (tgt := 28) E.1 E.2.1 dX12_sale_21 (by decide) (fun c_13 => ?_) (fun c_13 => ?_)
    · skip
      have hc_13 := neE (a := z_what.toInt) (b := 0) rfl (by decide +kernel) c_13
      refine lv_iconst (pc := 28) (v := (-1)) E.1 E.2.1 dX12_sale_28 (by decide +kernel) ?_
      exact em_i (w1 := (fun (u : Int32) => (MW cI cJ M mr (upd mi 0 u) mf mg))) E hr hlk 0 hw8 trivial (Nat.le_of_ble_eq_true rfl) (Nat.le_of_ble_eq_true rfl) dX12_sale_29
    · skip
      have hc_13 := eqE (a := z_what.toInt) (b := 0) rfl (by decide +kernel) c_13
      refine lv_iload_n (pc := 24) E.1 E.2.1 dX12_sale_24 rfl (lv_at hl11 0 rfl) ?_
      refine lv_goto (pc := 25) (tgt := 29) E.1 E.2.1 dX12_sale_25 (by decide) ?_
      exact em_i (w1 := (fun (u : Int32) => (MW cI cJ M mr (upd mi 0 u) mf mg))) E hr hlk 0 hw8 trivial (Nat.le_of_ble_eq_true rfl) (Nat.le_of_ble_eq_true rfl) dX12_sale_29
  · skip
    have hc_12 := neE (a := r_6.toInt) (b := (-1)) rfl (by decide +kernel) c_12
    refine lv_iload_n (pc := 16) E.1 E.2.1 dX12_sale_16 rfl (lv_at hl11 2 rfl) ?_
    refine lv_if_ne (pc := 17) (tgt := 30) E.1 E.2.1 dX12_sale_17 (by decide) (fun c_14 => ?_) (fun c_14 => ?_)
    · skip
      have hc_14 := neE (a := z_what.toInt) (b := 0) rfl (by decide +kernel) c_14
      refine lv_aload_n (pc := 30) E.1 E.2.1 dX12_sale_30 rfl (lv_at hl11 1 rfl) ?_
      refine lv_iload_n (pc := 31) E.1 E.2.1 dX12_sale_31 rfl (lv_at hl11 0 rfl) ?_
      refine cm_i (pc := 32) hw8 (rn_M (As := [.int r_6]) (rest := []) E hw8 (s_highest l D cI cJ _ M mr (upd mi 0 0) mf mg r_6 h0) (gdV q_2054 q_2056 q_137 q_162 q_2057) hdV_X12_highest ⟨rfl, rfl⟩ ⟨(Nat.le_of_ble_eq_true rfl), (Nat.le_of_ble_eq_true rfl)⟩ ⟨(Nat.le_of_ble_eq_true rfl), (Nat.le_of_ble_eq_true rfl)⟩ 12 rfl rfl rfl rfl hl11.1 rfl (Nat.le_of_ble_eq_true rfl) dX12_sale_32) (fun r_16 u_15 H1 locs hp hw17 => ?_)
      generalize H1 = H at hw17 ⊢
      have hw18 : WD D A s.heap (MW cI cJ M mr (upd mi 0 0) mf mg) H locs := hw17
      obtain ⟨hp_19, hp_20⟩ := hp
      have hp_19 : (-1) ≤ r_16.toInt := hp_19
      have hp_20 : r_16.toInt ≤ (mi 6).toInt - 1 := hp_20
      refine lv_istore_n (pc := 35) (lv' := [(3, .int r_16), (2, .int r_6), (0, .ref M), (1, .int z_what)]) E.1 E.2.1 dX12_sale_35 rfl hl11 (by decide) rfl (fun ls hl21 => ?_)
      refine lv_iload_n (pc := 36) E.1 E.2.1 dX12_sale_36 rfl (lv_at hl21 3 rfl) ?_
      refine lv_iconst (pc := 37) (v := 1) E.1 E.2.1 dX12_sale_37 (by decide +kernel) ?_
      refine lv_icmp_ne (pc := 38) (tgt := 59) E.1 E.2.1 dX12_sale_38 (by decide) (fun c_22 => ?_) (fun c_22 => ?_)
      · skip
        have hc_22 := neE (a := z_what.toInt) (b := 1) rfl (by decide +kernel) c_22
        refine lv_iconst (pc := 59) (v := (-1)) E.1 E.2.1 dX12_sale_59 (by decide +kernel) ?_
        exact em_i (w1 := (fun (u : Int32) => (MW cI cJ M mr (upd mi 0 u) mf mg))) E hr hlk 0 hw18 trivial (Nat.le_of_ble_eq_true rfl) (Nat.le_of_ble_eq_true rfl) dX12_sale_60
      · skip
        have hc_22 := eqE (a := z_what.toInt) (b := 1) rfl (by decide +kernel) c_22
        refine lv_iload_n (pc := 41) E.1 E.2.1 dX12_sale_41 rfl (lv_at hl21 0 rfl) ?_
        refine lv_iconst (pc := 42) (v := (-1)) E.1 E.2.1 dX12_sale_42 (by decide +kernel) ?_
        refine lv_icmp_ne (pc := 43) (tgt := 50) E.1 E.2.1 dX12_sale_43 (by decide) (fun c_23 => ?_) (fun c_23 => ?_)
        · skip
          have hc_23 := neE (a := r_16.toInt) (b := (-1)) rfl (by decide +kernel) c_23
          refine lv_aload_n (pc := 50) E.1 E.2.1 dX12_sale_50 rfl (lv_at hl21 2 rfl) ?_
          refine x_get (pc := 51) (T := TX12) (N := 70) (ci := 12) (v := .ref (mr 9)) E hw18 inX12 0 9 q_1408 rfl rfl (by decide) rfl rfl dX12_sale_51 ?_
          refine lv_iload_n (pc := 54) E.1 E.2.1 dX12_sale_54 rfl (lv_at hl21 0 rfl) ?_
          refine x_iald (pc := 55) (f := (mf 9)) E hw18 6 rfl (inbE (a := r_16.toInt) rfl (by omega)) dX12_sale_55 ?_
          refine lv_topi (fun v_24 ev_24 => ?_)
          refine lv_goto (pc := 56) (tgt := 60) E.1 E.2.1 dX12_sale_56 (by decide) ?_
          exact em_i (w1 := (fun (u : Int32) => (MW cI cJ M mr (upd mi 0 u) mf mg))) E hr hlk 0 hw18 trivial (Nat.le_of_ble_eq_true rfl) (Nat.le_of_ble_eq_true rfl) dX12_sale_60
        · skip
          have hc_23 := eqE (a := r_16.toInt) (b := (-1)) rfl (by decide +kernel) c_23
          refine lv_iconst (pc := 46) (v := 0) E.1 E.2.1 dX12_sale_46 (by decide +kernel) ?_
          refine lv_goto (pc := 47) (tgt := 60) E.1 E.2.1 dX12_sale_47 (by decide) ?_
          exact em_i (w1 := (fun (u : Int32) => (MW cI cJ M mr (upd mi 0 u) mf mg))) E hr hlk 0 hw18 trivial (Nat.le_of_ble_eq_true rfl) (Nat.le_of_ble_eq_true rfl) dX12_sale_60
    · skip
      have hc_14 := eqE (a := z_what.toInt) (b := 0) rfl (by decide +kernel) c_14
      refine lv_iload_n (pc := 20) E.1 E.2.1 dX12_sale_20 rfl (lv_at hl11 2 rfl) ?_
      refine lv_if_ne (pc := 21) (tgt := 28) E.1 E.2.1 dX12_sale_21 (by decide) (fun c_25 => absurd (meqE (a := z_what.toInt) (b := 0) rfl (by decide +kernel) (by omega)) c_25) (fun _ => ?_)
      refine lv_iload_n (pc := 24) E.1 E.2.1 dX12_sale_24 rfl (lv_at hl11 0 rfl) ?_
      refine lv_goto (pc := 25) (tgt := 29) E.1 E.2.1 dX12_sale_25 (by decide) ?_
      exact em_i (w1 := (fun (u : Int32) => (MW cI cJ M mr (upd mi 0 u) mf mg))) E hr hlk 0 hw8 trivial (Nat.le_of_ble_eq_true rfl) (Nat.le_of_ble_eq_true rfl) dX12_sale_29

set_option maxHeartbeats 4000000 in
set_option maxRecDepth 100000 in
theorem s_need (l : Launch) (D : va_G) (cI cJ : ClassId) (sz M : Nat) (mr : Nat → Nat) (mi : Nat → Int32) (mf : Nat → Nat → Int32) (mg : Nat → Nat → Int64) (z_i : Int32) (z_what : Int32) (h0 : 0 ≤ (mi 44).toInt ∧ (mi 44).toInt ≤ 10) : Met l yX12_need (Cond.code yX12_need cX12_need 3 (some .int) :: GW) ({ frames := 3, cells := 0, slots := 0, locals := 84 } : Room) (va_Pc [.ref M, .int z_i, .int z_what] (PW D cI cJ sz (MW cI cJ M mr mi mf mg) xT)) (va_Qi (fun (r : Int32) (u : Int32) => True) (fun u => QW D cI cJ (va_A (MW cI cJ M mr mi mf mg) sz) ((fun (u : Int32) => (MW cI cJ M mr (upd mi 0 u) mf mg)) u)) (va_A (MW cI cJ M mr mi mf mg) sz)) 0 0 (va_A (MW cI cJ M mr mi mf mg) sz) := by
  refine mk_met (y := yX12_need) (bytes := cX12_need) (maxL := 3) (avs := [.ref M, .int z_i, .int z_what]) (WS := (MW cI cJ M mr mi mf mg)) (Qf := fun A => va_Qi (fun (r : Int32) (u : Int32) => True) (fun u => QW D cI cJ A ((fun (u : Int32) => (MW cI cJ M mr (upd mi 0 u) mf mg)) u)) A) (by decide) (Nat.le_of_ble_eq_true rfl) ?_
  intro p e s m below meth c A ls E hr hlk hnm hX hw1 hl2
  have hl3 : lv_has ls 3 [(0, .ref M), (1, .int z_i), (2, .int z_what)] := hl2
  refine lv_aload_n (pc := 0) E.1 E.2.1 dX12_need_0 rfl (lv_at hl3 0 rfl) ?_
  refine lv_iconst (pc := 1) (v := 0) E.1 E.2.1 dX12_need_1 (by decide +kernel) ?_
  refine x_put (pc := 2) (T := TX12) (N := 70) (ci := 12) (ws' := (MW cI cJ M mr (upd mi 0 0) mf mg)) E hw1 inX12 tyX12_ok nmX12 0 0 q_1399 rfl rfl (by decide) rfl rfl rfl rfl (Nat.le_of_ble_eq_true rfl) rfl dX12_need_2 (fun H locs hw4 => ?_)
  refine lv_aload_n (pc := 5) E.1 E.2.1 dX12_need_5 rfl (lv_at hl3 0 rfl) ?_
  refine lv_iload_n (pc := 6) E.1 E.2.1 dX12_need_6 rfl (lv_at hl3 1 rfl) ?_
  refine lv_iconst (pc := 7) (v := 0) E.1 E.2.1 dX12_need_7 (by decide +kernel) ?_
  refine lv_aload_n (pc := 8) E.1 E.2.1 dX12_need_8 rfl (lv_at hl3 0 rfl) ?_
  refine x_get (pc := 9) (T := TX12) (N := 70) (ci := 12) (v := .int (mi 44)) E hw4 inX12 0 44 q_1443 rfl rfl (by decide) rfl rfl dX12_need_9 ?_
  refine lv_iconst (pc := 12) (v := 1) E.1 E.2.1 dX12_need_12 (by decide +kernel) ?_
  refine lv_isub (pc := 13) E.1 E.2.1 dX12_need_13 ?_
  refine lv_topi (fun v_5 ev_5 => ?_)
  have hv_5 : v_5.toInt = (mi 44).toInt - 1 := by rw [ev_5]; exact subE rfl (by decide +kernel) (by omega)
  refine cm_i (pc := 14) hw4 (rn_M (As := [.int z_i, .int 0, .int v_5]) (rest := []) E hw4 (s_isIn l D cI cJ _ M mr (upd mi 0 0) mf mg z_i 0 v_5) (gdV q_1622 q_1624 q_46 q_162 q_1625) hdV_X12_isIn ⟨rfl, rfl⟩ ⟨(Nat.le_of_ble_eq_true rfl), (Nat.le_of_ble_eq_true rfl)⟩ ⟨(Nat.le_of_ble_eq_true rfl), (Nat.le_of_ble_eq_true rfl)⟩ 12 rfl rfl rfl rfl hl3.1 rfl (Nat.le_of_ble_eq_true rfl) dX12_need_14) (fun r_7 u_6 H1 locs hp hw8 => ?_)
  generalize H1 = H at hw8 ⊢
  have hw9 : WD D A s.heap (MW cI cJ M mr (upd mi 0 0) mf mg) H locs := hw8
  have hp_10 := hp
  rcases hp_10 with ⟨rfl, ha_11⟩ | ⟨rfl, ha_12⟩ | ⟨rfl, ha_13, ha_14⟩
  · skip
    have ha_11 : z_i.toInt < (0 : Int32).toInt := ha_11
    rw [show (0 : Int32).toInt = 0 from by decide +kernel] at ha_11
    refine lv_if_eq (pc := 17) (tgt := 31) E.1 E.2.1 dX12_need_17 (by decide) (fun _ => ?_) (fun c_15 => absurd (meqE (a := 0) (b := 0) (by decide +kernel) (by decide +kernel) (by omega)) c_15)
    refine lv_bipush (pc := 31) (v := (-2)) E.1 E.2.1 dX12_need_31 (by decide +kernel) ?_
    exact em_i (w1 := (fun (u : Int32) => (MW cI cJ M mr (upd mi 0 u) mf mg))) E hr hlk 0 hw9 trivial (Nat.le_of_ble_eq_true rfl) (Nat.le_of_ble_eq_true rfl) dX12_need_33
  · skip
    have ha_12 : v_5.toInt < z_i.toInt := ha_12
    refine lv_if_eq (pc := 17) (tgt := 31) E.1 E.2.1 dX12_need_17 (by decide) (fun _ => ?_) (fun c_16 => absurd (meqE (a := 0) (b := 0) (by decide +kernel) (by decide +kernel) (by omega)) c_16)
    refine lv_bipush (pc := 31) (v := (-2)) E.1 E.2.1 dX12_need_31 (by decide +kernel) ?_
    exact em_i (w1 := (fun (u : Int32) => (MW cI cJ M mr (upd mi 0 u) mf mg))) E hr hlk 0 hw9 trivial (Nat.le_of_ble_eq_true rfl) (Nat.le_of_ble_eq_true rfl) dX12_need_33
  · skip
    have ha_13 : (0 : Int32).toInt ≤ z_i.toInt := ha_13
    rw [show (0 : Int32).toInt = 0 from by decide +kernel] at ha_13
    have ha_14 : z_i.toInt ≤ v_5.toInt := ha_14
    refine lv_if_eq (pc := 17) (tgt := 31) E.1 E.2.1 dX12_need_17 (by decide) (fun c_17 => absurd c_17 (mneE (a := 1) (b := 0) (by decide +kernel) (by decide +kernel) (by omega))) (fun _ => ?_)
    refine lv_aload_n (pc := 20) E.1 E.2.1 dX12_need_20 rfl (lv_at hl3 0 rfl) ?_
    refine lv_iload_n (pc := 21) E.1 E.2.1 dX12_need_21 rfl (lv_at hl3 2 rfl) ?_
    refine lv_iconst (pc := 22) (v := 0) E.1 E.2.1 dX12_need_22 (by decide +kernel) ?_
    refine lv_bipush (pc := 23) (v := 7) E.1 E.2.1 dX12_need_23 (by decide +kernel) ?_
    refine cm_i (pc := 25) hw9 (rn_M (As := [.int z_what, .int 0, .int 7]) (rest := []) E hw9 (s_isIn l D cI cJ _ M mr (upd mi 0 0) mf mg z_what 0 7) (gdV q_1622 q_1624 q_46 q_162 q_1625) hdV_X12_isIn ⟨rfl, rfl⟩ ⟨(Nat.le_of_ble_eq_true rfl), (Nat.le_of_ble_eq_true rfl)⟩ ⟨(Nat.le_of_ble_eq_true rfl), (Nat.le_of_ble_eq_true rfl)⟩ 12 rfl rfl rfl rfl hl3.1 rfl (Nat.le_of_ble_eq_true rfl) dX12_need_25) (fun r_19 u_18 H1 locs hp hw20 => ?_)
    generalize H1 = H at hw20 ⊢
    have hw21 : WD D A s.heap (MW cI cJ M mr (upd mi 0 0) mf mg) H locs := hw20
    have hp_22 := hp
    rcases hp_22 with ⟨rfl, ha_23⟩ | ⟨rfl, ha_24⟩ | ⟨rfl, ha_25, ha_26⟩
    · skip
      have ha_23 : z_what.toInt < (0 : Int32).toInt := ha_23
      rw [show (0 : Int32).toInt = 0 from by decide +kernel] at ha_23
      refine lv_if_ne (pc := 28) (tgt := 34) E.1 E.2.1 dX12_need_28 (by decide) (fun c_27 => absurd (meqE (a := 0) (b := 0) (by decide +kernel) (by decide +kernel) (by omega)) c_27) (fun _ => ?_)
      refine lv_bipush (pc := 31) (v := (-2)) E.1 E.2.1 dX12_need_31 (by decide +kernel) ?_
      exact em_i (w1 := (fun (u : Int32) => (MW cI cJ M mr (upd mi 0 u) mf mg))) E hr hlk 0 hw21 trivial (Nat.le_of_ble_eq_true rfl) (Nat.le_of_ble_eq_true rfl) dX12_need_33
    · skip
      have ha_24 : (7 : Int32).toInt < z_what.toInt := ha_24
      rw [show (7 : Int32).toInt = 7 from by decide +kernel] at ha_24
      refine lv_if_ne (pc := 28) (tgt := 34) E.1 E.2.1 dX12_need_28 (by decide) (fun c_28 => absurd (meqE (a := 0) (b := 0) (by decide +kernel) (by decide +kernel) (by omega)) c_28) (fun _ => ?_)
      refine lv_bipush (pc := 31) (v := (-2)) E.1 E.2.1 dX12_need_31 (by decide +kernel) ?_
      exact em_i (w1 := (fun (u : Int32) => (MW cI cJ M mr (upd mi 0 u) mf mg))) E hr hlk 0 hw21 trivial (Nat.le_of_ble_eq_true rfl) (Nat.le_of_ble_eq_true rfl) dX12_need_33
    · skip
      have ha_25 : (0 : Int32).toInt ≤ z_what.toInt := ha_25
      rw [show (0 : Int32).toInt = 0 from by decide +kernel] at ha_25
      have ha_26 : z_what.toInt ≤ (7 : Int32).toInt := ha_26
      rw [show (7 : Int32).toInt = 7 from by decide +kernel] at ha_26
      refine lv_if_ne (pc := 28) (tgt := 34) E.1 E.2.1 dX12_need_28 (by decide) (fun _ => ?_) (fun c_29 => absurd c_29 (mneE (a := 1) (b := 0) (by decide +kernel) (by decide +kernel) (by omega)))
      refine lv_iload_n (pc := 34) E.1 E.2.1 dX12_need_34 rfl (lv_at hl3 2 rfl) ?_
      refine lv_iconst (pc := 35) (v := 5) E.1 E.2.1 dX12_need_35 (by decide +kernel) ?_
      refine lv_icmp_ge (pc := 36) (tgt := 46) E.1 E.2.1 dX12_need_36 (by decide) (fun c_30 => ?_) (fun c_30 => ?_)
      · skip
        have hc_30 := leE (a := 5) (b := z_what.toInt) (by decide +kernel) rfl c_30
        refine lv_iload_n (pc := 46) E.1 E.2.1 dX12_need_46 rfl (lv_at hl3 2 rfl) ?_
        refine lv_iconst (pc := 47) (v := 5) E.1 E.2.1 dX12_need_47 (by decide +kernel) ?_
        refine lv_icmp_ne (pc := 48) (tgt := 65) E.1 E.2.1 dX12_need_48 (by decide) (fun c_31 => ?_) (fun c_31 => ?_)
        · skip
          have hc_31 := neE (a := z_what.toInt) (b := 5) rfl (by decide +kernel) c_31
          refine lv_iload_n (pc := 65) E.1 E.2.1 dX12_need_65 rfl (lv_at hl3 2 rfl) ?_
          refine lv_bipush (pc := 66) (v := 6) E.1 E.2.1 dX12_need_66 (by decide +kernel) ?_
          refine lv_icmp_ne (pc := 68) (tgt := 83) E.1 E.2.1 dX12_need_68 (by decide) (fun c_32 => ?_) (fun c_32 => ?_)
          · skip
            have hc_32 := neE (a := z_what.toInt) (b := 6) rfl (by decide +kernel) c_32
            refine lv_aload_n (pc := 83) E.1 E.2.1 dX12_need_83 rfl (lv_at hl3 0 rfl) ?_
            refine lv_iload_n (pc := 84) E.1 E.2.1 dX12_need_84 rfl (lv_at hl3 1 rfl) ?_
            refine cm_i (pc := 85) hw21 (rn_M (As := [.int z_i]) (rest := []) E hw21 (s_isOpen l D cI cJ _ M mr (upd mi 0 0) mf mg z_i (by show 0 ≤ z_i.toInt ∧ z_i.toInt ≤ 9; omega)) (gdV q_1875 q_1877 q_101 q_162 q_1878) hdV_X12_isOpen ⟨rfl, rfl⟩ ⟨(Nat.le_of_ble_eq_true rfl), (Nat.le_of_ble_eq_true rfl)⟩ ⟨(Nat.le_of_ble_eq_true rfl), (Nat.le_of_ble_eq_true rfl)⟩ 12 rfl rfl rfl rfl hl3.1 rfl (Nat.le_of_ble_eq_true rfl) dX12_need_85) (fun r_34 u_33 H1 locs hp hw35 => ?_)
            generalize H1 = H at hw35 ⊢
            have hw36 : WD D A s.heap (MW cI cJ M mr (upd mi 0 0) mf mg) H locs := hw35
            have hp_37 := hp
            have hp_37 : 0 ≤ r_34.toInt ∧ r_34.toInt ≤ 1 := hp_37
            refine lv_if_eq (pc := 88) (tgt := 95) E.1 E.2.1 dX12_need_88 (by decide) (fun c_38 => ?_) (fun c_38 => ?_)
            · skip
              have hc_38 := eqE (a := r_34.toInt) (b := 0) rfl (by decide +kernel) c_38
              refine lv_iconst (pc := 95) (v := 0) E.1 E.2.1 dX12_need_95 (by decide +kernel) ?_
              exact em_i (w1 := (fun (u : Int32) => (MW cI cJ M mr (upd mi 0 u) mf mg))) E hr hlk 0 hw36 trivial (Nat.le_of_ble_eq_true rfl) (Nat.le_of_ble_eq_true rfl) dX12_need_96
            · skip
              have hc_38 := neE (a := r_34.toInt) (b := 0) rfl (by decide +kernel) c_38
              refine lv_iconst (pc := 91) (v := 1) E.1 E.2.1 dX12_need_91 (by decide +kernel) ?_
              refine lv_goto (pc := 92) (tgt := 96) E.1 E.2.1 dX12_need_92 (by decide) ?_
              exact em_i (w1 := (fun (u : Int32) => (MW cI cJ M mr (upd mi 0 u) mf mg))) E hr hlk 0 hw36 trivial (Nat.le_of_ble_eq_true rfl) (Nat.le_of_ble_eq_true rfl) dX12_need_96
          · skip
            have hc_32 := eqE (a := z_what.toInt) (b := 6) rfl (by decide +kernel) c_32
            refine lv_aload_n (pc := 71) E.1 E.2.1 dX12_need_71 rfl (lv_at hl3 0 rfl) ?_
            refine x_get (pc := 72) (T := TX12) (N := 70) (ci := 12) (v := .ref (mr 1)) E hw21 inX12 0 1 q_1400 rfl rfl (by decide) rfl rfl dX12_need_72 ?_
            refine lv_bipush (pc := 75) (v := 56) E.1 E.2.1 dX12_need_75 (by decide +kernel) ?_
            refine lv_iload_n (pc := 77) E.1 E.2.1 dX12_need_77 rfl (lv_at hl3 1 rfl) ?_
            refine lv_iadd (pc := 78) E.1 E.2.1 dX12_need_78 ?_
            refine lv_topi (fun v_39 ev_39 => ?_)
            have hv_39 : v_39.toInt = 56 + z_i.toInt := by rw [ev_39]; exact addE (by decide +kernel) rfl (by omega)
            refine x_iald (pc := 79) (f := (mf 1)) E hw21 1 rfl (inbE (a := v_39.toInt) rfl (by omega)) dX12_need_79 ?_
            refine lv_topi (fun v_40 ev_40 => ?_)
            refine lv_goto (pc := 80) (tgt := 96) E.1 E.2.1 dX12_need_80 (by decide) ?_
            exact em_i (w1 := (fun (u : Int32) => (MW cI cJ M mr (upd mi 0 u) mf mg))) E hr hlk 0 hw21 trivial (Nat.le_of_ble_eq_true rfl) (Nat.le_of_ble_eq_true rfl) dX12_need_96
        · skip
          have hc_31 := eqE (a := z_what.toInt) (b := 5) rfl (by decide +kernel) c_31
          refine lv_aload_n (pc := 51) E.1 E.2.1 dX12_need_51 rfl (lv_at hl3 0 rfl) ?_
          refine x_get (pc := 52) (T := TX12) (N := 70) (ci := 12) (v := .ref (mr 1)) E hw21 inX12 0 1 q_1400 rfl rfl (by decide) rfl rfl dX12_need_52 ?_
          refine lv_bipush (pc := 55) (v := 46) E.1 E.2.1 dX12_need_55 (by decide +kernel) ?_
          refine lv_iload_n (pc := 57) E.1 E.2.1 dX12_need_57 rfl (lv_at hl3 1 rfl) ?_
          refine lv_iadd (pc := 58) E.1 E.2.1 dX12_need_58 ?_
          refine lv_topi (fun v_41 ev_41 => ?_)
          have hv_41 : v_41.toInt = 46 + z_i.toInt := by rw [ev_41]; exact addE (by decide +kernel) rfl (by omega)
          refine x_iald (pc := 59) (f := (mf 1)) E hw21 1 rfl (inbE (a := v_41.toInt) rfl (by omega)) dX12_need_59 ?_
          refine lv_topi (fun v_42 ev_42 => ?_)
          refine lv_iconst (pc := 60) (v := 1) E.1 E.2.1 dX12_need_60 (by decide +kernel) ?_
          refine lv_isub (pc := 61) E.1 E.2.1 dX12_need_61 ?_
          refine lv_topi (fun v_43 ev_43 => ?_)
          refine lv_goto (pc := 62) (tgt := 96) E.1 E.2.1 dX12_need_62 (by decide) ?_
          exact em_i (w1 := (fun (u : Int32) => (MW cI cJ M mr (upd mi 0 u) mf mg))) E hr hlk 0 hw21 trivial (Nat.le_of_ble_eq_true rfl) (Nat.le_of_ble_eq_true rfl) dX12_need_96
      · skip
        have hc_30 := nleE (a := 5) (b := z_what.toInt) (by decide +kernel) rfl c_30
        refine lv_aload_n (pc := 39) E.1 E.2.1 dX12_need_39 rfl (lv_at hl3 0 rfl) ?_
        refine lv_iload_n (pc := 40) E.1 E.2.1 dX12_need_40 rfl (lv_at hl3 1 rfl) ?_
        refine lv_iload_n (pc := 41) E.1 E.2.1 dX12_need_41 rfl (lv_at hl3 2 rfl) ?_
        refine cm_i (pc := 42) hw21 (rn_M (As := [.int z_i, .int z_what]) (rest := []) E hw21 (s_ofNeed l D cI cJ _ M mr (upd mi 0 0) mf mg z_i z_what (by show 0 ≤ z_i.toInt ∧ z_i.toInt ≤ 9; omega) (by show 0 ≤ z_what.toInt ∧ z_what.toInt ≤ 4; omega)) (gdV q_1871 q_1873 q_100 q_162 q_1874) hdV_X12_ofNeed ⟨rfl, rfl⟩ ⟨(Nat.le_of_ble_eq_true rfl), (Nat.le_of_ble_eq_true rfl)⟩ ⟨(Nat.le_of_ble_eq_true rfl), (Nat.le_of_ble_eq_true rfl)⟩ 12 rfl rfl rfl rfl hl3.1 rfl (Nat.le_of_ble_eq_true rfl) dX12_need_42) (fun r_45 u_44 H1 locs hp hw46 => ?_)
        generalize H1 = H at hw46 ⊢
        have hw47 : WD D A s.heap (MW cI cJ M mr (upd mi 0 0) mf mg) H locs := hw46
        exact em_i (w1 := (fun (u : Int32) => (MW cI cJ M mr (upd mi 0 u) mf mg))) E hr hlk 0 hw47 trivial (Nat.le_of_ble_eq_true rfl) (Nat.le_of_ble_eq_true rfl) dX12_need_45

set_option maxHeartbeats 4000000 in
set_option maxRecDepth 100000 in
theorem s_book (l : Launch) (D : va_G) (cI cJ : ClassId) (sz M : Nat) (mr : Nat → Nat) (mi : Nat → Int32) (mf : Nat → Nat → Int32) (mg : Nat → Nat → Int64) (z_i : Int32) (z_what : Int32) (h0 : 0 ≤ ((mf 1) 2).toInt ∧ ((mf 1) 2).toInt ≤ 150) : Met l yX12_book (Cond.code yX12_book cX12_book 3 (some .int) :: GW) ({ frames := 2, cells := 0, slots := 0, locals := 63 } : Room) (va_Pc [.ref M, .int z_i, .int z_what] (PW D cI cJ sz (MW cI cJ M mr mi mf mg) xT)) (va_Qi (fun (r : Int32) (u : Int32) => True) (fun u => QW D cI cJ (va_A (MW cI cJ M mr mi mf mg) sz) ((fun (u : Int32) => (MW cI cJ M mr (upd mi 0 u) mf mg)) u)) (va_A (MW cI cJ M mr mi mf mg) sz)) 0 0 (va_A (MW cI cJ M mr mi mf mg) sz) := by
  refine mk_met (y := yX12_book) (bytes := cX12_book) (maxL := 3) (avs := [.ref M, .int z_i, .int z_what]) (WS := (MW cI cJ M mr mi mf mg)) (Qf := fun A => va_Qi (fun (r : Int32) (u : Int32) => True) (fun u => QW D cI cJ A ((fun (u : Int32) => (MW cI cJ M mr (upd mi 0 u) mf mg)) u)) A) (by decide) (Nat.le_of_ble_eq_true rfl) ?_
  intro p e s m below meth c A ls E hr hlk hnm hX hw1 hl2
  have hl3 : lv_has ls 3 [(0, .ref M), (1, .int z_i), (2, .int z_what)] := hl2
  refine lv_aload_n (pc := 0) E.1 E.2.1 dX12_book_0 rfl (lv_at hl3 0 rfl) ?_
  refine lv_iconst (pc := 1) (v := 0) E.1 E.2.1 dX12_book_1 (by decide +kernel) ?_
  refine x_put (pc := 2) (T := TX12) (N := 70) (ci := 12) (ws' := (MW cI cJ M mr (upd mi 0 0) mf mg)) E hw1 inX12 tyX12_ok nmX12 0 0 q_1399 rfl rfl (by decide) rfl rfl rfl rfl (Nat.le_of_ble_eq_true rfl) rfl dX12_book_2 (fun H locs hw4 => ?_)
  refine lv_aload_n (pc := 5) E.1 E.2.1 dX12_book_5 rfl (lv_at hl3 0 rfl) ?_
  refine lv_iload_n (pc := 6) E.1 E.2.1 dX12_book_6 rfl (lv_at hl3 1 rfl) ?_
  refine lv_iconst (pc := 7) (v := 0) E.1 E.2.1 dX12_book_7 (by decide +kernel) ?_
  refine lv_aload_n (pc := 8) E.1 E.2.1 dX12_book_8 rfl (lv_at hl3 0 rfl) ?_
  refine x_get (pc := 9) (T := TX12) (N := 70) (ci := 12) (v := .ref (mr 1)) E hw4 inX12 0 1 q_1400 rfl rfl (by decide) rfl rfl dX12_book_9 ?_
  refine lv_iconst (pc := 12) (v := 2) E.1 E.2.1 dX12_book_12 (by decide +kernel) ?_
  refine x_iald (pc := 13) (f := (mf 1)) E hw4 1 rfl (inbE (a := 2) (by decide +kernel) (by omega)) dX12_book_13 ?_
  refine lv_topi (fun v_5 ev_5 => ?_)
  have hv_5 : v_5.toInt = ((mf 1) 2).toInt := by rw [ev_5]; rfl
  refine lv_iconst (pc := 14) (v := 1) E.1 E.2.1 dX12_book_14 (by decide +kernel) ?_
  refine lv_isub (pc := 15) E.1 E.2.1 dX12_book_15 ?_
  refine lv_topi (fun v_6 ev_6 => ?_)
  have hv_6 : v_6.toInt = v_5.toInt - 1 := by rw [ev_6]; exact subE rfl (by decide +kernel) (by omega)
  refine cm_i (pc := 16) hw4 (rn_M (As := [.int z_i, .int 0, .int v_6]) (rest := []) E hw4 (s_isIn l D cI cJ _ M mr (upd mi 0 0) mf mg z_i 0 v_6) (gdV q_1622 q_1624 q_46 q_162 q_1625) hdV_X12_isIn ⟨rfl, rfl⟩ ⟨(Nat.le_of_ble_eq_true rfl), (Nat.le_of_ble_eq_true rfl)⟩ ⟨(Nat.le_of_ble_eq_true rfl), (Nat.le_of_ble_eq_true rfl)⟩ 12 rfl rfl rfl rfl hl3.1 rfl (Nat.le_of_ble_eq_true rfl) dX12_book_16) (fun r_8 u_7 H1 locs hp hw9 => ?_)
  generalize H1 = H at hw9 ⊢
  have hw10 : WD D A s.heap (MW cI cJ M mr (upd mi 0 0) mf mg) H locs := hw9
  have hp_11 := hp
  rcases hp_11 with ⟨rfl, ha_12⟩ | ⟨rfl, ha_13⟩ | ⟨rfl, ha_14, ha_15⟩
  · skip
    have ha_12 : z_i.toInt < (0 : Int32).toInt := ha_12
    rw [show (0 : Int32).toInt = 0 from by decide +kernel] at ha_12
    refine lv_if_eq (pc := 19) (tgt := 46) E.1 E.2.1 dX12_book_19 (by decide) (fun _ => ?_) (fun c_16 => absurd (meqE (a := 0) (b := 0) (by decide +kernel) (by decide +kernel) (by omega)) c_16)
    refine lv_iconst (pc := 46) (v := (-1)) E.1 E.2.1 dX12_book_46 (by decide +kernel) ?_
    exact em_i (w1 := (fun (u : Int32) => (MW cI cJ M mr (upd mi 0 u) mf mg))) E hr hlk 0 hw10 trivial (Nat.le_of_ble_eq_true rfl) (Nat.le_of_ble_eq_true rfl) dX12_book_47
  · skip
    have ha_13 : v_6.toInt < z_i.toInt := ha_13
    refine lv_if_eq (pc := 19) (tgt := 46) E.1 E.2.1 dX12_book_19 (by decide) (fun _ => ?_) (fun c_17 => absurd (meqE (a := 0) (b := 0) (by decide +kernel) (by decide +kernel) (by omega)) c_17)
    refine lv_iconst (pc := 46) (v := (-1)) E.1 E.2.1 dX12_book_46 (by decide +kernel) ?_
    exact em_i (w1 := (fun (u : Int32) => (MW cI cJ M mr (upd mi 0 u) mf mg))) E hr hlk 0 hw10 trivial (Nat.le_of_ble_eq_true rfl) (Nat.le_of_ble_eq_true rfl) dX12_book_47
  · skip
    have ha_14 : (0 : Int32).toInt ≤ z_i.toInt := ha_14
    rw [show (0 : Int32).toInt = 0 from by decide +kernel] at ha_14
    have ha_15 : z_i.toInt ≤ v_6.toInt := ha_15
    refine lv_if_eq (pc := 19) (tgt := 46) E.1 E.2.1 dX12_book_19 (by decide) (fun c_18 => absurd c_18 (mneE (a := 1) (b := 0) (by decide +kernel) (by decide +kernel) (by omega))) (fun _ => ?_)
    refine lv_aload_n (pc := 22) E.1 E.2.1 dX12_book_22 rfl (lv_at hl3 0 rfl) ?_
    refine lv_iload_n (pc := 23) E.1 E.2.1 dX12_book_23 rfl (lv_at hl3 2 rfl) ?_
    refine lv_iconst (pc := 24) (v := 0) E.1 E.2.1 dX12_book_24 (by decide +kernel) ?_
    refine lv_iconst (pc := 25) (v := 5) E.1 E.2.1 dX12_book_25 (by decide +kernel) ?_
    refine cm_i (pc := 26) hw10 (rn_M (As := [.int z_what, .int 0, .int 5]) (rest := []) E hw10 (s_isIn l D cI cJ _ M mr (upd mi 0 0) mf mg z_what 0 5) (gdV q_1622 q_1624 q_46 q_162 q_1625) hdV_X12_isIn ⟨rfl, rfl⟩ ⟨(Nat.le_of_ble_eq_true rfl), (Nat.le_of_ble_eq_true rfl)⟩ ⟨(Nat.le_of_ble_eq_true rfl), (Nat.le_of_ble_eq_true rfl)⟩ 12 rfl rfl rfl rfl hl3.1 rfl (Nat.le_of_ble_eq_true rfl) dX12_book_26) (fun r_20 u_19 H1 locs hp hw21 => ?_)
    generalize H1 = H at hw21 ⊢
    have hw22 : WD D A s.heap (MW cI cJ M mr (upd mi 0 0) mf mg) H locs := hw21
    have hp_23 := hp
    rcases hp_23 with ⟨rfl, ha_24⟩ | ⟨rfl, ha_25⟩ | ⟨rfl, ha_26, ha_27⟩
    · skip
      have ha_24 : z_what.toInt < (0 : Int32).toInt := ha_24
      rw [show (0 : Int32).toInt = 0 from by decide +kernel] at ha_24
      refine lv_if_eq (pc := 29) (tgt := 46) E.1 E.2.1 dX12_book_29 (by decide) (fun _ => ?_) (fun c_28 => absurd (meqE (a := 0) (b := 0) (by decide +kernel) (by decide +kernel) (by omega)) c_28)
      refine lv_iconst (pc := 46) (v := (-1)) E.1 E.2.1 dX12_book_46 (by decide +kernel) ?_
      exact em_i (w1 := (fun (u : Int32) => (MW cI cJ M mr (upd mi 0 u) mf mg))) E hr hlk 0 hw22 trivial (Nat.le_of_ble_eq_true rfl) (Nat.le_of_ble_eq_true rfl) dX12_book_47
    · skip
      have ha_25 : (5 : Int32).toInt < z_what.toInt := ha_25
      rw [show (5 : Int32).toInt = 5 from by decide +kernel] at ha_25
      refine lv_if_eq (pc := 29) (tgt := 46) E.1 E.2.1 dX12_book_29 (by decide) (fun _ => ?_) (fun c_29 => absurd (meqE (a := 0) (b := 0) (by decide +kernel) (by decide +kernel) (by omega)) c_29)
      refine lv_iconst (pc := 46) (v := (-1)) E.1 E.2.1 dX12_book_46 (by decide +kernel) ?_
      exact em_i (w1 := (fun (u : Int32) => (MW cI cJ M mr (upd mi 0 u) mf mg))) E hr hlk 0 hw22 trivial (Nat.le_of_ble_eq_true rfl) (Nat.le_of_ble_eq_true rfl) dX12_book_47
    · skip
      have ha_26 : (0 : Int32).toInt ≤ z_what.toInt := ha_26
      rw [show (0 : Int32).toInt = 0 from by decide +kernel] at ha_26
      have ha_27 : z_what.toInt ≤ (5 : Int32).toInt := ha_27
      rw [show (5 : Int32).toInt = 5 from by decide +kernel] at ha_27
      refine lv_if_eq (pc := 29) (tgt := 46) E.1 E.2.1 dX12_book_29 (by decide) (fun c_30 => absurd c_30 (mneE (a := 1) (b := 0) (by decide +kernel) (by decide +kernel) (by omega))) (fun _ => ?_)
      refine lv_aload_n (pc := 32) E.1 E.2.1 dX12_book_32 rfl (lv_at hl3 0 rfl) ?_
      refine x_get (pc := 33) (T := TX12) (N := 70) (ci := 12) (v := .ref (mr 16)) E hw22 inX12 0 16 q_1415 rfl rfl (by decide) rfl rfl dX12_book_33 ?_
      refine lv_bipush (pc := 36) (v := 6) E.1 E.2.1 dX12_book_36 (by decide +kernel) ?_
      refine lv_iload_n (pc := 38) E.1 E.2.1 dX12_book_38 rfl (lv_at hl3 1 rfl) ?_
      refine lv_imul (pc := 39) E.1 E.2.1 dX12_book_39 ?_
      refine lv_topi (fun v_31 ev_31 => ?_)
      have hv_31 : v_31.toInt = 6 * z_i.toInt := by rw [ev_31]; exact mulE (by decide +kernel) rfl (by omega)
      refine lv_iload_n (pc := 40) E.1 E.2.1 dX12_book_40 rfl (lv_at hl3 2 rfl) ?_
      refine lv_iadd (pc := 41) E.1 E.2.1 dX12_book_41 ?_
      refine lv_topi (fun v_32 ev_32 => ?_)
      have hv_32 : v_32.toInt = v_31.toInt + z_what.toInt := by rw [ev_32]; exact addE rfl rfl (by omega)
      refine x_iald (pc := 42) (f := (mf 16)) E hw22 9 rfl (inbE (a := v_32.toInt) rfl (by omega)) dX12_book_42 ?_
      refine lv_topi (fun v_33 ev_33 => ?_)
      refine lv_goto (pc := 43) (tgt := 47) E.1 E.2.1 dX12_book_43 (by decide) ?_
      exact em_i (w1 := (fun (u : Int32) => (MW cI cJ M mr (upd mi 0 u) mf mg))) E hr hlk 0 hw22 trivial (Nat.le_of_ble_eq_true rfl) (Nat.le_of_ble_eq_true rfl) dX12_book_47

set_option maxHeartbeats 4000000 in
set_option maxRecDepth 100000 in
theorem s_worthOf (l : Launch) (D : va_G) (cI cJ : ClassId) (sz M : Nat) (mr : Nat → Nat) (mi : Nat → Int32) (mf : Nat → Nat → Int32) (mg : Nat → Nat → Int64) (z_set : Int32) (h0 : 0 ≤ (mi 44).toInt ∧ (mi 44).toInt ≤ 10) : Met l yX12_worthOf (Cond.code yX12_worthOf cX12_worthOf 4 (some .int) :: GW) ({ frames := 2, cells := 0, slots := 0, locals := 62 } : Room) (va_Pc [.ref M, .int z_set] (PW D cI cJ sz (MW cI cJ M mr mi mf mg) xT)) (va_Qi (fun (r : Int32) (u : Unit) => True) (fun u => QW D cI cJ (va_A (MW cI cJ M mr mi mf mg) sz) ((fun (u : Unit) => (MW cI cJ M mr mi mf mg)) u)) (va_A (MW cI cJ M mr mi mf mg) sz)) 0 0 (va_A (MW cI cJ M mr mi mf mg) sz) := by
  refine mk_met (y := yX12_worthOf) (bytes := cX12_worthOf) (maxL := 4) (avs := [.ref M, .int z_set]) (WS := (MW cI cJ M mr mi mf mg)) (Qf := fun A => va_Qi (fun (r : Int32) (u : Unit) => True) (fun u => QW D cI cJ A ((fun (u : Unit) => (MW cI cJ M mr mi mf mg)) u)) A) (by decide) (Nat.le_of_ble_eq_true rfl) ?_
  intro p e s m below meth c A ls E hr hlk hnm hX hw1 hl2
  have hl3 : lv_has ls 4 [(0, .ref M), (1, .int z_set)] := hl2
  refine lv_iconst (pc := 0) (v := 0) E.1 E.2.1 dX12_worthOf_0 (by decide +kernel) ?_
  refine lv_istore_n (pc := 1) (lv' := [(2, .int 0), (0, .ref M), (1, .int z_set)]) E.1 E.2.1 dX12_worthOf_1 rfl hl3 (by decide) rfl (fun ls hl4 => ?_)
  refine lv_iconst (pc := 2) (v := 0) E.1 E.2.1 dX12_worthOf_2 (by decide +kernel) ?_
  refine lv_istore_n (pc := 3) (lv' := [(3, .int 0), (2, .int 0), (0, .ref M), (1, .int z_set)]) E.1 E.2.1 dX12_worthOf_3 rfl hl4 (by decide) rfl (fun ls hl5 => ?_)
  have loop_6 : ∀ (k : Nat) (x_7 : Int32) (x_8 : Int32) (H : Heap) (locs : List Loc) (ls : Array Slot), (0 ≤ x_7.toInt) ∧ (x_7.toInt ≤ (mi 44).toInt) → (mi 44).toInt - x_7.toInt < (k : Int) → WD D A s.heap (MW cI cJ M mr mi mf mg) H locs → lv_has ls 4 [(3, .int x_7), (2, .int x_8), (0, .ref M), (1, .int z_set)] → W p l e ({ frames := 2, cells := 0, slots := 0, locals := 62 } : Room) s m ([.ref M, .int z_set] : List Value).toArray below meth c H locs 0 0 (MQ below (va_Qi (fun (r : Int32) (u : Unit) => True) (fun u => QW D cI cJ A ((fun (u : Unit) => (MW cI cJ M mr mi mf mg)) u)) A) ([.ref M, .int z_set] : List Value).toArray s 0 0 A) (F0 m 4 ls []) := by
    intro k
    induction k with
    | zero =>
      intro x_7 x_8 _ _ _ hinv hm
      obtain ⟨hi_8_0, hi_8_1⟩ := hinv
      exact absurd hm (by omega)
    | succ k ih_9 =>
      intro x_7 x_8 H locs ls hinv hm hw10 hl11
      obtain ⟨hi_8_0, hi_8_1⟩ := hinv
      refine lv_iload_n (pc := 4) E.1 E.2.1 dX12_worthOf_4 rfl (lv_at hl11 0 rfl) ?_
      refine lv_aload_n (pc := 5) E.1 E.2.1 dX12_worthOf_5 rfl (lv_at hl11 2 rfl) ?_
      refine x_get (pc := 6) (T := TX12) (N := 70) (ci := 12) (v := .int (mi 44)) E hw10 inX12 0 44 q_1443 rfl rfl (by decide) rfl rfl dX12_worthOf_6 ?_
      refine lv_icmp_ge (pc := 9) (tgt := 36) E.1 E.2.1 dX12_worthOf_9 (by decide) (fun c_12 => ?_) (fun c_12 => ?_)
      · skip
        have hc_12 := leE (a := (mi 44).toInt) (b := x_7.toInt) rfl rfl c_12
        refine lv_iload_n (pc := 36) E.1 E.2.1 dX12_worthOf_36 rfl (lv_at hl11 1 rfl) ?_
        exact em_i (w1 := (fun (u : Unit) => (MW cI cJ M mr mi mf mg))) E hr hlk () hw10 trivial (Nat.le_of_ble_eq_true rfl) (Nat.le_of_ble_eq_true rfl) dX12_worthOf_37
      · skip
        have hc_12 := nleE (a := (mi 44).toInt) (b := x_7.toInt) rfl rfl c_12
        refine lv_iload_n (pc := 12) E.1 E.2.1 dX12_worthOf_12 rfl (lv_at hl11 3 rfl) ?_
        refine lv_iload_n (pc := 13) E.1 E.2.1 dX12_worthOf_13 rfl (lv_at hl11 0 rfl) ?_
        refine lv_ishr (pc := 14) E.1 E.2.1 dX12_worthOf_14 ?_
        refine lv_topi (fun v_13 ev_13 => ?_)
        refine lv_iconst (pc := 15) (v := 1) E.1 E.2.1 dX12_worthOf_15 (by decide +kernel) ?_
        refine lv_iand (pc := 16) E.1 E.2.1 dX12_worthOf_16 ?_
        refine lv_topi (fun v_14 ev_14 => ?_)
        refine lv_iconst (pc := 17) (v := 1) E.1 E.2.1 dX12_worthOf_17 (by decide +kernel) ?_
        refine lv_icmp_ne (pc := 18) (tgt := 30) E.1 E.2.1 dX12_worthOf_18 (by decide) (fun c_15 => ?_) (fun c_15 => ?_)
        · skip
          have hc_15 := neE (a := v_14.toInt) (b := 1) rfl (by decide +kernel) c_15
          obtain ⟨v_16, ev_16⟩ : ∃ z : Int32, x_7 + Int32.ofInt (1) = z := ⟨_, rfl⟩
          have hv_16 : v_16.toInt = x_7.toInt + (1) := by rw [← ev_16]; exact incE rfl (by decide) (by omega)
          refine lv_iinc (pc := 30) (v := v_16) (lv' := [(3, .int v_16), (2, .int x_8), (0, .ref M), (1, .int z_set)]) E.1 E.2.1 dX12_worthOf_30 hl11 (k := 0) rfl ev_16 (by decide) rfl (fun ls hl17 => ?_)
          refine lv_goto (pc := 33) (tgt := 4) E.1 E.2.1 dX12_worthOf_33 (by decide) ?_
          exact ih_9 v_16 x_8 _ _ _ ⟨(by show 0 ≤ v_16.toInt; omega), (by show v_16.toInt ≤ (mi 44).toInt; omega)⟩ (by omega) hw10 (lv_sub hl17 [0, 1, 2, 3] rfl)
        · skip
          have hc_15 := eqE (a := v_14.toInt) (b := 1) rfl (by decide +kernel) c_15
          refine lv_iload_n (pc := 21) E.1 E.2.1 dX12_worthOf_21 rfl (lv_at hl11 1 rfl) ?_
          refine lv_aload_n (pc := 22) E.1 E.2.1 dX12_worthOf_22 rfl (lv_at hl11 2 rfl) ?_
          refine lv_iload_n (pc := 23) E.1 E.2.1 dX12_worthOf_23 rfl (lv_at hl11 0 rfl) ?_
          refine lv_iconst (pc := 24) (v := 4) E.1 E.2.1 dX12_worthOf_24 (by decide +kernel) ?_
          refine cm_i (pc := 25) hw10 (rn_M (As := [.int x_7, .int 4]) (rest := [.int x_8]) E hw10 (s_ofNeed l D cI cJ _ M mr mi mf mg x_7 4 (by show 0 ≤ x_7.toInt ∧ x_7.toInt ≤ 9; omega) (by show 0 ≤ (4 : Int32).toInt ∧ (4 : Int32).toInt ≤ 4; have k_0 : (4 : Int32).toInt = 4 := (by decide +kernel); omega)) (gdV q_1871 q_1873 q_100 q_162 q_1874) hdV_X12_ofNeed ⟨rfl, rfl⟩ ⟨(Nat.le_of_ble_eq_true rfl), (Nat.le_of_ble_eq_true rfl)⟩ ⟨(Nat.le_of_ble_eq_true rfl), (Nat.le_of_ble_eq_true rfl)⟩ 12 rfl rfl rfl rfl hl11.1 rfl (Nat.le_of_ble_eq_true rfl) dX12_worthOf_25) (fun r_19 u_18 H1 locs hp hw20 => ?_)
          generalize H1 = H at hw20 ⊢
          have hw21 : WD D A s.heap (MW cI cJ M mr mi mf mg) H locs := hw20
          refine lv_iadd (pc := 28) E.1 E.2.1 dX12_worthOf_28 ?_
          refine lv_topi (fun v_22 ev_22 => ?_)
          refine lv_istore_n (pc := 29) (lv' := [(2, .int v_22), (3, .int x_7), (0, .ref M), (1, .int z_set)]) E.1 E.2.1 dX12_worthOf_29 rfl hl11 (by decide) rfl (fun ls hl23 => ?_)
          obtain ⟨v_24, ev_24⟩ : ∃ z : Int32, x_7 + Int32.ofInt (1) = z := ⟨_, rfl⟩
          have hv_24 : v_24.toInt = x_7.toInt + (1) := by rw [← ev_24]; exact incE rfl (by decide) (by omega)
          refine lv_iinc (pc := 30) (v := v_24) (lv' := [(3, .int v_24), (2, .int v_22), (0, .ref M), (1, .int z_set)]) E.1 E.2.1 dX12_worthOf_30 hl23 (k := 1) rfl ev_24 (by decide) rfl (fun ls hl25 => ?_)
          refine lv_goto (pc := 33) (tgt := 4) E.1 E.2.1 dX12_worthOf_33 (by decide) ?_
          exact ih_9 v_24 v_22 _ _ _ ⟨(by show 0 ≤ v_24.toInt; omega), (by show v_24.toInt ≤ (mi 44).toInt; omega)⟩ (by omega) hw21 (lv_sub hl25 [0, 1, 2, 3] rfl)
  exact loop_6 (Int.toNat ((mi 44).toInt - 0) + 1) 0 0 _ _ _ ⟨(by show 0 ≤ (0 : Int32).toInt; have k_0 : (0 : Int32).toInt = 0 := (by decide +kernel); omega), (by show (0 : Int32).toInt ≤ (mi 44).toInt; have k_0 : (0 : Int32).toInt = 0 := (by decide +kernel); omega)⟩ (by have k_0 : (0 : Int32).toInt = 0 := (by decide +kernel); have k_1 : (0 : Int32).toInt = 0 := (by decide +kernel); omega) hw1 (lv_sub hl5 [0, 1, 2, 3] rfl)

set_option maxHeartbeats 4000000 in
set_option maxRecDepth 100000 in
theorem s_look (l : Launch) (D : va_G) (cI cJ : ClassId) (sz M : Nat) (mr : Nat → Nat) (mi : Nat → Int32) (mf : Nat → Nat → Int32) (mg : Nat → Nat → Int64) (z_what : Int32) (h0 : (-29) ≤ (mi 15).toInt ∧ (mi 15).toInt ≤ 69) : Met l yX12_look (Cond.code yX12_look cX12_look 2 (some .int) :: GW) ({ frames := 2, cells := 0, slots := 0, locals := 60 } : Room) (va_Pc [.ref M, .int z_what] (PW D cI cJ sz (MW cI cJ M mr mi mf mg) xT)) (va_Qi (fun (r : Int32) (u : Int32) => True) (fun u => QW D cI cJ (va_A (MW cI cJ M mr mi mf mg) sz) ((fun (u : Int32) => (MW cI cJ M mr (upd mi 0 u) mf mg)) u)) (va_A (MW cI cJ M mr mi mf mg) sz)) 0 0 (va_A (MW cI cJ M mr mi mf mg) sz) := by
  refine mk_met (y := yX12_look) (bytes := cX12_look) (maxL := 2) (avs := [.ref M, .int z_what]) (WS := (MW cI cJ M mr mi mf mg)) (Qf := fun A => va_Qi (fun (r : Int32) (u : Int32) => True) (fun u => QW D cI cJ A ((fun (u : Int32) => (MW cI cJ M mr (upd mi 0 u) mf mg)) u)) A) (by decide) (Nat.le_of_ble_eq_true rfl) ?_
  intro p e s m below meth c A ls E hr hlk hnm hX hw1 hl2
  have hl3 : lv_has ls 2 [(0, .ref M), (1, .int z_what)] := hl2
  refine lv_aload_n (pc := 0) E.1 E.2.1 dX12_look_0 rfl (lv_at hl3 0 rfl) ?_
  refine lv_iconst (pc := 1) (v := 0) E.1 E.2.1 dX12_look_1 (by decide +kernel) ?_
  refine x_put (pc := 2) (T := TX12) (N := 70) (ci := 12) (ws' := (MW cI cJ M mr (upd mi 0 0) mf mg)) E hw1 inX12 tyX12_ok nmX12 0 0 q_1399 rfl rfl (by decide) rfl rfl rfl rfl (Nat.le_of_ble_eq_true rfl) rfl dX12_look_2 (fun H locs hw4 => ?_)
  refine lv_iload_n (pc := 5) E.1 E.2.1 dX12_look_5 rfl (lv_at hl3 1 rfl) ?_
  refine lv_if_ne (pc := 6) (tgt := 14) E.1 E.2.1 dX12_look_6 (by decide) (fun c_5 => ?_) (fun c_5 => ?_)
  · skip
    have hc_5 := neE (a := z_what.toInt) (b := 0) rfl (by decide +kernel) c_5
    refine lv_iload_n (pc := 14) E.1 E.2.1 dX12_look_14 rfl (lv_at hl3 1 rfl) ?_
    refine lv_iconst (pc := 15) (v := 1) E.1 E.2.1 dX12_look_15 (by decide +kernel) ?_
    refine lv_icmp_ne (pc := 16) (tgt := 37) E.1 E.2.1 dX12_look_16 (by decide) (fun c_6 => ?_) (fun c_6 => ?_)
    · skip
      have hc_6 := neE (a := z_what.toInt) (b := 1) rfl (by decide +kernel) c_6
      refine lv_iload_n (pc := 37) E.1 E.2.1 dX12_look_37 rfl (lv_at hl3 1 rfl) ?_
      refine lv_iconst (pc := 38) (v := 2) E.1 E.2.1 dX12_look_38 (by decide +kernel) ?_
      refine lv_icmp_ne (pc := 39) (tgt := 49) E.1 E.2.1 dX12_look_39 (by decide) (fun c_7 => ?_) (fun c_7 => ?_)
      · skip
        have hc_7 := neE (a := z_what.toInt) (b := 2) rfl (by decide +kernel) c_7
        refine lv_iload_n (pc := 49) E.1 E.2.1 dX12_look_49 rfl (lv_at hl3 1 rfl) ?_
        refine lv_iconst (pc := 50) (v := 3) E.1 E.2.1 dX12_look_50 (by decide +kernel) ?_
        refine lv_icmp_ne (pc := 51) (tgt := 61) E.1 E.2.1 dX12_look_51 (by decide) (fun c_8 => ?_) (fun c_8 => ?_)
        · skip
          have hc_8 := neE (a := z_what.toInt) (b := 3) rfl (by decide +kernel) c_8
          refine lv_iload_n (pc := 61) E.1 E.2.1 dX12_look_61 rfl (lv_at hl3 1 rfl) ?_
          refine lv_iconst (pc := 62) (v := 4) E.1 E.2.1 dX12_look_62 (by decide +kernel) ?_
          refine lv_icmp_ne (pc := 63) (tgt := 73) E.1 E.2.1 dX12_look_63 (by decide) (fun c_9 => ?_) (fun c_9 => ?_)
          · skip
            have hc_9 := neE (a := z_what.toInt) (b := 4) rfl (by decide +kernel) c_9
            refine lv_iload_n (pc := 73) E.1 E.2.1 dX12_look_73 rfl (lv_at hl3 1 rfl) ?_
            refine lv_iconst (pc := 74) (v := 5) E.1 E.2.1 dX12_look_74 (by decide +kernel) ?_
            refine lv_icmp_ne (pc := 75) (tgt := 83) E.1 E.2.1 dX12_look_75 (by decide) (fun c_10 => ?_) (fun c_10 => ?_)
            · skip
              have hc_10 := neE (a := z_what.toInt) (b := 5) rfl (by decide +kernel) c_10
              refine lv_iload_n (pc := 83) E.1 E.2.1 dX12_look_83 rfl (lv_at hl3 1 rfl) ?_
              refine lv_bipush (pc := 84) (v := 6) E.1 E.2.1 dX12_look_84 (by decide +kernel) ?_
              refine lv_icmp_ne (pc := 86) (tgt := 94) E.1 E.2.1 dX12_look_86 (by decide) (fun c_11 => ?_) (fun c_11 => ?_)
              · skip
                have hc_11 := neE (a := z_what.toInt) (b := 6) rfl (by decide +kernel) c_11
                refine lv_iload_n (pc := 94) E.1 E.2.1 dX12_look_94 rfl (lv_at hl3 1 rfl) ?_
                refine lv_bipush (pc := 95) (v := 7) E.1 E.2.1 dX12_look_95 (by decide +kernel) ?_
                refine lv_icmp_ne (pc := 97) (tgt := 112) E.1 E.2.1 dX12_look_97 (by decide) (fun c_12 => ?_) (fun c_12 => ?_)
                · skip
                  have hc_12 := neE (a := z_what.toInt) (b := 7) rfl (by decide +kernel) c_12
                  refine lv_iload_n (pc := 112) E.1 E.2.1 dX12_look_112 rfl (lv_at hl3 1 rfl) ?_
                  refine lv_bipush (pc := 113) (v := 8) E.1 E.2.1 dX12_look_113 (by decide +kernel) ?_
                  refine lv_icmp_ne (pc := 115) (tgt := 125) E.1 E.2.1 dX12_look_115 (by decide) (fun c_13 => ?_) (fun c_13 => ?_)
                  · skip
                    have hc_13 := neE (a := z_what.toInt) (b := 8) rfl (by decide +kernel) c_13
                    refine lv_iload_n (pc := 125) E.1 E.2.1 dX12_look_125 rfl (lv_at hl3 1 rfl) ?_
                    refine lv_bipush (pc := 126) (v := 9) E.1 E.2.1 dX12_look_126 (by decide +kernel) ?_
                    refine lv_icmp_ne (pc := 128) (tgt := 138) E.1 E.2.1 dX12_look_128 (by decide) (fun c_14 => ?_) (fun c_14 => ?_)
                    · skip
                      have hc_14 := neE (a := z_what.toInt) (b := 9) rfl (by decide +kernel) c_14
                      refine lv_iload_n (pc := 138) E.1 E.2.1 dX12_look_138 rfl (lv_at hl3 1 rfl) ?_
                      refine lv_bipush (pc := 139) (v := 10) E.1 E.2.1 dX12_look_139 (by decide +kernel) ?_
                      refine lv_icmp_ne (pc := 141) (tgt := 149) E.1 E.2.1 dX12_look_141 (by decide) (fun c_15 => ?_) (fun c_15 => ?_)
                      · skip
                        have hc_15 := neE (a := z_what.toInt) (b := 10) rfl (by decide +kernel) c_15
                        refine lv_iload_n (pc := 149) E.1 E.2.1 dX12_look_149 rfl (lv_at hl3 1 rfl) ?_
                        refine lv_bipush (pc := 150) (v := 11) E.1 E.2.1 dX12_look_150 (by decide +kernel) ?_
                        refine lv_icmp_ne (pc := 152) (tgt := 160) E.1 E.2.1 dX12_look_152 (by decide) (fun c_16 => ?_) (fun c_16 => ?_)
                        · skip
                          have hc_16 := neE (a := z_what.toInt) (b := 11) rfl (by decide +kernel) c_16
                          refine lv_iload_n (pc := 160) E.1 E.2.1 dX12_look_160 rfl (lv_at hl3 1 rfl) ?_
                          refine lv_bipush (pc := 161) (v := 20) E.1 E.2.1 dX12_look_161 (by decide +kernel) ?_
                          refine lv_icmp_ne (pc := 163) (tgt := 173) E.1 E.2.1 dX12_look_163 (by decide) (fun c_17 => ?_) (fun c_17 => ?_)
                          · skip
                            have hc_17 := neE (a := z_what.toInt) (b := 20) rfl (by decide +kernel) c_17
                            refine lv_iload_n (pc := 173) E.1 E.2.1 dX12_look_173 rfl (lv_at hl3 1 rfl) ?_
                            refine lv_bipush (pc := 174) (v := 21) E.1 E.2.1 dX12_look_174 (by decide +kernel) ?_
                            refine lv_icmp_ne (pc := 176) (tgt := 184) E.1 E.2.1 dX12_look_176 (by decide) (fun c_18 => ?_) (fun c_18 => ?_)
                            · skip
                              have hc_18 := neE (a := z_what.toInt) (b := 21) rfl (by decide +kernel) c_18
                              refine lv_iload_n (pc := 184) E.1 E.2.1 dX12_look_184 rfl (lv_at hl3 1 rfl) ?_
                              refine lv_bipush (pc := 185) (v := 22) E.1 E.2.1 dX12_look_185 (by decide +kernel) ?_
                              refine lv_icmp_ne (pc := 187) (tgt := 195) E.1 E.2.1 dX12_look_187 (by decide) (fun c_19 => ?_) (fun c_19 => ?_)
                              · skip
                                have hc_19 := neE (a := z_what.toInt) (b := 22) rfl (by decide +kernel) c_19
                                refine lv_iload_n (pc := 195) E.1 E.2.1 dX12_look_195 rfl (lv_at hl3 1 rfl) ?_
                                refine lv_bipush (pc := 196) (v := 23) E.1 E.2.1 dX12_look_196 (by decide +kernel) ?_
                                refine lv_icmp_ne (pc := 198) (tgt := 208) E.1 E.2.1 dX12_look_198 (by decide) (fun c_20 => ?_) (fun c_20 => ?_)
                                · skip
                                  have hc_20 := neE (a := z_what.toInt) (b := 23) rfl (by decide +kernel) c_20
                                  refine lv_iload_n (pc := 208) E.1 E.2.1 dX12_look_208 rfl (lv_at hl3 1 rfl) ?_
                                  refine lv_bipush (pc := 209) (v := 24) E.1 E.2.1 dX12_look_209 (by decide +kernel) ?_
                                  refine lv_icmp_ne (pc := 211) (tgt := 221) E.1 E.2.1 dX12_look_211 (by decide) (fun c_21 => ?_) (fun c_21 => ?_)
                                  · skip
                                    have hc_21 := neE (a := z_what.toInt) (b := 24) rfl (by decide +kernel) c_21
                                    refine lv_sipush (pc := 221) (v := (-1000)) E.1 E.2.1 dX12_look_221 (by decide +kernel) ?_
                                    exact em_i (w1 := (fun (u : Int32) => (MW cI cJ M mr (upd mi 0 u) mf mg))) E hr hlk 0 hw4 trivial (Nat.le_of_ble_eq_true rfl) (Nat.le_of_ble_eq_true rfl) dX12_look_224
                                  · skip
                                    have hc_21 := eqE (a := z_what.toInt) (b := 24) rfl (by decide +kernel) c_21
                                    refine lv_aload_n (pc := 214) E.1 E.2.1 dX12_look_214 rfl (lv_at hl3 0 rfl) ?_
                                    refine cm_i (pc := 215) hw4 (rn_M (As := []) (rest := []) E hw4 (s_due l D cI cJ _ M mr (upd mi 0 0) mf mg h0) (gdV q_1911 q_1913 q_110 q_162 q_1914) hdV_X12_due ⟨rfl, rfl⟩ ⟨(Nat.le_of_ble_eq_true rfl), (Nat.le_of_ble_eq_true rfl)⟩ ⟨(Nat.le_of_ble_eq_true rfl), (Nat.le_of_ble_eq_true rfl)⟩ 12 rfl rfl rfl rfl hl3.1 rfl (Nat.le_of_ble_eq_true rfl) dX12_look_215) (fun r_23 u_22 H1 locs hp hw24 => ?_)
                                    generalize H1 = H at hw24 ⊢
                                    have hw25 : WD D A s.heap (MW cI cJ M mr (upd mi 0 0) mf mg) H locs := hw24
                                    have hp_26 := hp
                                    have hp_26 : 1 ≤ r_23.toInt ∧ r_23.toInt ≤ 99 := hp_26
                                    refine lv_goto (pc := 218) (tgt := 224) E.1 E.2.1 dX12_look_218 (by decide) ?_
                                    exact em_i (w1 := (fun (u : Int32) => (MW cI cJ M mr (upd mi 0 u) mf mg))) E hr hlk 0 hw25 trivial (Nat.le_of_ble_eq_true rfl) (Nat.le_of_ble_eq_true rfl) dX12_look_224
                                · skip
                                  have hc_20 := eqE (a := z_what.toInt) (b := 23) rfl (by decide +kernel) c_20
                                  refine lv_aload_n (pc := 201) E.1 E.2.1 dX12_look_201 rfl (lv_at hl3 0 rfl) ?_
                                  refine cm_i (pc := 202) hw4 (rn_M (As := []) (rest := []) E hw4 (s_dusk l D cI cJ _ M mr (upd mi 0 0) mf mg ) (gdV q_1847 q_1849 q_94 q_162 q_1850) hdV_X12_dusk ⟨rfl, rfl⟩ ⟨(Nat.le_of_ble_eq_true rfl), (Nat.le_of_ble_eq_true rfl)⟩ ⟨(Nat.le_of_ble_eq_true rfl), (Nat.le_of_ble_eq_true rfl)⟩ 12 rfl rfl rfl rfl hl3.1 rfl (Nat.le_of_ble_eq_true rfl) dX12_look_202) (fun r_28 u_27 H1 locs hp hw29 => ?_)
                                  generalize H1 = H at hw29 ⊢
                                  have hw30 : WD D A s.heap (MW cI cJ M mr (upd mi 0 0) mf mg) H locs := hw29
                                  refine lv_goto (pc := 205) (tgt := 224) E.1 E.2.1 dX12_look_205 (by decide) ?_
                                  exact em_i (w1 := (fun (u : Int32) => (MW cI cJ M mr (upd mi 0 u) mf mg))) E hr hlk 0 hw30 trivial (Nat.le_of_ble_eq_true rfl) (Nat.le_of_ble_eq_true rfl) dX12_look_224
                              · skip
                                have hc_19 := eqE (a := z_what.toInt) (b := 22) rfl (by decide +kernel) c_19
                                refine lv_aload_n (pc := 190) E.1 E.2.1 dX12_look_190 rfl (lv_at hl3 0 rfl) ?_
                                refine x_get (pc := 191) (T := TX12) (N := 70) (ci := 12) (v := .int (mi 13)) E hw4 inX12 0 13 q_1412 rfl rfl (by decide) rfl rfl dX12_look_191 ?_
                                exact em_i (w1 := (fun (u : Int32) => (MW cI cJ M mr (upd mi 0 u) mf mg))) E hr hlk 0 hw4 trivial (Nat.le_of_ble_eq_true rfl) (Nat.le_of_ble_eq_true rfl) dX12_look_194
                            · skip
                              have hc_18 := eqE (a := z_what.toInt) (b := 21) rfl (by decide +kernel) c_18
                              refine lv_aload_n (pc := 179) E.1 E.2.1 dX12_look_179 rfl (lv_at hl3 0 rfl) ?_
                              refine x_get (pc := 180) (T := TX12) (N := 70) (ci := 12) (v := .int (mi 12)) E hw4 inX12 0 12 q_1411 rfl rfl (by decide) rfl rfl dX12_look_180 ?_
                              exact em_i (w1 := (fun (u : Int32) => (MW cI cJ M mr (upd mi 0 u) mf mg))) E hr hlk 0 hw4 trivial (Nat.le_of_ble_eq_true rfl) (Nat.le_of_ble_eq_true rfl) dX12_look_183
                          · skip
                            have hc_17 := eqE (a := z_what.toInt) (b := 20) rfl (by decide +kernel) c_17
                            refine lv_aload_n (pc := 166) E.1 E.2.1 dX12_look_166 rfl (lv_at hl3 0 rfl) ?_
                            refine x_get (pc := 167) (T := TX12) (N := 70) (ci := 12) (v := .ref (mr 1)) E hw4 inX12 0 1 q_1400 rfl rfl (by decide) rfl rfl dX12_look_167 ?_
                            refine lv_iconst (pc := 170) (v := 4) E.1 E.2.1 dX12_look_170 (by decide +kernel) ?_
                            refine x_iald (pc := 171) (f := (mf 1)) E hw4 1 rfl (inbE (a := 4) (by decide +kernel) (by omega)) dX12_look_171 ?_
                            refine lv_topi (fun v_31 ev_31 => ?_)
                            exact em_i (w1 := (fun (u : Int32) => (MW cI cJ M mr (upd mi 0 u) mf mg))) E hr hlk 0 hw4 trivial (Nat.le_of_ble_eq_true rfl) (Nat.le_of_ble_eq_true rfl) dX12_look_172
                        · skip
                          have hc_16 := eqE (a := z_what.toInt) (b := 11) rfl (by decide +kernel) c_16
                          refine lv_aload_n (pc := 155) E.1 E.2.1 dX12_look_155 rfl (lv_at hl3 0 rfl) ?_
                          refine x_get (pc := 156) (T := TX12) (N := 70) (ci := 12) (v := .int (mi 3)) E hw4 inX12 0 3 q_1402 rfl rfl (by decide) rfl rfl dX12_look_156 ?_
                          exact em_i (w1 := (fun (u : Int32) => (MW cI cJ M mr (upd mi 0 u) mf mg))) E hr hlk 0 hw4 trivial (Nat.le_of_ble_eq_true rfl) (Nat.le_of_ble_eq_true rfl) dX12_look_159
                      · skip
                        have hc_15 := eqE (a := z_what.toInt) (b := 10) rfl (by decide +kernel) c_15
                        refine lv_aload_n (pc := 144) E.1 E.2.1 dX12_look_144 rfl (lv_at hl3 0 rfl) ?_
                        refine x_get (pc := 145) (T := TX12) (N := 70) (ci := 12) (v := .int (mi 17)) E hw4 inX12 0 17 q_1416 rfl rfl (by decide) rfl rfl dX12_look_145 ?_
                        exact em_i (w1 := (fun (u : Int32) => (MW cI cJ M mr (upd mi 0 u) mf mg))) E hr hlk 0 hw4 trivial (Nat.le_of_ble_eq_true rfl) (Nat.le_of_ble_eq_true rfl) dX12_look_148
                    · skip
                      have hc_14 := eqE (a := z_what.toInt) (b := 9) rfl (by decide +kernel) c_14
                      refine lv_aload_n (pc := 131) E.1 E.2.1 dX12_look_131 rfl (lv_at hl3 0 rfl) ?_
                      refine x_get (pc := 132) (T := TX12) (N := 70) (ci := 12) (v := .ref (mr 27)) E hw4 inX12 0 27 q_1426 rfl rfl (by decide) rfl rfl dX12_look_132 ?_
                      refine lv_iconst (pc := 135) (v := 1) E.1 E.2.1 dX12_look_135 (by decide +kernel) ?_
                      refine x_iald (pc := 136) (f := (mf 27)) E hw4 14 rfl (inbE (a := 1) (by decide +kernel) (by omega)) dX12_look_136 ?_
                      refine lv_topi (fun v_32 ev_32 => ?_)
                      have hv_32 : v_32.toInt = ((mf 27) 1).toInt := by rw [ev_32]; rfl
                      exact em_i (w1 := (fun (u : Int32) => (MW cI cJ M mr (upd mi 0 u) mf mg))) E hr hlk 0 hw4 trivial (Nat.le_of_ble_eq_true rfl) (Nat.le_of_ble_eq_true rfl) dX12_look_137
                  · skip
                    have hc_13 := eqE (a := z_what.toInt) (b := 8) rfl (by decide +kernel) c_13
                    refine lv_aload_n (pc := 118) E.1 E.2.1 dX12_look_118 rfl (lv_at hl3 0 rfl) ?_
                    refine x_get (pc := 119) (T := TX12) (N := 70) (ci := 12) (v := .ref (mr 27)) E hw4 inX12 0 27 q_1426 rfl rfl (by decide) rfl rfl dX12_look_119 ?_
                    refine lv_iconst (pc := 122) (v := 0) E.1 E.2.1 dX12_look_122 (by decide +kernel) ?_
                    refine x_iald (pc := 123) (f := (mf 27)) E hw4 14 rfl (inbE (a := 0) (by decide +kernel) (by omega)) dX12_look_123 ?_
                    refine lv_topi (fun v_33 ev_33 => ?_)
                    have hv_33 : v_33.toInt = ((mf 27) 0).toInt := by rw [ev_33]; rfl
                    exact em_i (w1 := (fun (u : Int32) => (MW cI cJ M mr (upd mi 0 u) mf mg))) E hr hlk 0 hw4 trivial (Nat.le_of_ble_eq_true rfl) (Nat.le_of_ble_eq_true rfl) dX12_look_124
                · skip
                  have hc_12 := eqE (a := z_what.toInt) (b := 7) rfl (by decide +kernel) c_12
                  refine lv_aload_n (pc := 100) E.1 E.2.1 dX12_look_100 rfl (lv_at hl3 0 rfl) ?_
                  refine x_get (pc := 101) (T := TX12) (N := 70) (ci := 12) (v := .int (mi 49)) E hw4 inX12 0 49 q_1448 rfl rfl (by decide) rfl rfl dX12_look_101 ?_
                  refine lv_aload_n (pc := 104) E.1 E.2.1 dX12_look_104 rfl (lv_at hl3 0 rfl) ?_
                  refine x_get (pc := 105) (T := TX12) (N := 70) (ci := 12) (v := .ref (mr 1)) E hw4 inX12 0 1 q_1400 rfl rfl (by decide) rfl rfl dX12_look_105 ?_
                  refine lv_iconst (pc := 108) (v := 5) E.1 E.2.1 dX12_look_108 (by decide +kernel) ?_
                  refine x_iald (pc := 109) (f := (mf 1)) E hw4 1 rfl (inbE (a := 5) (by decide +kernel) (by omega)) dX12_look_109 ?_
                  refine lv_topi (fun v_34 ev_34 => ?_)
                  have hv_34 : v_34.toInt = ((mf 1) 5).toInt := by rw [ev_34]; rfl
                  refine lv_isub (pc := 110) E.1 E.2.1 dX12_look_110 ?_
                  refine lv_topi (fun v_35 ev_35 => ?_)
                  exact em_i (w1 := (fun (u : Int32) => (MW cI cJ M mr (upd mi 0 u) mf mg))) E hr hlk 0 hw4 trivial (Nat.le_of_ble_eq_true rfl) (Nat.le_of_ble_eq_true rfl) dX12_look_111
              · skip
                have hc_11 := eqE (a := z_what.toInt) (b := 6) rfl (by decide +kernel) c_11
                refine lv_aload_n (pc := 89) E.1 E.2.1 dX12_look_89 rfl (lv_at hl3 0 rfl) ?_
                refine x_get (pc := 90) (T := TX12) (N := 70) (ci := 12) (v := .int (mi 42)) E hw4 inX12 0 42 q_1441 rfl rfl (by decide) rfl rfl dX12_look_90 ?_
                exact em_i (w1 := (fun (u : Int32) => (MW cI cJ M mr (upd mi 0 u) mf mg))) E hr hlk 0 hw4 trivial (Nat.le_of_ble_eq_true rfl) (Nat.le_of_ble_eq_true rfl) dX12_look_93
            · skip
              have hc_10 := eqE (a := z_what.toInt) (b := 5) rfl (by decide +kernel) c_10
              refine lv_aload_n (pc := 78) E.1 E.2.1 dX12_look_78 rfl (lv_at hl3 0 rfl) ?_
              refine x_get (pc := 79) (T := TX12) (N := 70) (ci := 12) (v := .int (mi 44)) E hw4 inX12 0 44 q_1443 rfl rfl (by decide) rfl rfl dX12_look_79 ?_
              exact em_i (w1 := (fun (u : Int32) => (MW cI cJ M mr (upd mi 0 u) mf mg))) E hr hlk 0 hw4 trivial (Nat.le_of_ble_eq_true rfl) (Nat.le_of_ble_eq_true rfl) dX12_look_82
          · skip
            have hc_9 := eqE (a := z_what.toInt) (b := 4) rfl (by decide +kernel) c_9
            refine lv_aload_n (pc := 66) E.1 E.2.1 dX12_look_66 rfl (lv_at hl3 0 rfl) ?_
            refine x_get (pc := 67) (T := TX12) (N := 70) (ci := 12) (v := .ref (mr 1)) E hw4 inX12 0 1 q_1400 rfl rfl (by decide) rfl rfl dX12_look_67 ?_
            refine lv_iconst (pc := 70) (v := 1) E.1 E.2.1 dX12_look_70 (by decide +kernel) ?_
            refine x_iald (pc := 71) (f := (mf 1)) E hw4 1 rfl (inbE (a := 1) (by decide +kernel) (by omega)) dX12_look_71 ?_
            refine lv_topi (fun v_36 ev_36 => ?_)
            exact em_i (w1 := (fun (u : Int32) => (MW cI cJ M mr (upd mi 0 u) mf mg))) E hr hlk 0 hw4 trivial (Nat.le_of_ble_eq_true rfl) (Nat.le_of_ble_eq_true rfl) dX12_look_72
        · skip
          have hc_8 := eqE (a := z_what.toInt) (b := 3) rfl (by decide +kernel) c_8
          refine lv_aload_n (pc := 54) E.1 E.2.1 dX12_look_54 rfl (lv_at hl3 0 rfl) ?_
          refine x_get (pc := 55) (T := TX12) (N := 70) (ci := 12) (v := .ref (mr 1)) E hw4 inX12 0 1 q_1400 rfl rfl (by decide) rfl rfl dX12_look_55 ?_
          refine lv_iconst (pc := 58) (v := 2) E.1 E.2.1 dX12_look_58 (by decide +kernel) ?_
          refine x_iald (pc := 59) (f := (mf 1)) E hw4 1 rfl (inbE (a := 2) (by decide +kernel) (by omega)) dX12_look_59 ?_
          refine lv_topi (fun v_37 ev_37 => ?_)
          have hv_37 : v_37.toInt = ((mf 1) 2).toInt := by rw [ev_37]; rfl
          exact em_i (w1 := (fun (u : Int32) => (MW cI cJ M mr (upd mi 0 u) mf mg))) E hr hlk 0 hw4 trivial (Nat.le_of_ble_eq_true rfl) (Nat.le_of_ble_eq_true rfl) dX12_look_60
      · skip
        have hc_7 := eqE (a := z_what.toInt) (b := 2) rfl (by decide +kernel) c_7
        refine lv_aload_n (pc := 42) E.1 E.2.1 dX12_look_42 rfl (lv_at hl3 0 rfl) ?_
        refine x_get (pc := 43) (T := TX12) (N := 70) (ci := 12) (v := .ref (mr 1)) E hw4 inX12 0 1 q_1400 rfl rfl (by decide) rfl rfl dX12_look_43 ?_
        refine lv_iconst (pc := 46) (v := 0) E.1 E.2.1 dX12_look_46 (by decide +kernel) ?_
        refine x_iald (pc := 47) (f := (mf 1)) E hw4 1 rfl (inbE (a := 0) (by decide +kernel) (by omega)) dX12_look_47 ?_
        refine lv_topi (fun v_38 ev_38 => ?_)
        exact em_i (w1 := (fun (u : Int32) => (MW cI cJ M mr (upd mi 0 u) mf mg))) E hr hlk 0 hw4 trivial (Nat.le_of_ble_eq_true rfl) (Nat.le_of_ble_eq_true rfl) dX12_look_48
    · skip
      have hc_6 := eqE (a := z_what.toInt) (b := 1) rfl (by decide +kernel) c_6
      refine lv_aload_n (pc := 19) E.1 E.2.1 dX12_look_19 rfl (lv_at hl3 0 rfl) ?_
      refine x_get (pc := 20) (T := TX12) (N := 70) (ci := 12) (v := .int (mi 6)) E hw4 inX12 0 6 q_1405 rfl rfl (by decide) rfl rfl dX12_look_20 ?_
      refine lv_if_ne (pc := 23) (tgt := 30) E.1 E.2.1 dX12_look_23 (by decide) (fun c_39 => ?_) (fun c_39 => ?_)
      · skip
        have hc_39 := neE (a := (mi 6).toInt) (b := 0) rfl (by decide +kernel) c_39
        refine lv_aload_n (pc := 30) E.1 E.2.1 dX12_look_30 rfl (lv_at hl3 0 rfl) ?_
        refine x_get (pc := 31) (T := TX12) (N := 70) (ci := 12) (v := .ref (mr 1)) E hw4 inX12 0 1 q_1400 rfl rfl (by decide) rfl rfl dX12_look_31 ?_
        refine lv_iconst (pc := 34) (v := 3) E.1 E.2.1 dX12_look_34 (by decide +kernel) ?_
        refine x_iald (pc := 35) (f := (mf 1)) E hw4 1 rfl (inbE (a := 3) (by decide +kernel) (by omega)) dX12_look_35 ?_
        refine lv_topi (fun v_40 ev_40 => ?_)
        have hv_40 : v_40.toInt = ((mf 1) 3).toInt := by rw [ev_40]; rfl
        exact em_i (w1 := (fun (u : Int32) => (MW cI cJ M mr (upd mi 0 u) mf mg))) E hr hlk 0 hw4 trivial (Nat.le_of_ble_eq_true rfl) (Nat.le_of_ble_eq_true rfl) dX12_look_36
      · skip
        have hc_39 := eqE (a := (mi 6).toInt) (b := 0) rfl (by decide +kernel) c_39
        refine lv_iconst (pc := 26) (v := (-1)) E.1 E.2.1 dX12_look_26 (by decide +kernel) ?_
        refine lv_goto (pc := 27) (tgt := 36) E.1 E.2.1 dX12_look_27 (by decide) ?_
        exact em_i (w1 := (fun (u : Int32) => (MW cI cJ M mr (upd mi 0 u) mf mg))) E hr hlk 0 hw4 trivial (Nat.le_of_ble_eq_true rfl) (Nat.le_of_ble_eq_true rfl) dX12_look_36
  · skip
    have hc_5 := eqE (a := z_what.toInt) (b := 0) rfl (by decide +kernel) c_5
    refine lv_aload_n (pc := 9) E.1 E.2.1 dX12_look_9 rfl (lv_at hl3 0 rfl) ?_
    refine x_get (pc := 10) (T := TX12) (N := 70) (ci := 12) (v := .int (mi 6)) E hw4 inX12 0 6 q_1405 rfl rfl (by decide) rfl rfl dX12_look_10 ?_
    exact em_i (w1 := (fun (u : Int32) => (MW cI cJ M mr (upd mi 0 u) mf mg))) E hr hlk 0 hw4 trivial (Nat.le_of_ble_eq_true rfl) (Nat.le_of_ble_eq_true rfl) dX12_look_13

set_option maxHeartbeats 4000000 in
set_option maxRecDepth 100000 in
theorem s_canAsk (l : Launch) (D : va_G) (cI cJ : ClassId) (sz M : Nat) (mr : Nat → Nat) (mi : Nat → Int32) (mf : Nat → Nat → Int32) (mg : Nat → Nat → Int64) (z_w : Int32)  : Met l yX12_canAsk (Cond.code yX12_canAsk cX12_canAsk 2 (some .boolean) :: GW) ({ frames := 2, cells := 0, slots := 0, locals := 63 } : Room) (va_Pc [.ref M, .int z_w] (PW D cI cJ sz (MW cI cJ M mr mi mf mg) xT)) (va_Qi (fun (r : Int32) (u : Unit) => ((r = 1 ∧ 6 ≤ z_w.toInt ∧ z_w.toInt ≤ 15) ∨ (r = 0))) (fun u => QW D cI cJ (va_A (MW cI cJ M mr mi mf mg) sz) ((fun (u : Unit) => (MW cI cJ M mr mi mf mg)) u)) (va_A (MW cI cJ M mr mi mf mg) sz)) 0 0 (va_A (MW cI cJ M mr mi mf mg) sz) := by
  refine mk_met (y := yX12_canAsk) (bytes := cX12_canAsk) (maxL := 2) (avs := [.ref M, .int z_w]) (WS := (MW cI cJ M mr mi mf mg)) (Qf := fun A => va_Qi (fun (r : Int32) (u : Unit) => ((r = 1 ∧ 6 ≤ z_w.toInt ∧ z_w.toInt ≤ 15) ∨ (r = 0))) (fun u => QW D cI cJ A ((fun (u : Unit) => (MW cI cJ M mr mi mf mg)) u)) A) (by decide) (Nat.le_of_ble_eq_true rfl) ?_
  intro p e s m below meth c A ls E hr hlk hnm hX hw1 hl2
  have hl3 : lv_has ls 2 [(0, .ref M), (1, .int z_w)] := hl2
  refine lv_aload_n (pc := 0) E.1 E.2.1 dX12_canAsk_0 rfl (lv_at hl3 0 rfl) ?_
  refine lv_iload_n (pc := 1) E.1 E.2.1 dX12_canAsk_1 rfl (lv_at hl3 1 rfl) ?_
  refine lv_bipush (pc := 2) (v := 6) E.1 E.2.1 dX12_canAsk_2 (by decide +kernel) ?_
  refine lv_aload_n (pc := 4) E.1 E.2.1 dX12_canAsk_4 rfl (lv_at hl3 0 rfl) ?_
  refine x_get (pc := 5) (T := TX12) (N := 70) (ci := 12) (v := .int (mi 33)) E hw1 inX12 0 33 q_1432 rfl rfl (by decide) rfl rfl dX12_canAsk_5 ?_
  refine lv_if_ne (pc := 8) (tgt := 16) E.1 E.2.1 dX12_canAsk_8 (by decide) (fun c_4 => ?_) (fun c_4 => ?_)
  · skip
    have hc_4 := neE (a := (mi 33).toInt) (b := 0) rfl (by decide +kernel) c_4
    refine lv_bipush (pc := 16) (v := 13) E.1 E.2.1 dX12_canAsk_16 (by decide +kernel) ?_
    refine cm_i (pc := 18) hw1 (rn_M (As := [.int z_w, .int 6, .int 13]) (rest := []) E hw1 (s_isIn l D cI cJ _ M mr mi mf mg z_w 6 13) (gdV q_1622 q_1624 q_46 q_162 q_1625) hdV_X12_isIn ⟨rfl, rfl⟩ ⟨(Nat.le_of_ble_eq_true rfl), (Nat.le_of_ble_eq_true rfl)⟩ ⟨(Nat.le_of_ble_eq_true rfl), (Nat.le_of_ble_eq_true rfl)⟩ 12 rfl rfl rfl rfl hl3.1 rfl (Nat.le_of_ble_eq_true rfl) dX12_canAsk_18) (fun r_6 u_5 H1 locs hp hw7 => ?_)
    generalize H1 = H at hw7 ⊢
    have hw8 : WD D A s.heap (MW cI cJ M mr mi mf mg) H locs := hw7
    have hp_9 := hp
    rcases hp_9 with ⟨rfl, ha_10⟩ | ⟨rfl, ha_11⟩ | ⟨rfl, ha_12, ha_13⟩
    · skip
      have ha_10 : z_w.toInt < (6 : Int32).toInt := ha_10
      rw [show (6 : Int32).toInt = 6 from by decide +kernel] at ha_10
      exact em_z (w1 := (fun (u : Unit) => (MW cI cJ M mr mi mf mg))) E hr hlk () hw8 (Or.inr (rfl)) (by decide +kernel) (Nat.le_of_ble_eq_true rfl) (Nat.le_of_ble_eq_true rfl) dX12_canAsk_21
    · skip
      have ha_11 : (13 : Int32).toInt < z_w.toInt := ha_11
      rw [show (13 : Int32).toInt = 13 from by decide +kernel] at ha_11
      exact em_z (w1 := (fun (u : Unit) => (MW cI cJ M mr mi mf mg))) E hr hlk () hw8 (Or.inr (rfl)) (by decide +kernel) (Nat.le_of_ble_eq_true rfl) (Nat.le_of_ble_eq_true rfl) dX12_canAsk_21
    · skip
      have ha_12 : (6 : Int32).toInt ≤ z_w.toInt := ha_12
      rw [show (6 : Int32).toInt = 6 from by decide +kernel] at ha_12
      have ha_13 : z_w.toInt ≤ (13 : Int32).toInt := ha_13
      rw [show (13 : Int32).toInt = 13 from by decide +kernel] at ha_13
      exact em_z (w1 := (fun (u : Unit) => (MW cI cJ M mr mi mf mg))) E hr hlk () hw8 (Or.inl ⟨rfl, (by show 6 ≤ z_w.toInt; omega), (by show z_w.toInt ≤ 15; omega)⟩) (by decide +kernel) (Nat.le_of_ble_eq_true rfl) (Nat.le_of_ble_eq_true rfl) dX12_canAsk_21
  · skip
    have hc_4 := eqE (a := (mi 33).toInt) (b := 0) rfl (by decide +kernel) c_4
    refine lv_bipush (pc := 11) (v := 15) E.1 E.2.1 dX12_canAsk_11 (by decide +kernel) ?_
    refine lv_goto (pc := 13) (tgt := 18) E.1 E.2.1 dX12_canAsk_13 (by decide) ?_
    refine cm_i (pc := 18) hw1 (rn_M (As := [.int z_w, .int 6, .int 15]) (rest := []) E hw1 (s_isIn l D cI cJ _ M mr mi mf mg z_w 6 15) (gdV q_1622 q_1624 q_46 q_162 q_1625) hdV_X12_isIn ⟨rfl, rfl⟩ ⟨(Nat.le_of_ble_eq_true rfl), (Nat.le_of_ble_eq_true rfl)⟩ ⟨(Nat.le_of_ble_eq_true rfl), (Nat.le_of_ble_eq_true rfl)⟩ 12 rfl rfl rfl rfl hl3.1 rfl (Nat.le_of_ble_eq_true rfl) dX12_canAsk_18) (fun r_15 u_14 H1 locs hp hw16 => ?_)
    generalize H1 = H at hw16 ⊢
    have hw17 : WD D A s.heap (MW cI cJ M mr mi mf mg) H locs := hw16
    have hp_18 := hp
    rcases hp_18 with ⟨rfl, ha_19⟩ | ⟨rfl, ha_20⟩ | ⟨rfl, ha_21, ha_22⟩
    · skip
      have ha_19 : z_w.toInt < (6 : Int32).toInt := ha_19
      rw [show (6 : Int32).toInt = 6 from by decide +kernel] at ha_19
      exact em_z (w1 := (fun (u : Unit) => (MW cI cJ M mr mi mf mg))) E hr hlk () hw17 (Or.inr (rfl)) (by decide +kernel) (Nat.le_of_ble_eq_true rfl) (Nat.le_of_ble_eq_true rfl) dX12_canAsk_21
    · skip
      have ha_20 : (15 : Int32).toInt < z_w.toInt := ha_20
      rw [show (15 : Int32).toInt = 15 from by decide +kernel] at ha_20
      exact em_z (w1 := (fun (u : Unit) => (MW cI cJ M mr mi mf mg))) E hr hlk () hw17 (Or.inr (rfl)) (by decide +kernel) (Nat.le_of_ble_eq_true rfl) (Nat.le_of_ble_eq_true rfl) dX12_canAsk_21
    · skip
      have ha_21 : (6 : Int32).toInt ≤ z_w.toInt := ha_21
      rw [show (6 : Int32).toInt = 6 from by decide +kernel] at ha_21
      have ha_22 : z_w.toInt ≤ (15 : Int32).toInt := ha_22
      rw [show (15 : Int32).toInt = 15 from by decide +kernel] at ha_22
      exact em_z (w1 := (fun (u : Unit) => (MW cI cJ M mr mi mf mg))) E hr hlk () hw17 (Or.inl ⟨rfl, (by show 6 ≤ z_w.toInt; omega), (by show z_w.toInt ≤ 15; omega)⟩) (by decide +kernel) (Nat.le_of_ble_eq_true rfl) (Nat.le_of_ble_eq_true rfl) dX12_canAsk_21

set_option maxHeartbeats 4000000 in
set_option maxRecDepth 100000 in
theorem s_far (l : Launch) (D : va_G) (cI cJ : ClassId) (sz M : Nat) (mr : Nat → Nat) (mi : Nat → Int32) (mf : Nat → Nat → Int32) (mg : Nat → Nat → Int64) (z_a : Int32) (z_b : Int32) (h0 : 0 ≤ (mi 6).toInt ∧ (mi 6).toInt ≤ 10) (h1 : 0 ≤ (mi 42).toInt ∧ (mi 42).toInt ≤ 40) (a_paths : pathsOK (mf 43)) : Met l yX12_far (Cond.code yX12_far cX12_far 3 (some .int) :: GW) ({ frames := 2, cells := 0, slots := 0, locals := 65 } : Room) (va_Pc [.ref M, .int z_a, .int z_b] (PW D cI cJ sz (MW cI cJ M mr mi mf mg) xT)) (va_Qi (fun (r : Int32) (u : Int32 × (Nat → Int32)) => True) (fun u => QW D cI cJ (va_A (MW cI cJ M mr mi mf mg) sz) ((fun (u : Int32 × (Nat → Int32)) => (MW cI cJ M mr (upd mi 0 u.1) (va_up mf 55 u.2) mg)) u)) (va_A (MW cI cJ M mr mi mf mg) sz)) 0 0 (va_A (MW cI cJ M mr mi mf mg) sz) := by
  refine mk_met (y := yX12_far) (bytes := cX12_far) (maxL := 3) (avs := [.ref M, .int z_a, .int z_b]) (WS := (MW cI cJ M mr mi mf mg)) (Qf := fun A => va_Qi (fun (r : Int32) (u : Int32 × (Nat → Int32)) => True) (fun u => QW D cI cJ A ((fun (u : Int32 × (Nat → Int32)) => (MW cI cJ M mr (upd mi 0 u.1) (va_up mf 55 u.2) mg)) u)) A) (by decide) (Nat.le_of_ble_eq_true rfl) ?_
  intro p e s m below meth c A ls E hr hlk hnm hX hw1 hl2
  have hl3 : lv_has ls 3 [(0, .ref M), (1, .int z_a), (2, .int z_b)] := hl2
  refine lv_aload_n (pc := 0) E.1 E.2.1 dX12_far_0 rfl (lv_at hl3 0 rfl) ?_
  refine lv_iconst (pc := 1) (v := 0) E.1 E.2.1 dX12_far_1 (by decide +kernel) ?_
  refine x_put (pc := 2) (T := TX12) (N := 70) (ci := 12) (ws' := (MW cI cJ M mr (upd mi 0 0) mf mg)) E hw1 inX12 tyX12_ok nmX12 0 0 q_1399 rfl rfl (by decide) rfl rfl rfl rfl (Nat.le_of_ble_eq_true rfl) rfl dX12_far_2 (fun H locs hw4 => ?_)
  refine lv_aload_n (pc := 5) E.1 E.2.1 dX12_far_5 rfl (lv_at hl3 0 rfl) ?_
  refine lv_iload_n (pc := 6) E.1 E.2.1 dX12_far_6 rfl (lv_at hl3 1 rfl) ?_
  refine cm_i (pc := 7) hw4 (rn_M (As := [.int z_a]) (rest := []) E hw4 (s_isHouse l D cI cJ _ M mr (upd mi 0 0) mf mg z_a) (gdV q_1634 q_1636 q_48 q_162 q_1637) hdV_X12_isHouse ⟨rfl, rfl⟩ ⟨(Nat.le_of_ble_eq_true rfl), (Nat.le_of_ble_eq_true rfl)⟩ ⟨(Nat.le_of_ble_eq_true rfl), (Nat.le_of_ble_eq_true rfl)⟩ 12 rfl rfl rfl rfl hl3.1 rfl (Nat.le_of_ble_eq_true rfl) dX12_far_7) (fun r_6 u_5 H1 locs hp hw7 => ?_)
  generalize H1 = H at hw7 ⊢
  have hw8 : WD D A s.heap (MW cI cJ M mr (upd mi 0 0) mf mg) H locs := hw7
  have hp_9 := hp
  rcases hp_9 with ⟨rfl, ha_10⟩ | ⟨rfl, ha_11⟩ | ⟨rfl, ha_12, ha_13⟩
  · skip
    have ha_10 : z_a.toInt < 0 := ha_10
    refine lv_if_eq (pc := 10) (tgt := 21) E.1 E.2.1 dX12_far_10 (by decide) (fun _ => ?_) (fun c_14 => absurd (meqE (a := 0) (b := 0) (by decide +kernel) (by decide +kernel) (by omega)) c_14)
    refine lv_iconst (pc := 21) (v := (-1)) E.1 E.2.1 dX12_far_21 (by decide +kernel) ?_
    exact em_i (w1 := (fun (u : Int32 × (Nat → Int32)) => (MW cI cJ M mr (upd mi 0 u.1) (va_up mf 55 u.2) mg))) E hr hlk (0, (mf 55)) hw8 trivial (Nat.le_of_ble_eq_true rfl) (Nat.le_of_ble_eq_true rfl) dX12_far_22
  · skip
    have ha_11 : (mi 6).toInt ≤ z_a.toInt := ha_11
    refine lv_if_eq (pc := 10) (tgt := 21) E.1 E.2.1 dX12_far_10 (by decide) (fun _ => ?_) (fun c_15 => absurd (meqE (a := 0) (b := 0) (by decide +kernel) (by decide +kernel) (by omega)) c_15)
    refine lv_iconst (pc := 21) (v := (-1)) E.1 E.2.1 dX12_far_21 (by decide +kernel) ?_
    exact em_i (w1 := (fun (u : Int32 × (Nat → Int32)) => (MW cI cJ M mr (upd mi 0 u.1) (va_up mf 55 u.2) mg))) E hr hlk (0, (mf 55)) hw8 trivial (Nat.le_of_ble_eq_true rfl) (Nat.le_of_ble_eq_true rfl) dX12_far_22
  · skip
    have ha_12 : 0 ≤ z_a.toInt := ha_12
    have ha_13 : z_a.toInt < (mi 6).toInt := ha_13
    refine lv_if_eq (pc := 10) (tgt := 21) E.1 E.2.1 dX12_far_10 (by decide) (fun c_16 => absurd c_16 (mneE (a := 1) (b := 0) (by decide +kernel) (by decide +kernel) (by omega))) (fun _ => ?_)
    refine lv_aload_n (pc := 13) E.1 E.2.1 dX12_far_13 rfl (lv_at hl3 0 rfl) ?_
    refine lv_iload_n (pc := 14) E.1 E.2.1 dX12_far_14 rfl (lv_at hl3 2 rfl) ?_
    refine cm_i (pc := 15) hw8 (rn_M (As := [.int z_b]) (rest := []) E hw8 (s_isHouse l D cI cJ _ M mr (upd mi 0 0) mf mg z_b) (gdV q_1634 q_1636 q_48 q_162 q_1637) hdV_X12_isHouse ⟨rfl, rfl⟩ ⟨(Nat.le_of_ble_eq_true rfl), (Nat.le_of_ble_eq_true rfl)⟩ ⟨(Nat.le_of_ble_eq_true rfl), (Nat.le_of_ble_eq_true rfl)⟩ 12 rfl rfl rfl rfl hl3.1 rfl (Nat.le_of_ble_eq_true rfl) dX12_far_15) (fun r_18 u_17 H1 locs hp hw19 => ?_)
    generalize H1 = H at hw19 ⊢
    have hw20 : WD D A s.heap (MW cI cJ M mr (upd mi 0 0) mf mg) H locs := hw19
    have hp_21 := hp
    rcases hp_21 with ⟨rfl, ha_22⟩ | ⟨rfl, ha_23⟩ | ⟨rfl, ha_24, ha_25⟩
    · skip
      have ha_22 : z_b.toInt < 0 := ha_22
      refine lv_if_ne (pc := 18) (tgt := 23) E.1 E.2.1 dX12_far_18 (by decide) (fun c_26 => absurd (meqE (a := 0) (b := 0) (by decide +kernel) (by decide +kernel) (by omega)) c_26) (fun _ => ?_)
      refine lv_iconst (pc := 21) (v := (-1)) E.1 E.2.1 dX12_far_21 (by decide +kernel) ?_
      exact em_i (w1 := (fun (u : Int32 × (Nat → Int32)) => (MW cI cJ M mr (upd mi 0 u.1) (va_up mf 55 u.2) mg))) E hr hlk (0, (mf 55)) hw20 trivial (Nat.le_of_ble_eq_true rfl) (Nat.le_of_ble_eq_true rfl) dX12_far_22
    · skip
      have ha_23 : (mi 6).toInt ≤ z_b.toInt := ha_23
      refine lv_if_ne (pc := 18) (tgt := 23) E.1 E.2.1 dX12_far_18 (by decide) (fun c_27 => absurd (meqE (a := 0) (b := 0) (by decide +kernel) (by decide +kernel) (by omega)) c_27) (fun _ => ?_)
      refine lv_iconst (pc := 21) (v := (-1)) E.1 E.2.1 dX12_far_21 (by decide +kernel) ?_
      exact em_i (w1 := (fun (u : Int32 × (Nat → Int32)) => (MW cI cJ M mr (upd mi 0 u.1) (va_up mf 55 u.2) mg))) E hr hlk (0, (mf 55)) hw20 trivial (Nat.le_of_ble_eq_true rfl) (Nat.le_of_ble_eq_true rfl) dX12_far_22
    · skip
      have ha_24 : 0 ≤ z_b.toInt := ha_24
      have ha_25 : z_b.toInt < (mi 6).toInt := ha_25
      refine lv_if_ne (pc := 18) (tgt := 23) E.1 E.2.1 dX12_far_18 (by decide) (fun _ => ?_) (fun c_28 => absurd c_28 (mneE (a := 1) (b := 0) (by decide +kernel) (by decide +kernel) (by omega)))
      refine lv_aload_n (pc := 23) E.1 E.2.1 dX12_far_23 rfl (lv_at hl3 0 rfl) ?_
      refine lv_aload_n (pc := 24) E.1 E.2.1 dX12_far_24 rfl (lv_at hl3 0 rfl) ?_
      refine x_get (pc := 25) (T := TX12) (N := 70) (ci := 12) (v := .ref (mr 1)) E hw20 inX12 0 1 q_1400 rfl rfl (by decide) rfl rfl dX12_far_25 ?_
      refine lv_iconst (pc := 28) (v := 4) E.1 E.2.1 dX12_far_28 (by decide +kernel) ?_
      refine x_iald (pc := 29) (f := (mf 1)) E hw20 1 rfl (inbE (a := 4) (by decide +kernel) (by omega)) dX12_far_29 ?_
      refine lv_topi (fun v_29 ev_29 => ?_)
      refine cm_v (pc := 30) hw20 (rn_M (As := [.int v_29]) (rest := []) E hw20 (s_findsFar l D cI cJ _ M mr (upd mi 0 0) mf mg v_29 h0 h1 a_paths) (gdV q_1822 q_1824 q_89 q_162 q_1825) hdV_X12_findsFar ⟨rfl, rfl⟩ ⟨(Nat.le_of_ble_eq_true rfl), (Nat.le_of_ble_eq_true rfl)⟩ ⟨(Nat.le_of_ble_eq_true rfl), (Nat.le_of_ble_eq_true rfl)⟩ 12 rfl rfl rfl rfl hl3.1 rfl (Nat.le_of_ble_eq_true rfl) dX12_far_30) (fun u_30 H1 locs hp hw32 => ?_)
      obtain ⟨gfarOf_33, rfl⟩ : ∃ z, z = u_30 := ⟨_, rfl⟩
      generalize H1 = H at hw32 ⊢
      have hw34 : WD D A s.heap (MW cI cJ M mr (upd mi 0 0) (va_up mf 55 gfarOf_33) mg) H locs := hw32
      refine lv_aload_n (pc := 33) E.1 E.2.1 dX12_far_33 rfl (lv_at hl3 0 rfl) ?_
      refine x_get (pc := 34) (T := TX12) (N := 70) (ci := 12) (v := .ref (mr 55)) E hw34 inX12 0 55 q_1454 rfl rfl (by decide) rfl rfl dX12_far_34 ?_
      refine lv_bipush (pc := 37) (v := 10) E.1 E.2.1 dX12_far_37 (by decide +kernel) ?_
      refine lv_iload_n (pc := 39) E.1 E.2.1 dX12_far_39 rfl (lv_at hl3 1 rfl) ?_
      refine lv_imul (pc := 40) E.1 E.2.1 dX12_far_40 ?_
      refine lv_topi (fun v_35 ev_35 => ?_)
      have hv_35 : v_35.toInt = 10 * z_a.toInt := by rw [ev_35]; exact mulE (by decide +kernel) rfl (by omega)
      refine lv_iload_n (pc := 41) E.1 E.2.1 dX12_far_41 rfl (lv_at hl3 2 rfl) ?_
      refine lv_iadd (pc := 42) E.1 E.2.1 dX12_far_42 ?_
      refine lv_topi (fun v_36 ev_36 => ?_)
      have hv_36 : v_36.toInt = v_35.toInt + z_b.toInt := by rw [ev_36]; exact addE rfl rfl (by omega)
      refine x_iald (pc := 43) (f := gfarOf_33) E hw34 30 rfl (inbE (a := v_36.toInt) rfl (by omega)) dX12_far_43 ?_
      refine lv_topi (fun v_37 ev_37 => ?_)
      refine lv_ldcw (pc := 44) (v := 100000) E.1 E.2.1 E.2.2.2.1 (E.2.2.2.2.1 _ q_1826) dX12_far_44 ?_
      refine lv_icmp_lt (pc := 47) (tgt := 54) E.1 E.2.1 dX12_far_47 (by decide) (fun c_38 => ?_) (fun c_38 => ?_)
      · skip
        have hc_38 := ltE (a := v_37.toInt) (b := 100000) rfl (by decide +kernel) c_38
        refine lv_aload_n (pc := 54) E.1 E.2.1 dX12_far_54 rfl (lv_at hl3 0 rfl) ?_
        refine x_get (pc := 55) (T := TX12) (N := 70) (ci := 12) (v := .ref (mr 55)) E hw34 inX12 0 55 q_1454 rfl rfl (by decide) rfl rfl dX12_far_55 ?_
        refine lv_bipush (pc := 58) (v := 10) E.1 E.2.1 dX12_far_58 (by decide +kernel) ?_
        refine lv_iload_n (pc := 60) E.1 E.2.1 dX12_far_60 rfl (lv_at hl3 1 rfl) ?_
        refine lv_imul (pc := 61) E.1 E.2.1 dX12_far_61 ?_
        refine lv_topi (fun v_39 ev_39 => ?_)
        have hv_39 : v_39.toInt = 10 * z_a.toInt := by rw [ev_39]; exact mulE (by decide +kernel) rfl (by omega)
        refine lv_iload_n (pc := 62) E.1 E.2.1 dX12_far_62 rfl (lv_at hl3 2 rfl) ?_
        refine lv_iadd (pc := 63) E.1 E.2.1 dX12_far_63 ?_
        refine lv_topi (fun v_40 ev_40 => ?_)
        have hv_40 : v_40.toInt = v_39.toInt + z_b.toInt := by rw [ev_40]; exact addE rfl rfl (by omega)
        refine x_iald (pc := 64) (f := gfarOf_33) E hw34 30 rfl (inbE (a := v_40.toInt) rfl (by omega)) dX12_far_64 ?_
        refine lv_topi (fun v_41 ev_41 => ?_)
        exact em_i (w1 := (fun (u : Int32 × (Nat → Int32)) => (MW cI cJ M mr (upd mi 0 u.1) (va_up mf 55 u.2) mg))) E hr hlk (0, gfarOf_33) hw34 trivial (Nat.le_of_ble_eq_true rfl) (Nat.le_of_ble_eq_true rfl) dX12_far_65
      · skip
        have hc_38 := nltE (a := v_37.toInt) (b := 100000) rfl (by decide +kernel) c_38
        refine lv_iconst (pc := 50) (v := (-1)) E.1 E.2.1 dX12_far_50 (by decide +kernel) ?_
        refine lv_goto (pc := 51) (tgt := 65) E.1 E.2.1 dX12_far_51 (by decide) ?_
        exact em_i (w1 := (fun (u : Int32 × (Nat → Int32)) => (MW cI cJ M mr (upd mi 0 u.1) (va_up mf 55 u.2) mg))) E hr hlk (0, gfarOf_33) hw34 trivial (Nat.le_of_ble_eq_true rfl) (Nat.le_of_ble_eq_true rfl) dX12_far_65

set_option maxHeartbeats 4000000 in
set_option maxRecDepth 100000 in
theorem s_sureOf (l : Launch) (D : va_G) (cI cJ : ClassId) (sz M : Nat) (mr : Nat → Nat) (mi : Nat → Int32) (mf : Nat → Nat → Int32) (mg : Nat → Nat → Int64) (z_h : Int32) (z_g : Int32) (z_k : Int32) (h0 : 0 ≤ (mi 6).toInt ∧ (mi 6).toInt ≤ 10) (h1 : 0 ≤ (mi 42).toInt ∧ (mi 42).toInt ≤ 40) (h2 : 0 ≤ z_h.toInt ∧ z_h.toInt ≤ 9) (h3 : 0 ≤ z_g.toInt ∧ z_g.toInt ≤ 9) (h4 : 1 ≤ z_k.toInt ∧ z_k.toInt ≤ 9) (a_paths : pathsOK (mf 43)) : Met l yX12_sureOf (Cond.code yX12_sureOf cX12_sureOf 6 (some .int) :: GW) ({ frames := 4, cells := 0, slots := 0, locals := 109 } : Room) (va_Pc [.ref M, .int z_h, .int z_g, .int z_k] (PW D cI cJ sz (MW cI cJ M mr mi mf mg) xT)) (va_Qi (fun (r : Int32) (u : (Nat → Int32) × (Nat → Int32) × (Nat → Int32)) => True) (fun u => QW D cI cJ (va_A (MW cI cJ M mr mi mf mg) sz) ((fun (u : (Nat → Int32) × (Nat → Int32) × (Nat → Int32)) => (MW cI cJ M mr mi (va_up (va_up (va_up mf 55 u.1) 62 u.2.1) 63 u.2.2) mg)) u)) (va_A (MW cI cJ M mr mi mf mg) sz)) 0 0 (va_A (MW cI cJ M mr mi mf mg) sz) := by
  refine mk_met (y := yX12_sureOf) (bytes := cX12_sureOf) (maxL := 6) (avs := [.ref M, .int z_h, .int z_g, .int z_k]) (WS := (MW cI cJ M mr mi mf mg)) (Qf := fun A => va_Qi (fun (r : Int32) (u : (Nat → Int32) × (Nat → Int32) × (Nat → Int32)) => True) (fun u => QW D cI cJ A ((fun (u : (Nat → Int32) × (Nat → Int32) × (Nat → Int32)) => (MW cI cJ M mr mi (va_up (va_up (va_up mf 55 u.1) 62 u.2.1) 63 u.2.2) mg)) u)) A) (by decide) (Nat.le_of_ble_eq_true rfl) ?_
  intro p e s m below meth c A ls E hr hlk hnm hX hw1 hl2
  have hl3 : lv_has ls 6 [(0, .ref M), (1, .int z_h), (2, .int z_g), (3, .int z_k)] := hl2
  refine lv_aload_n (pc := 0) E.1 E.2.1 dX12_sureOf_0 rfl (lv_at hl3 0 rfl) ?_
  refine lv_iload_n (pc := 1) E.1 E.2.1 dX12_sureOf_1 rfl (lv_at hl3 3 rfl) ?_
  refine cm_v (pc := 2) hw1 (rn_M (As := [.int z_k]) (rest := []) E hw1 (s_findsChances l D cI cJ _ M mr mi mf mg z_k h4) (gdV q_2070 q_2072 q_139 q_162 q_2073) hdV_X12_findsChances ⟨rfl, rfl⟩ ⟨(Nat.le_of_ble_eq_true rfl), (Nat.le_of_ble_eq_true rfl)⟩ ⟨(Nat.le_of_ble_eq_true rfl), (Nat.le_of_ble_eq_true rfl)⟩ 12 rfl rfl rfl rfl hl3.1 rfl (Nat.le_of_ble_eq_true rfl) dX12_sureOf_2) (fun u_4 H1 locs hp hw6 => ?_)
  obtain ⟨gchances_7, gchancesThen_8⟩ := u_4
  generalize H1 = H at hw6 ⊢
  have hw9 : WD D A s.heap (MW cI cJ M mr mi (va_up (va_up mf 62 gchances_7) 63 gchancesThen_8) mg) H locs := hw6
  refine lv_iconst (pc := 5) (v := 0) E.1 E.2.1 dX12_sureOf_5 (by decide +kernel) ?_
  refine lv_istore (pc := 6) (lv' := [(4, .int 0), (0, .ref M), (1, .int z_h), (2, .int z_g), (3, .int z_k)]) E.1 E.2.1 dX12_sureOf_6 hl3 (by decide) rfl (fun ls hl10 => ?_)
  refine lv_iconst (pc := 8) (v := 0) E.1 E.2.1 dX12_sureOf_8 (by decide +kernel) ?_
  refine lv_istore (pc := 9) (lv' := [(5, .int 0), (4, .int 0), (0, .ref M), (1, .int z_h), (2, .int z_g), (3, .int z_k)]) E.1 E.2.1 dX12_sureOf_9 hl10 (by decide) rfl (fun ls hl11 => ?_)
  have loop_12 : ∀ (k : Nat) (x_13 : Int32) (x_14 : Int32) (g_15 : Nat → Int32) (H : Heap) (locs : List Loc) (ls : Array Slot), (0 ≤ x_13.toInt) ∧ (x_13.toInt ≤ 10) → 10 - x_13.toInt < (k : Int) → WD D A s.heap (MW cI cJ M mr mi (va_up (va_up (va_up mf 55 g_15) 62 gchances_7) 63 gchancesThen_8) mg) H locs → lv_has ls 6 [(5, .int x_13), (4, .int x_14), (0, .ref M), (1, .int z_h), (2, .int z_g), (3, .int z_k)] → W p l e ({ frames := 4, cells := 0, slots := 0, locals := 109 } : Room) s m ([.ref M, .int z_h, .int z_g, .int z_k] : List Value).toArray below meth c H locs 0 0 (MQ below (va_Qi (fun (r : Int32) (u : (Nat → Int32) × (Nat → Int32) × (Nat → Int32)) => True) (fun u => QW D cI cJ A ((fun (u : (Nat → Int32) × (Nat → Int32) × (Nat → Int32)) => (MW cI cJ M mr mi (va_up (va_up (va_up mf 55 u.1) 62 u.2.1) 63 u.2.2) mg)) u)) A) ([.ref M, .int z_h, .int z_g, .int z_k] : List Value).toArray s 0 0 A) (F0 m 11 ls []) := by
    intro k
    induction k with
    | zero =>
      intro x_13 x_14 g_15 _ _ _ hinv hm
      obtain ⟨hi_15_0, hi_15_1⟩ := hinv
      exact absurd hm (by omega)
    | succ k ih_16 =>
      intro x_13 x_14 g_15 H locs ls hinv hm hw17 hl18
      obtain ⟨hi_15_0, hi_15_1⟩ := hinv
      refine lv_iload (pc := 11) E.1 E.2.1 dX12_sureOf_11 (lv_at hl18 0 rfl) ?_
      refine lv_bipush (pc := 13) (v := 9) E.1 E.2.1 dX12_sureOf_13 (by decide +kernel) ?_
      refine lv_icmp_gt (pc := 15) (tgt := 51) E.1 E.2.1 dX12_sureOf_15 (by decide) (fun c_19 => ?_) (fun c_19 => ?_)
      · skip
        have hc_19 := ltE (a := 9) (b := x_13.toInt) (by decide +kernel) rfl c_19
        refine lv_iload (pc := 51) E.1 E.2.1 dX12_sureOf_51 (lv_at hl18 1 rfl) ?_
        exact em_i (w1 := (fun (u : (Nat → Int32) × (Nat → Int32) × (Nat → Int32)) => (MW cI cJ M mr mi (va_up (va_up (va_up mf 55 u.1) 62 u.2.1) 63 u.2.2) mg))) E hr hlk (g_15, gchances_7, gchancesThen_8) hw17 trivial (Nat.le_of_ble_eq_true rfl) (Nat.le_of_ble_eq_true rfl) dX12_sureOf_53
      · skip
        have hc_19 := nltE (a := 9) (b := x_13.toInt) (by decide +kernel) rfl c_19
        refine lv_aload_n (pc := 18) E.1 E.2.1 dX12_sureOf_18 rfl (lv_at hl18 2 rfl) ?_
        refine lv_iload (pc := 19) E.1 E.2.1 dX12_sureOf_19 (lv_at hl18 0 rfl) ?_
        refine cm_v (pc := 21) hw17 (rn_M (As := [.int x_13]) (rest := []) E hw17 (s_findsFar l D cI cJ _ M mr mi (va_up (va_up (va_up mf 55 g_15) 62 gchances_7) 63 gchancesThen_8) mg x_13 h0 h1 a_paths) (gdV q_1822 q_1824 q_89 q_162 q_1825) hdV_X12_findsFar ⟨rfl, rfl⟩ ⟨(Nat.le_of_ble_eq_true rfl), (Nat.le_of_ble_eq_true rfl)⟩ ⟨(Nat.le_of_ble_eq_true rfl), (Nat.le_of_ble_eq_true rfl)⟩ 12 rfl rfl rfl rfl hl18.1 rfl (Nat.le_of_ble_eq_true rfl) dX12_sureOf_21) (fun u_20 H1 locs hp hw22 => ?_)
        obtain ⟨gfarOf_23, rfl⟩ : ∃ z, z = u_20 := ⟨_, rfl⟩
        generalize H1 = H at hw22 ⊢
        have hw24 : WD D A s.heap (MW cI cJ M mr mi (va_up (va_up (va_up mf 55 gfarOf_23) 62 gchances_7) 63 gchancesThen_8) mg) H locs := hw22
        refine lv_aload_n (pc := 24) E.1 E.2.1 dX12_sureOf_24 rfl (lv_at hl18 2 rfl) ?_
        refine lv_iload_n (pc := 25) E.1 E.2.1 dX12_sureOf_25 rfl (lv_at hl18 3 rfl) ?_
        refine lv_iload_n (pc := 26) E.1 E.2.1 dX12_sureOf_26 rfl (lv_at hl18 4 rfl) ?_
        refine cm_i (pc := 27) hw24 (rn_M (As := [.int z_h, .int z_g]) (rest := []) E hw24 (s_isReached l D cI cJ _ M mr mi (va_up (va_up (va_up mf 55 gfarOf_23) 62 gchances_7) 63 gchancesThen_8) mg z_h z_g h2 h3) (gdV q_1843 q_1845 q_93 q_162 q_1846) hdV_X12_isReached ⟨rfl, rfl⟩ ⟨(Nat.le_of_ble_eq_true rfl), (Nat.le_of_ble_eq_true rfl)⟩ ⟨(Nat.le_of_ble_eq_true rfl), (Nat.le_of_ble_eq_true rfl)⟩ 12 rfl rfl rfl rfl hl18.1 rfl (Nat.le_of_ble_eq_true rfl) dX12_sureOf_27) (fun r_26 u_25 H1 locs hp hw27 => ?_)
        generalize H1 = H at hw27 ⊢
        have hw28 : WD D A s.heap (MW cI cJ M mr mi (va_up (va_up (va_up mf 55 gfarOf_23) 62 gchances_7) 63 gchancesThen_8) mg) H locs := hw27
        have hp_29 := hp
        rcases hp_29 with ⟨rfl, ha_30⟩ | rfl | ⟨rfl, ha_31⟩
        · skip
          have ha_30 : z_h.toInt = z_g.toInt := ha_30
          refine lv_if_eq (pc := 30) (tgt := 45) E.1 E.2.1 dX12_sureOf_30 (by decide) (fun c_32 => absurd c_32 (mneE (a := 1) (b := 0) (by decide +kernel) (by decide +kernel) (by omega))) (fun _ => ?_)
          refine lv_iload (pc := 33) E.1 E.2.1 dX12_sureOf_33 (lv_at hl18 1 rfl) ?_
          refine lv_aload_n (pc := 35) E.1 E.2.1 dX12_sureOf_35 rfl (lv_at hl18 2 rfl) ?_
          refine x_get (pc := 36) (T := TX12) (N := 70) (ci := 12) (v := .ref (mr 62)) E hw28 inX12 0 62 q_1461 rfl rfl (by decide) rfl rfl dX12_sureOf_36 ?_
          refine lv_iload (pc := 39) E.1 E.2.1 dX12_sureOf_39 (lv_at hl18 0 rfl) ?_
          refine x_iald (pc := 41) (f := gchances_7) E hw28 34 rfl (inbE (a := x_13.toInt) rfl (by omega)) dX12_sureOf_41 ?_
          refine lv_topi (fun v_33 ev_33 => ?_)
          refine lv_iadd (pc := 42) E.1 E.2.1 dX12_sureOf_42 ?_
          refine lv_topi (fun v_34 ev_34 => ?_)
          refine lv_istore (pc := 43) (lv' := [(4, .int v_34), (5, .int x_13), (0, .ref M), (1, .int z_h), (2, .int z_g), (3, .int z_k)]) E.1 E.2.1 dX12_sureOf_43 hl18 (by decide) rfl (fun ls hl35 => ?_)
          obtain ⟨v_36, ev_36⟩ : ∃ z : Int32, x_13 + Int32.ofInt (1) = z := ⟨_, rfl⟩
          have hv_36 : v_36.toInt = x_13.toInt + (1) := by rw [← ev_36]; exact incE rfl (by decide) (by omega)
          refine lv_iinc (pc := 45) (v := v_36) (lv' := [(5, .int v_36), (4, .int v_34), (0, .ref M), (1, .int z_h), (2, .int z_g), (3, .int z_k)]) E.1 E.2.1 dX12_sureOf_45 hl35 (k := 1) rfl ev_36 (by decide) rfl (fun ls hl37 => ?_)
          refine lv_goto (pc := 48) (tgt := 11) E.1 E.2.1 dX12_sureOf_48 (by decide) ?_
          exact ih_16 v_36 v_34 gfarOf_23 _ _ _ ⟨(by show 0 ≤ v_36.toInt; omega), (by show v_36.toInt ≤ 10; omega)⟩ (by omega) hw28 (lv_sub hl37 [0, 1, 2, 3, 4, 5] rfl)
        · skip
          refine lv_if_eq (pc := 30) (tgt := 45) E.1 E.2.1 dX12_sureOf_30 (by decide) (fun c_38 => absurd c_38 (mneE (a := 1) (b := 0) (by decide +kernel) (by decide +kernel) (by omega))) (fun _ => ?_)
          refine lv_iload (pc := 33) E.1 E.2.1 dX12_sureOf_33 (lv_at hl18 1 rfl) ?_
          refine lv_aload_n (pc := 35) E.1 E.2.1 dX12_sureOf_35 rfl (lv_at hl18 2 rfl) ?_
          refine x_get (pc := 36) (T := TX12) (N := 70) (ci := 12) (v := .ref (mr 62)) E hw28 inX12 0 62 q_1461 rfl rfl (by decide) rfl rfl dX12_sureOf_36 ?_
          refine lv_iload (pc := 39) E.1 E.2.1 dX12_sureOf_39 (lv_at hl18 0 rfl) ?_
          refine x_iald (pc := 41) (f := gchances_7) E hw28 34 rfl (inbE (a := x_13.toInt) rfl (by omega)) dX12_sureOf_41 ?_
          refine lv_topi (fun v_39 ev_39 => ?_)
          refine lv_iadd (pc := 42) E.1 E.2.1 dX12_sureOf_42 ?_
          refine lv_topi (fun v_40 ev_40 => ?_)
          refine lv_istore (pc := 43) (lv' := [(4, .int v_40), (5, .int x_13), (0, .ref M), (1, .int z_h), (2, .int z_g), (3, .int z_k)]) E.1 E.2.1 dX12_sureOf_43 hl18 (by decide) rfl (fun ls hl41 => ?_)
          obtain ⟨v_42, ev_42⟩ : ∃ z : Int32, x_13 + Int32.ofInt (1) = z := ⟨_, rfl⟩
          have hv_42 : v_42.toInt = x_13.toInt + (1) := by rw [← ev_42]; exact incE rfl (by decide) (by omega)
          refine lv_iinc (pc := 45) (v := v_42) (lv' := [(5, .int v_42), (4, .int v_40), (0, .ref M), (1, .int z_h), (2, .int z_g), (3, .int z_k)]) E.1 E.2.1 dX12_sureOf_45 hl41 (k := 1) rfl ev_42 (by decide) rfl (fun ls hl43 => ?_)
          refine lv_goto (pc := 48) (tgt := 11) E.1 E.2.1 dX12_sureOf_48 (by decide) ?_
          exact ih_16 v_42 v_40 gfarOf_23 _ _ _ ⟨(by show 0 ≤ v_42.toInt; omega), (by show v_42.toInt ≤ 10; omega)⟩ (by omega) hw28 (lv_sub hl43 [0, 1, 2, 3, 4, 5] rfl)
        · skip
          have ha_31 : ¬ z_h.toInt = z_g.toInt := ha_31
          refine lv_if_eq (pc := 30) (tgt := 45) E.1 E.2.1 dX12_sureOf_30 (by decide) (fun _ => ?_) (fun c_44 => absurd (meqE (a := 0) (b := 0) (by decide +kernel) (by decide +kernel) (by omega)) c_44)
          obtain ⟨v_45, ev_45⟩ : ∃ z : Int32, x_13 + Int32.ofInt (1) = z := ⟨_, rfl⟩
          have hv_45 : v_45.toInt = x_13.toInt + (1) := by rw [← ev_45]; exact incE rfl (by decide) (by omega)
          refine lv_iinc (pc := 45) (v := v_45) (lv' := [(5, .int v_45), (4, .int x_14), (0, .ref M), (1, .int z_h), (2, .int z_g), (3, .int z_k)]) E.1 E.2.1 dX12_sureOf_45 hl18 (k := 0) rfl ev_45 (by decide) rfl (fun ls hl46 => ?_)
          refine lv_goto (pc := 48) (tgt := 11) E.1 E.2.1 dX12_sureOf_48 (by decide) ?_
          exact ih_16 v_45 x_14 gfarOf_23 _ _ _ ⟨(by show 0 ≤ v_45.toInt; omega), (by show v_45.toInt ≤ 10; omega)⟩ (by omega) hw28 (lv_sub hl46 [0, 1, 2, 3, 4, 5] rfl)
  exact loop_12 (Int.toNat (10 - 0) + 1) 0 0 (mf 55) _ _ _ ⟨(by show 0 ≤ (0 : Int32).toInt; have k_0 : (0 : Int32).toInt = 0 := (by decide +kernel); omega), (by show (0 : Int32).toInt ≤ 10; have k_0 : (0 : Int32).toInt = 0 := (by decide +kernel); omega)⟩ (by have k_0 : (0 : Int32).toInt = 0 := (by decide +kernel); have k_1 : (0 : Int32).toInt = 0 := (by decide +kernel); omega) hw9 (lv_sub hl11 [0, 1, 2, 3, 4, 5] rfl)

set_option maxHeartbeats 4000000 in
set_option maxRecDepth 100000 in
theorem s_sure (l : Launch) (D : va_G) (cI cJ : ClassId) (sz M : Nat) (mr : Nat → Nat) (mi : Nat → Int32) (mf : Nat → Nat → Int32) (mg : Nat → Nat → Int64) (z_h : Int32) (z_g : Int32) (z_k : Int32) (h0 : 0 ≤ (mi 6).toInt ∧ (mi 6).toInt ≤ 10) (h1 : 0 ≤ (mi 42).toInt ∧ (mi 42).toInt ≤ 40) (a_paths : pathsOK (mf 43)) : Met l yX12_sure (Cond.code yX12_sure cX12_sure 4 (some .int) :: GW) ({ frames := 5, cells := 0, slots := 0, locals := 134 } : Room) (va_Pc [.ref M, .int z_h, .int z_g, .int z_k] (PW D cI cJ sz (MW cI cJ M mr mi mf mg) xT)) (va_Qi (fun (r : Int32) (u : Int32 × (Nat → Int32) × (Nat → Int32) × (Nat → Int32)) => True) (fun u => QW D cI cJ (va_A (MW cI cJ M mr mi mf mg) sz) ((fun (u : Int32 × (Nat → Int32) × (Nat → Int32) × (Nat → Int32)) => (MW cI cJ M mr (upd mi 0 u.1) (va_up (va_up (va_up mf 55 u.2.1) 62 u.2.2.1) 63 u.2.2.2) mg)) u)) (va_A (MW cI cJ M mr mi mf mg) sz)) 0 0 (va_A (MW cI cJ M mr mi mf mg) sz) := by
  refine mk_met (y := yX12_sure) (bytes := cX12_sure) (maxL := 4) (avs := [.ref M, .int z_h, .int z_g, .int z_k]) (WS := (MW cI cJ M mr mi mf mg)) (Qf := fun A => va_Qi (fun (r : Int32) (u : Int32 × (Nat → Int32) × (Nat → Int32) × (Nat → Int32)) => True) (fun u => QW D cI cJ A ((fun (u : Int32 × (Nat → Int32) × (Nat → Int32) × (Nat → Int32)) => (MW cI cJ M mr (upd mi 0 u.1) (va_up (va_up (va_up mf 55 u.2.1) 62 u.2.2.1) 63 u.2.2.2) mg)) u)) A) (by decide) (Nat.le_of_ble_eq_true rfl) ?_
  intro p e s m below meth c A ls E hr hlk hnm hX hw1 hl2
  have hl3 : lv_has ls 4 [(0, .ref M), (1, .int z_h), (2, .int z_g), (3, .int z_k)] := hl2
  refine lv_aload_n (pc := 0) E.1 E.2.1 dX12_sure_0 rfl (lv_at hl3 0 rfl) ?_
  refine lv_iconst (pc := 1) (v := 0) E.1 E.2.1 dX12_sure_1 (by decide +kernel) ?_
  refine x_put (pc := 2) (T := TX12) (N := 70) (ci := 12) (ws' := (MW cI cJ M mr (upd mi 0 0) mf mg)) E hw1 inX12 tyX12_ok nmX12 0 0 q_1399 rfl rfl (by decide) rfl rfl rfl rfl (Nat.le_of_ble_eq_true rfl) rfl dX12_sure_2 (fun H locs hw4 => ?_)
  refine lv_aload_n (pc := 5) E.1 E.2.1 dX12_sure_5 rfl (lv_at hl3 0 rfl) ?_
  refine lv_iload_n (pc := 6) E.1 E.2.1 dX12_sure_6 rfl (lv_at hl3 1 rfl) ?_
  refine cm_i (pc := 7) hw4 (rn_M (As := [.int z_h]) (rest := []) E hw4 (s_isHouse l D cI cJ _ M mr (upd mi 0 0) mf mg z_h) (gdV q_1634 q_1636 q_48 q_162 q_1637) hdV_X12_isHouse ⟨rfl, rfl⟩ ⟨(Nat.le_of_ble_eq_true rfl), (Nat.le_of_ble_eq_true rfl)⟩ ⟨(Nat.le_of_ble_eq_true rfl), (Nat.le_of_ble_eq_true rfl)⟩ 12 rfl rfl rfl rfl hl3.1 rfl (Nat.le_of_ble_eq_true rfl) dX12_sure_7) (fun r_6 u_5 H1 locs hp hw7 => ?_)
  generalize H1 = H at hw7 ⊢
  have hw8 : WD D A s.heap (MW cI cJ M mr (upd mi 0 0) mf mg) H locs := hw7
  have hp_9 := hp
  rcases hp_9 with ⟨rfl, ha_10⟩ | ⟨rfl, ha_11⟩ | ⟨rfl, ha_12, ha_13⟩
  · skip
    have ha_10 : z_h.toInt < 0 := ha_10
    refine lv_if_eq (pc := 10) (tgt := 42) E.1 E.2.1 dX12_sure_10 (by decide) (fun _ => ?_) (fun c_14 => absurd (meqE (a := 0) (b := 0) (by decide +kernel) (by decide +kernel) (by omega)) c_14)
    refine lv_iconst (pc := 42) (v := (-1)) E.1 E.2.1 dX12_sure_42 (by decide +kernel) ?_
    exact em_i (w1 := (fun (u : Int32 × (Nat → Int32) × (Nat → Int32) × (Nat → Int32)) => (MW cI cJ M mr (upd mi 0 u.1) (va_up (va_up (va_up mf 55 u.2.1) 62 u.2.2.1) 63 u.2.2.2) mg))) E hr hlk (0, (mf 55), (mf 62), (mf 63)) hw8 trivial (Nat.le_of_ble_eq_true rfl) (Nat.le_of_ble_eq_true rfl) dX12_sure_43
  · skip
    have ha_11 : (mi 6).toInt ≤ z_h.toInt := ha_11
    refine lv_if_eq (pc := 10) (tgt := 42) E.1 E.2.1 dX12_sure_10 (by decide) (fun _ => ?_) (fun c_15 => absurd (meqE (a := 0) (b := 0) (by decide +kernel) (by decide +kernel) (by omega)) c_15)
    refine lv_iconst (pc := 42) (v := (-1)) E.1 E.2.1 dX12_sure_42 (by decide +kernel) ?_
    exact em_i (w1 := (fun (u : Int32 × (Nat → Int32) × (Nat → Int32) × (Nat → Int32)) => (MW cI cJ M mr (upd mi 0 u.1) (va_up (va_up (va_up mf 55 u.2.1) 62 u.2.2.1) 63 u.2.2.2) mg))) E hr hlk (0, (mf 55), (mf 62), (mf 63)) hw8 trivial (Nat.le_of_ble_eq_true rfl) (Nat.le_of_ble_eq_true rfl) dX12_sure_43
  · skip
    have ha_12 : 0 ≤ z_h.toInt := ha_12
    have ha_13 : z_h.toInt < (mi 6).toInt := ha_13
    refine lv_if_eq (pc := 10) (tgt := 42) E.1 E.2.1 dX12_sure_10 (by decide) (fun c_16 => absurd c_16 (mneE (a := 1) (b := 0) (by decide +kernel) (by decide +kernel) (by omega))) (fun _ => ?_)
    refine lv_aload_n (pc := 13) E.1 E.2.1 dX12_sure_13 rfl (lv_at hl3 0 rfl) ?_
    refine lv_iload_n (pc := 14) E.1 E.2.1 dX12_sure_14 rfl (lv_at hl3 2 rfl) ?_
    refine cm_i (pc := 15) hw8 (rn_M (As := [.int z_g]) (rest := []) E hw8 (s_isHouse l D cI cJ _ M mr (upd mi 0 0) mf mg z_g) (gdV q_1634 q_1636 q_48 q_162 q_1637) hdV_X12_isHouse ⟨rfl, rfl⟩ ⟨(Nat.le_of_ble_eq_true rfl), (Nat.le_of_ble_eq_true rfl)⟩ ⟨(Nat.le_of_ble_eq_true rfl), (Nat.le_of_ble_eq_true rfl)⟩ 12 rfl rfl rfl rfl hl3.1 rfl (Nat.le_of_ble_eq_true rfl) dX12_sure_15) (fun r_18 u_17 H1 locs hp hw19 => ?_)
    generalize H1 = H at hw19 ⊢
    have hw20 : WD D A s.heap (MW cI cJ M mr (upd mi 0 0) mf mg) H locs := hw19
    have hp_21 := hp
    rcases hp_21 with ⟨rfl, ha_22⟩ | ⟨rfl, ha_23⟩ | ⟨rfl, ha_24, ha_25⟩
    · skip
      have ha_22 : z_g.toInt < 0 := ha_22
      refine lv_if_eq (pc := 18) (tgt := 42) E.1 E.2.1 dX12_sure_18 (by decide) (fun _ => ?_) (fun c_26 => absurd (meqE (a := 0) (b := 0) (by decide +kernel) (by decide +kernel) (by omega)) c_26)
      refine lv_iconst (pc := 42) (v := (-1)) E.1 E.2.1 dX12_sure_42 (by decide +kernel) ?_
      exact em_i (w1 := (fun (u : Int32 × (Nat → Int32) × (Nat → Int32) × (Nat → Int32)) => (MW cI cJ M mr (upd mi 0 u.1) (va_up (va_up (va_up mf 55 u.2.1) 62 u.2.2.1) 63 u.2.2.2) mg))) E hr hlk (0, (mf 55), (mf 62), (mf 63)) hw20 trivial (Nat.le_of_ble_eq_true rfl) (Nat.le_of_ble_eq_true rfl) dX12_sure_43
    · skip
      have ha_23 : (mi 6).toInt ≤ z_g.toInt := ha_23
      refine lv_if_eq (pc := 18) (tgt := 42) E.1 E.2.1 dX12_sure_18 (by decide) (fun _ => ?_) (fun c_27 => absurd (meqE (a := 0) (b := 0) (by decide +kernel) (by decide +kernel) (by omega)) c_27)
      refine lv_iconst (pc := 42) (v := (-1)) E.1 E.2.1 dX12_sure_42 (by decide +kernel) ?_
      exact em_i (w1 := (fun (u : Int32 × (Nat → Int32) × (Nat → Int32) × (Nat → Int32)) => (MW cI cJ M mr (upd mi 0 u.1) (va_up (va_up (va_up mf 55 u.2.1) 62 u.2.2.1) 63 u.2.2.2) mg))) E hr hlk (0, (mf 55), (mf 62), (mf 63)) hw20 trivial (Nat.le_of_ble_eq_true rfl) (Nat.le_of_ble_eq_true rfl) dX12_sure_43
    · skip
      have ha_24 : 0 ≤ z_g.toInt := ha_24
      have ha_25 : z_g.toInt < (mi 6).toInt := ha_25
      refine lv_if_eq (pc := 18) (tgt := 42) E.1 E.2.1 dX12_sure_18 (by decide) (fun c_28 => absurd c_28 (mneE (a := 1) (b := 0) (by decide +kernel) (by decide +kernel) (by omega))) (fun _ => ?_)
      refine lv_aload_n (pc := 21) E.1 E.2.1 dX12_sure_21 rfl (lv_at hl3 0 rfl) ?_
      refine lv_iload_n (pc := 22) E.1 E.2.1 dX12_sure_22 rfl (lv_at hl3 3 rfl) ?_
      refine lv_iconst (pc := 23) (v := 1) E.1 E.2.1 dX12_sure_23 (by decide +kernel) ?_
      refine lv_bipush (pc := 24) (v := 9) E.1 E.2.1 dX12_sure_24 (by decide +kernel) ?_
      refine cm_i (pc := 26) hw20 (rn_M (As := [.int z_k, .int 1, .int 9]) (rest := []) E hw20 (s_isIn l D cI cJ _ M mr (upd mi 0 0) mf mg z_k 1 9) (gdV q_1622 q_1624 q_46 q_162 q_1625) hdV_X12_isIn ⟨rfl, rfl⟩ ⟨(Nat.le_of_ble_eq_true rfl), (Nat.le_of_ble_eq_true rfl)⟩ ⟨(Nat.le_of_ble_eq_true rfl), (Nat.le_of_ble_eq_true rfl)⟩ 12 rfl rfl rfl rfl hl3.1 rfl (Nat.le_of_ble_eq_true rfl) dX12_sure_26) (fun r_30 u_29 H1 locs hp hw31 => ?_)
      generalize H1 = H at hw31 ⊢
      have hw32 : WD D A s.heap (MW cI cJ M mr (upd mi 0 0) mf mg) H locs := hw31
      have hp_33 := hp
      rcases hp_33 with ⟨rfl, ha_34⟩ | ⟨rfl, ha_35⟩ | ⟨rfl, ha_36, ha_37⟩
      · skip
        have ha_34 : z_k.toInt < (1 : Int32).toInt := ha_34
        rw [show (1 : Int32).toInt = 1 from by decide +kernel] at ha_34
        refine lv_if_eq (pc := 29) (tgt := 42) E.1 E.2.1 dX12_sure_29 (by decide) (fun _ => ?_) (fun c_38 => absurd (meqE (a := 0) (b := 0) (by decide +kernel) (by decide +kernel) (by omega)) c_38)
        refine lv_iconst (pc := 42) (v := (-1)) E.1 E.2.1 dX12_sure_42 (by decide +kernel) ?_
        exact em_i (w1 := (fun (u : Int32 × (Nat → Int32) × (Nat → Int32) × (Nat → Int32)) => (MW cI cJ M mr (upd mi 0 u.1) (va_up (va_up (va_up mf 55 u.2.1) 62 u.2.2.1) 63 u.2.2.2) mg))) E hr hlk (0, (mf 55), (mf 62), (mf 63)) hw32 trivial (Nat.le_of_ble_eq_true rfl) (Nat.le_of_ble_eq_true rfl) dX12_sure_43
      · skip
        have ha_35 : (9 : Int32).toInt < z_k.toInt := ha_35
        rw [show (9 : Int32).toInt = 9 from by decide +kernel] at ha_35
        refine lv_if_eq (pc := 29) (tgt := 42) E.1 E.2.1 dX12_sure_29 (by decide) (fun _ => ?_) (fun c_39 => absurd (meqE (a := 0) (b := 0) (by decide +kernel) (by decide +kernel) (by omega)) c_39)
        refine lv_iconst (pc := 42) (v := (-1)) E.1 E.2.1 dX12_sure_42 (by decide +kernel) ?_
        exact em_i (w1 := (fun (u : Int32 × (Nat → Int32) × (Nat → Int32) × (Nat → Int32)) => (MW cI cJ M mr (upd mi 0 u.1) (va_up (va_up (va_up mf 55 u.2.1) 62 u.2.2.1) 63 u.2.2.2) mg))) E hr hlk (0, (mf 55), (mf 62), (mf 63)) hw32 trivial (Nat.le_of_ble_eq_true rfl) (Nat.le_of_ble_eq_true rfl) dX12_sure_43
      · skip
        have ha_36 : (1 : Int32).toInt ≤ z_k.toInt := ha_36
        rw [show (1 : Int32).toInt = 1 from by decide +kernel] at ha_36
        have ha_37 : z_k.toInt ≤ (9 : Int32).toInt := ha_37
        rw [show (9 : Int32).toInt = 9 from by decide +kernel] at ha_37
        refine lv_if_eq (pc := 29) (tgt := 42) E.1 E.2.1 dX12_sure_29 (by decide) (fun c_40 => absurd c_40 (mneE (a := 1) (b := 0) (by decide +kernel) (by decide +kernel) (by omega))) (fun _ => ?_)
        refine lv_aload_n (pc := 32) E.1 E.2.1 dX12_sure_32 rfl (lv_at hl3 0 rfl) ?_
        refine lv_iload_n (pc := 33) E.1 E.2.1 dX12_sure_33 rfl (lv_at hl3 1 rfl) ?_
        refine lv_iload_n (pc := 34) E.1 E.2.1 dX12_sure_34 rfl (lv_at hl3 2 rfl) ?_
        refine lv_iload_n (pc := 35) E.1 E.2.1 dX12_sure_35 rfl (lv_at hl3 3 rfl) ?_
        refine cm_i (pc := 36) hw32 (rn_M (As := [.int z_h, .int z_g, .int z_k]) (rest := []) E hw32 (s_sureOf l D cI cJ _ M mr (upd mi 0 0) mf mg z_h z_g z_k h0 h1 (by show 0 ≤ z_h.toInt ∧ z_h.toInt ≤ 9; omega) (by show 0 ≤ z_g.toInt ∧ z_g.toInt ≤ 9; omega) (by show 1 ≤ z_k.toInt ∧ z_k.toInt ≤ 9; omega) a_paths) (gdV q_2066 q_2068 q_138 q_162 q_2069) hdV_X12_sureOf ⟨rfl, rfl⟩ ⟨(Nat.le_of_ble_eq_true rfl), (Nat.le_of_ble_eq_true rfl)⟩ ⟨(Nat.le_of_ble_eq_true rfl), (Nat.le_of_ble_eq_true rfl)⟩ 12 rfl rfl rfl rfl hl3.1 rfl (Nat.le_of_ble_eq_true rfl) dX12_sure_36) (fun r_42 u_41 H1 locs hp hw43 => ?_)
        obtain ⟨gfarOf_44, gchances_45, gchancesThen_46⟩ := u_41
        generalize H1 = H at hw43 ⊢
        have hw47 : WD D A s.heap (MW cI cJ M mr (upd mi 0 0) (va_up (va_up (va_up mf 55 gfarOf_44) 62 gchances_45) 63 gchancesThen_46) mg) H locs := hw43
        refine lv_goto (pc := 39) (tgt := 43) E.1 E.2.1 dX12_sure_39 (by decide) ?_
        exact em_i (w1 := (fun (u : Int32 × (Nat → Int32) × (Nat → Int32) × (Nat → Int32)) => (MW cI cJ M mr (upd mi 0 u.1) (va_up (va_up (va_up mf 55 u.2.1) 62 u.2.2.1) 63 u.2.2.2) mg))) E hr hlk (0, gfarOf_44, gchances_45, gchancesThen_46) hw47 trivial (Nat.le_of_ble_eq_true rfl) (Nat.le_of_ble_eq_true rfl) dX12_sure_43

set_option maxHeartbeats 4000000 in
set_option maxRecDepth 100000 in
theorem s_best (l : Launch) (D : va_G) (cI cJ : ClassId) (sz M : Nat) (mr : Nat → Nat) (mi : Nat → Int32) (mf : Nat → Nat → Int32) (mg : Nat → Nat → Int64) (z_goal : Int32) (z_k : Int32) (h0 : 0 ≤ (mi 6).toInt ∧ (mi 6).toInt ≤ 10) (h1 : 0 ≤ (mi 42).toInt ∧ (mi 42).toInt ≤ 40) (h2 : 0 ≤ ((mf 1) 3).toInt ∧ ((mf 1) 3).toInt ≤ 9) (a_paths : pathsOK (mf 43)) : Met l yX12_best (Cond.code yX12_best cX12_best 8 (some .int) :: GW) ({ frames := 5, cells := 0, slots := 0, locals := 134 } : Room) (va_Pc [.ref M, .int z_goal, .int z_k] (PW D cI cJ sz (MW cI cJ M mr mi mf mg) xT)) (va_Qi (fun (r : Int32) (u : Int32 × (Nat → Int32) × (Nat → Int32) × (Nat → Int32)) => True) (fun u => QW D cI cJ (va_A (MW cI cJ M mr mi mf mg) sz) ((fun (u : Int32 × (Nat → Int32) × (Nat → Int32) × (Nat → Int32)) => (MW cI cJ M mr (upd mi 0 u.1) (va_up (va_up (va_up mf 55 u.2.1) 62 u.2.2.1) 63 u.2.2.2) mg)) u)) (va_A (MW cI cJ M mr mi mf mg) sz)) 0 0 (va_A (MW cI cJ M mr mi mf mg) sz) := by
  refine mk_met (y := yX12_best) (bytes := cX12_best) (maxL := 8) (avs := [.ref M, .int z_goal, .int z_k]) (WS := (MW cI cJ M mr mi mf mg)) (Qf := fun A => va_Qi (fun (r : Int32) (u : Int32 × (Nat → Int32) × (Nat → Int32) × (Nat → Int32)) => True) (fun u => QW D cI cJ A ((fun (u : Int32 × (Nat → Int32) × (Nat → Int32) × (Nat → Int32)) => (MW cI cJ M mr (upd mi 0 u.1) (va_up (va_up (va_up mf 55 u.2.1) 62 u.2.2.1) 63 u.2.2.2) mg)) u)) A) (by decide) (Nat.le_of_ble_eq_true rfl) ?_
  intro p e s m below meth c A ls E hr hlk hnm hX hw1 hl2
  have hl3 : lv_has ls 8 [(0, .ref M), (1, .int z_goal), (2, .int z_k)] := hl2
  refine lv_aload_n (pc := 0) E.1 E.2.1 dX12_best_0 rfl (lv_at hl3 0 rfl) ?_
  refine lv_iconst (pc := 1) (v := 0) E.1 E.2.1 dX12_best_1 (by decide +kernel) ?_
  refine x_put (pc := 2) (T := TX12) (N := 70) (ci := 12) (ws' := (MW cI cJ M mr (upd mi 0 0) mf mg)) E hw1 inX12 tyX12_ok nmX12 0 0 q_1399 rfl rfl (by decide) rfl rfl rfl rfl (Nat.le_of_ble_eq_true rfl) rfl dX12_best_2 (fun H locs hw4 => ?_)
  refine lv_aload_n (pc := 5) E.1 E.2.1 dX12_best_5 rfl (lv_at hl3 0 rfl) ?_
  refine lv_iload_n (pc := 6) E.1 E.2.1 dX12_best_6 rfl (lv_at hl3 1 rfl) ?_
  refine cm_i (pc := 7) hw4 (rn_M (As := [.int z_goal]) (rest := []) E hw4 (s_isHouse l D cI cJ _ M mr (upd mi 0 0) mf mg z_goal) (gdV q_1634 q_1636 q_48 q_162 q_1637) hdV_X12_isHouse ⟨rfl, rfl⟩ ⟨(Nat.le_of_ble_eq_true rfl), (Nat.le_of_ble_eq_true rfl)⟩ ⟨(Nat.le_of_ble_eq_true rfl), (Nat.le_of_ble_eq_true rfl)⟩ 12 rfl rfl rfl rfl hl3.1 rfl (Nat.le_of_ble_eq_true rfl) dX12_best_7) (fun r_6 u_5 H1 locs hp hw7 => ?_)
  generalize H1 = H at hw7 ⊢
  have hw8 : WD D A s.heap (MW cI cJ M mr (upd mi 0 0) mf mg) H locs := hw7
  have hp_9 := hp
  rcases hp_9 with ⟨rfl, ha_10⟩ | ⟨rfl, ha_11⟩ | ⟨rfl, ha_12, ha_13⟩
  · skip
    have ha_10 : z_goal.toInt < 0 := ha_10
    refine lv_if_eq (pc := 10) (tgt := 24) E.1 E.2.1 dX12_best_10 (by decide) (fun _ => ?_) (fun c_14 => absurd (meqE (a := 0) (b := 0) (by decide +kernel) (by decide +kernel) (by omega)) c_14)
    refine lv_iconst (pc := 24) (v := (-1)) E.1 E.2.1 dX12_best_24 (by decide +kernel) ?_
    exact em_i (w1 := (fun (u : Int32 × (Nat → Int32) × (Nat → Int32) × (Nat → Int32)) => (MW cI cJ M mr (upd mi 0 u.1) (va_up (va_up (va_up mf 55 u.2.1) 62 u.2.2.1) 63 u.2.2.2) mg))) E hr hlk (0, (mf 55), (mf 62), (mf 63)) hw8 trivial (Nat.le_of_ble_eq_true rfl) (Nat.le_of_ble_eq_true rfl) dX12_best_25
  · skip
    have ha_11 : (mi 6).toInt ≤ z_goal.toInt := ha_11
    refine lv_if_eq (pc := 10) (tgt := 24) E.1 E.2.1 dX12_best_10 (by decide) (fun _ => ?_) (fun c_15 => absurd (meqE (a := 0) (b := 0) (by decide +kernel) (by decide +kernel) (by omega)) c_15)
    refine lv_iconst (pc := 24) (v := (-1)) E.1 E.2.1 dX12_best_24 (by decide +kernel) ?_
    exact em_i (w1 := (fun (u : Int32 × (Nat → Int32) × (Nat → Int32) × (Nat → Int32)) => (MW cI cJ M mr (upd mi 0 u.1) (va_up (va_up (va_up mf 55 u.2.1) 62 u.2.2.1) 63 u.2.2.2) mg))) E hr hlk (0, (mf 55), (mf 62), (mf 63)) hw8 trivial (Nat.le_of_ble_eq_true rfl) (Nat.le_of_ble_eq_true rfl) dX12_best_25
  · skip
    have ha_12 : 0 ≤ z_goal.toInt := ha_12
    have ha_13 : z_goal.toInt < (mi 6).toInt := ha_13
    refine lv_if_eq (pc := 10) (tgt := 24) E.1 E.2.1 dX12_best_10 (by decide) (fun c_16 => absurd c_16 (mneE (a := 1) (b := 0) (by decide +kernel) (by decide +kernel) (by omega))) (fun _ => ?_)
    refine lv_aload_n (pc := 13) E.1 E.2.1 dX12_best_13 rfl (lv_at hl3 0 rfl) ?_
    refine lv_iload_n (pc := 14) E.1 E.2.1 dX12_best_14 rfl (lv_at hl3 2 rfl) ?_
    refine lv_iconst (pc := 15) (v := 1) E.1 E.2.1 dX12_best_15 (by decide +kernel) ?_
    refine lv_bipush (pc := 16) (v := 9) E.1 E.2.1 dX12_best_16 (by decide +kernel) ?_
    refine cm_i (pc := 18) hw8 (rn_M (As := [.int z_k, .int 1, .int 9]) (rest := []) E hw8 (s_isIn l D cI cJ _ M mr (upd mi 0 0) mf mg z_k 1 9) (gdV q_1622 q_1624 q_46 q_162 q_1625) hdV_X12_isIn ⟨rfl, rfl⟩ ⟨(Nat.le_of_ble_eq_true rfl), (Nat.le_of_ble_eq_true rfl)⟩ ⟨(Nat.le_of_ble_eq_true rfl), (Nat.le_of_ble_eq_true rfl)⟩ 12 rfl rfl rfl rfl hl3.1 rfl (Nat.le_of_ble_eq_true rfl) dX12_best_18) (fun r_18 u_17 H1 locs hp hw19 => ?_)
    generalize H1 = H at hw19 ⊢
    have hw20 : WD D A s.heap (MW cI cJ M mr (upd mi 0 0) mf mg) H locs := hw19
    have hp_21 := hp
    rcases hp_21 with ⟨rfl, ha_22⟩ | ⟨rfl, ha_23⟩ | ⟨rfl, ha_24, ha_25⟩
    · skip
      have ha_22 : z_k.toInt < (1 : Int32).toInt := ha_22
      rw [show (1 : Int32).toInt = 1 from by decide +kernel] at ha_22
      refine lv_if_ne (pc := 21) (tgt := 26) E.1 E.2.1 dX12_best_21 (by decide) (fun c_26 => absurd (meqE (a := 0) (b := 0) (by decide +kernel) (by decide +kernel) (by omega)) c_26) (fun _ => ?_)
      refine lv_iconst (pc := 24) (v := (-1)) E.1 E.2.1 dX12_best_24 (by decide +kernel) ?_
      exact em_i (w1 := (fun (u : Int32 × (Nat → Int32) × (Nat → Int32) × (Nat → Int32)) => (MW cI cJ M mr (upd mi 0 u.1) (va_up (va_up (va_up mf 55 u.2.1) 62 u.2.2.1) 63 u.2.2.2) mg))) E hr hlk (0, (mf 55), (mf 62), (mf 63)) hw20 trivial (Nat.le_of_ble_eq_true rfl) (Nat.le_of_ble_eq_true rfl) dX12_best_25
    · skip
      have ha_23 : (9 : Int32).toInt < z_k.toInt := ha_23
      rw [show (9 : Int32).toInt = 9 from by decide +kernel] at ha_23
      refine lv_if_ne (pc := 21) (tgt := 26) E.1 E.2.1 dX12_best_21 (by decide) (fun c_27 => absurd (meqE (a := 0) (b := 0) (by decide +kernel) (by decide +kernel) (by omega)) c_27) (fun _ => ?_)
      refine lv_iconst (pc := 24) (v := (-1)) E.1 E.2.1 dX12_best_24 (by decide +kernel) ?_
      exact em_i (w1 := (fun (u : Int32 × (Nat → Int32) × (Nat → Int32) × (Nat → Int32)) => (MW cI cJ M mr (upd mi 0 u.1) (va_up (va_up (va_up mf 55 u.2.1) 62 u.2.2.1) 63 u.2.2.2) mg))) E hr hlk (0, (mf 55), (mf 62), (mf 63)) hw20 trivial (Nat.le_of_ble_eq_true rfl) (Nat.le_of_ble_eq_true rfl) dX12_best_25
    · skip
      have ha_24 : (1 : Int32).toInt ≤ z_k.toInt := ha_24
      rw [show (1 : Int32).toInt = 1 from by decide +kernel] at ha_24
      have ha_25 : z_k.toInt ≤ (9 : Int32).toInt := ha_25
      rw [show (9 : Int32).toInt = 9 from by decide +kernel] at ha_25
      refine lv_if_ne (pc := 21) (tgt := 26) E.1 E.2.1 dX12_best_21 (by decide) (fun _ => ?_) (fun c_28 => absurd c_28 (mneE (a := 1) (b := 0) (by decide +kernel) (by decide +kernel) (by omega)))
      refine lv_aload_n (pc := 26) E.1 E.2.1 dX12_best_26 rfl (lv_at hl3 0 rfl) ?_
      refine lv_aload_n (pc := 27) E.1 E.2.1 dX12_best_27 rfl (lv_at hl3 0 rfl) ?_
      refine x_get (pc := 28) (T := TX12) (N := 70) (ci := 12) (v := .ref (mr 1)) E hw20 inX12 0 1 q_1400 rfl rfl (by decide) rfl rfl dX12_best_28 ?_
      refine lv_iconst (pc := 31) (v := 4) E.1 E.2.1 dX12_best_31 (by decide +kernel) ?_
      refine x_iald (pc := 32) (f := (mf 1)) E hw20 1 rfl (inbE (a := 4) (by decide +kernel) (by omega)) dX12_best_32 ?_
      refine lv_topi (fun v_29 ev_29 => ?_)
      refine cm_v (pc := 33) hw20 (rn_M (As := [.int v_29]) (rest := []) E hw20 (s_findsFar l D cI cJ _ M mr (upd mi 0 0) mf mg v_29 h0 h1 a_paths) (gdV q_1822 q_1824 q_89 q_162 q_1825) hdV_X12_findsFar ⟨rfl, rfl⟩ ⟨(Nat.le_of_ble_eq_true rfl), (Nat.le_of_ble_eq_true rfl)⟩ ⟨(Nat.le_of_ble_eq_true rfl), (Nat.le_of_ble_eq_true rfl)⟩ 12 rfl rfl rfl rfl hl3.1 rfl (Nat.le_of_ble_eq_true rfl) dX12_best_33) (fun u_30 H1 locs hp hw32 => ?_)
      obtain ⟨gfarOf_33, rfl⟩ : ∃ z, z = u_30 := ⟨_, rfl⟩
      generalize H1 = H at hw32 ⊢
      have hw34 : WD D A s.heap (MW cI cJ M mr (upd mi 0 0) (va_up mf 55 gfarOf_33) mg) H locs := hw32
      refine lv_aload_n (pc := 36) E.1 E.2.1 dX12_best_36 rfl (lv_at hl3 0 rfl) ?_
      refine lv_aload_n (pc := 37) E.1 E.2.1 dX12_best_37 rfl (lv_at hl3 0 rfl) ?_
      refine x_get (pc := 38) (T := TX12) (N := 70) (ci := 12) (v := .ref (mr 1)) E hw34 inX12 0 1 q_1400 rfl rfl (by decide) rfl rfl dX12_best_38 ?_
      refine lv_iconst (pc := 41) (v := 3) E.1 E.2.1 dX12_best_41 (by decide +kernel) ?_
      refine x_iald (pc := 42) (f := (mf 1)) E hw34 1 rfl (inbE (a := 3) (by decide +kernel) (by omega)) dX12_best_42 ?_
      refine lv_topi (fun v_35 ev_35 => ?_)
      have hv_35 : v_35.toInt = ((mf 1) 3).toInt := by rw [ev_35]; rfl
      refine cm_i (pc := 43) hw34 (rn_M (As := [.int v_35]) (rest := []) E hw34 (s_reachedFrom l D cI cJ _ M mr (upd mi 0 0) (va_up mf 55 gfarOf_33) mg v_35 h0 (by show 0 ≤ v_35.toInt ∧ v_35.toInt ≤ 9; omega)) (gdV q_1934 q_1936 q_114 q_162 q_1937) hdV_X12_reachedFrom ⟨rfl, rfl⟩ ⟨(Nat.le_of_ble_eq_true rfl), (Nat.le_of_ble_eq_true rfl)⟩ ⟨(Nat.le_of_ble_eq_true rfl), (Nat.le_of_ble_eq_true rfl)⟩ 12 rfl rfl rfl rfl hl3.1 rfl (Nat.le_of_ble_eq_true rfl) dX12_best_43) (fun r_37 u_36 H1 locs hp hw38 => ?_)
      generalize H1 = H at hw38 ⊢
      have hw39 : WD D A s.heap (MW cI cJ M mr (upd mi 0 0) (va_up mf 55 gfarOf_33) mg) H locs := hw38
      refine lv_istore_n (pc := 46) (lv' := [(3, .int r_37), (0, .ref M), (1, .int z_goal), (2, .int z_k)]) E.1 E.2.1 dX12_best_46 rfl hl3 (by decide) rfl (fun ls hl40 => ?_)
      refine lv_iconst (pc := 47) (v := (-1)) E.1 E.2.1 dX12_best_47 (by decide +kernel) ?_
      refine lv_istore (pc := 48) (lv' := [(4, .int (-1)), (3, .int r_37), (0, .ref M), (1, .int z_goal), (2, .int z_k)]) E.1 E.2.1 dX12_best_48 hl40 (by decide) rfl (fun ls hl41 => ?_)
      refine lv_iconst (pc := 50) (v := (-1)) E.1 E.2.1 dX12_best_50 (by decide +kernel) ?_
      refine lv_istore (pc := 51) (lv' := [(5, .int (-1)), (4, .int (-1)), (3, .int r_37), (0, .ref M), (1, .int z_goal), (2, .int z_k)]) E.1 E.2.1 dX12_best_51 hl41 (by decide) rfl (fun ls hl42 => ?_)
      refine lv_iconst (pc := 53) (v := 0) E.1 E.2.1 dX12_best_53 (by decide +kernel) ?_
      refine lv_istore (pc := 54) (lv' := [(6, .int 0), (5, .int (-1)), (4, .int (-1)), (3, .int r_37), (0, .ref M), (1, .int z_goal), (2, .int z_k)]) E.1 E.2.1 dX12_best_54 hl42 (by decide) rfl (fun ls hl43 => ?_)
      have loop_44 : ∀ (k : Nat) (x_45 : Int32) (x_46 : Int32) (x_47 : Int32) (g_48 : Nat → Int32) (g_49 : Nat → Int32) (g_50 : Nat → Int32) (H : Heap) (locs : List Loc) (ls : Array Slot), (0 ≤ x_45.toInt) ∧ (x_45.toInt ≤ (mi 6).toInt) → (mi 6).toInt - x_45.toInt < (k : Int) → WD D A s.heap (MW cI cJ M mr (upd mi 0 0) (va_up (va_up (va_up mf 55 g_48) 62 g_49) 63 g_50) mg) H locs → lv_has ls 8 [(6, .int x_45), (5, .int x_47), (4, .int x_46), (3, .int r_37), (0, .ref M), (1, .int z_goal), (2, .int z_k)] → W p l e ({ frames := 5, cells := 0, slots := 0, locals := 134 } : Room) s m ([.ref M, .int z_goal, .int z_k] : List Value).toArray below meth c H locs 0 0 (MQ below (va_Qi (fun (r : Int32) (u : Int32 × (Nat → Int32) × (Nat → Int32) × (Nat → Int32)) => True) (fun u => QW D cI cJ A ((fun (u : Int32 × (Nat → Int32) × (Nat → Int32) × (Nat → Int32)) => (MW cI cJ M mr (upd mi 0 u.1) (va_up (va_up (va_up mf 55 u.2.1) 62 u.2.2.1) 63 u.2.2.2) mg)) u)) A) ([.ref M, .int z_goal, .int z_k] : List Value).toArray s 0 0 A) (F0 m 56 ls []) := by
        intro k
        induction k with
        | zero =>
          intro x_45 x_46 x_47 g_48 g_49 g_50 _ _ _ hinv hm
          obtain ⟨hi_50_0, hi_50_1⟩ := hinv
          exact absurd hm (by omega)
        | succ k ih_51 =>
          intro x_45 x_46 x_47 g_48 g_49 g_50 H locs ls hinv hm hw52 hl53
          obtain ⟨hi_50_0, hi_50_1⟩ := hinv
          refine lv_iload (pc := 56) E.1 E.2.1 dX12_best_56 (lv_at hl53 0 rfl) ?_
          refine lv_aload_n (pc := 58) E.1 E.2.1 dX12_best_58 rfl (lv_at hl53 4 rfl) ?_
          refine x_get (pc := 59) (T := TX12) (N := 70) (ci := 12) (v := .int (mi 6)) E hw52 inX12 0 6 q_1405 rfl rfl (by decide) rfl rfl dX12_best_59 ?_
          refine lv_icmp_ge (pc := 62) (tgt := 121) E.1 E.2.1 dX12_best_62 (by decide) (fun c_54 => ?_) (fun c_54 => ?_)
          · skip
            have hc_54 := leE (a := (mi 6).toInt) (b := x_45.toInt) rfl rfl c_54
            refine lv_iload (pc := 121) E.1 E.2.1 dX12_best_121 (lv_at hl53 2 rfl) ?_
            exact em_i (w1 := (fun (u : Int32 × (Nat → Int32) × (Nat → Int32) × (Nat → Int32)) => (MW cI cJ M mr (upd mi 0 u.1) (va_up (va_up (va_up mf 55 u.2.1) 62 u.2.2.1) 63 u.2.2.2) mg))) E hr hlk (0, g_48, g_49, g_50) hw52 trivial (Nat.le_of_ble_eq_true rfl) (Nat.le_of_ble_eq_true rfl) dX12_best_123
          · skip
            have hc_54 := nleE (a := (mi 6).toInt) (b := x_45.toInt) rfl rfl c_54
            refine lv_iload_n (pc := 65) E.1 E.2.1 dX12_best_65 rfl (lv_at hl53 3 rfl) ?_
            refine lv_iload (pc := 66) E.1 E.2.1 dX12_best_66 (lv_at hl53 0 rfl) ?_
            refine lv_ishr (pc := 68) E.1 E.2.1 dX12_best_68 ?_
            refine lv_topi (fun v_55 ev_55 => ?_)
            refine lv_iconst (pc := 69) (v := 1) E.1 E.2.1 dX12_best_69 (by decide +kernel) ?_
            refine lv_iand (pc := 70) E.1 E.2.1 dX12_best_70 ?_
            refine lv_topi (fun v_56 ev_56 => ?_)
            refine lv_iconst (pc := 71) (v := 1) E.1 E.2.1 dX12_best_71 (by decide +kernel) ?_
            refine lv_icmp_ne (pc := 72) (tgt := 86) E.1 E.2.1 dX12_best_72 (by decide) (fun c_57 => ?_) (fun c_57 => ?_)
            · skip
              have hc_57 := neE (a := v_56.toInt) (b := 1) rfl (by decide +kernel) c_57
              refine lv_iconst (pc := 86) (v := (-1)) E.1 E.2.1 dX12_best_86 (by decide +kernel) ?_
              refine lv_istore (pc := 87) (lv' := [(7, .int (-1)), (6, .int x_45), (5, .int x_47), (4, .int x_46), (3, .int r_37), (0, .ref M), (1, .int z_goal), (2, .int z_k)]) E.1 E.2.1 dX12_best_87 hl53 (by decide) rfl (fun ls hl58 => ?_)
              refine lv_iload (pc := 89) E.1 E.2.1 dX12_best_89 (lv_at hl58 0 rfl) ?_
              refine lv_iload (pc := 91) E.1 E.2.1 dX12_best_91 (lv_at hl58 2 rfl) ?_
              refine lv_icmp_le (pc := 93) (tgt := 101) E.1 E.2.1 dX12_best_93 (by decide) (fun c_59 => ?_) (fun c_59 => ?_)
              · skip
                have hc_59 := leE (a := (-1)) (b := x_47.toInt) (by decide +kernel) rfl c_59
                refine lv_iload (pc := 101) E.1 E.2.1 dX12_best_101 (lv_at hl58 3 rfl) ?_
                refine lv_istore (pc := 103) (lv' := [(4, .int x_46), (7, .int (-1)), (6, .int x_45), (5, .int x_47), (3, .int r_37), (0, .ref M), (1, .int z_goal), (2, .int z_k)]) E.1 E.2.1 dX12_best_103 hl58 (by decide) rfl (fun ls hl60 => ?_)
                refine lv_aload_n (pc := 105) E.1 E.2.1 dX12_best_105 rfl (lv_at hl60 5 rfl) ?_
                refine lv_iload (pc := 106) E.1 E.2.1 dX12_best_106 (lv_at hl60 1 rfl) ?_
                refine lv_iload (pc := 108) E.1 E.2.1 dX12_best_108 (lv_at hl60 3 rfl) ?_
                refine cm_i (pc := 110) hw52 (rn_M (As := [.int (-1), .int x_47]) (rest := []) E hw52 (s_greater l D cI cJ _ M mr (upd mi 0 0) (va_up (va_up (va_up mf 55 g_48) 62 g_49) 63 g_50) mg (-1) x_47) (gdV q_2038 q_2040 q_134 q_162 q_2041) hdV_X12_greater ⟨rfl, rfl⟩ ⟨(Nat.le_of_ble_eq_true rfl), (Nat.le_of_ble_eq_true rfl)⟩ ⟨(Nat.le_of_ble_eq_true rfl), (Nat.le_of_ble_eq_true rfl)⟩ 12 rfl rfl rfl rfl hl60.1 rfl (Nat.le_of_ble_eq_true rfl) dX12_best_110) (fun r_62 u_61 H1 locs hp hw63 => ?_)
                generalize H1 = H at hw63 ⊢
                have hw64 : WD D A s.heap (MW cI cJ M mr (upd mi 0 0) (va_up (va_up (va_up mf 55 g_48) 62 g_49) 63 g_50) mg) H locs := hw63
                obtain ⟨hp_65, hp_66⟩ := hp
                have hp_65 : ((-1) : Int32).toInt ≤ r_62.toInt := hp_65
                rw [show ((-1) : Int32).toInt = -1 from by decide +kernel] at hp_65
                have hp_66 : x_47.toInt ≤ r_62.toInt := hp_66
                refine lv_istore (pc := 113) (lv' := [(5, .int r_62), (4, .int x_46), (7, .int (-1)), (6, .int x_45), (3, .int r_37), (0, .ref M), (1, .int z_goal), (2, .int z_k)]) E.1 E.2.1 dX12_best_113 hl60 (by decide) rfl (fun ls hl67 => ?_)
                obtain ⟨v_68, ev_68⟩ : ∃ z : Int32, x_45 + Int32.ofInt (1) = z := ⟨_, rfl⟩
                have hv_68 : v_68.toInt = x_45.toInt + (1) := by rw [← ev_68]; exact incE rfl (by decide) (by omega)
                refine lv_iinc (pc := 115) (v := v_68) (lv' := [(6, .int v_68), (5, .int r_62), (4, .int x_46), (7, .int (-1)), (3, .int r_37), (0, .ref M), (1, .int z_goal), (2, .int z_k)]) E.1 E.2.1 dX12_best_115 hl67 (k := 3) rfl ev_68 (by decide) rfl (fun ls hl69 => ?_)
                refine lv_goto (pc := 118) (tgt := 56) E.1 E.2.1 dX12_best_118 (by decide) ?_
                exact ih_51 v_68 x_46 r_62 g_48 g_49 g_50 _ _ _ ⟨(by show 0 ≤ v_68.toInt; omega), (by show v_68.toInt ≤ (mi 6).toInt; omega)⟩ (by omega) hw64 (lv_sub hl69 [0, 1, 2, 4, 5, 6, 7] rfl)
              · skip
                have hc_59 := nleE (a := (-1)) (b := x_47.toInt) (by decide +kernel) rfl c_59
                refine lv_iload (pc := 96) E.1 E.2.1 dX12_best_96 (lv_at hl58 1 rfl) ?_
                refine lv_goto (pc := 98) (tgt := 103) E.1 E.2.1 dX12_best_98 (by decide) ?_
                refine lv_istore (pc := 103) (lv' := [(4, .int x_45), (7, .int (-1)), (6, .int x_45), (5, .int x_47), (3, .int r_37), (0, .ref M), (1, .int z_goal), (2, .int z_k)]) E.1 E.2.1 dX12_best_103 hl58 (by decide) rfl (fun ls hl70 => ?_)
                refine lv_aload_n (pc := 105) E.1 E.2.1 dX12_best_105 rfl (lv_at hl70 5 rfl) ?_
                refine lv_iload (pc := 106) E.1 E.2.1 dX12_best_106 (lv_at hl70 1 rfl) ?_
                refine lv_iload (pc := 108) E.1 E.2.1 dX12_best_108 (lv_at hl70 3 rfl) ?_
                refine cm_i (pc := 110) hw52 (rn_M (As := [.int (-1), .int x_47]) (rest := []) E hw52 (s_greater l D cI cJ _ M mr (upd mi 0 0) (va_up (va_up (va_up mf 55 g_48) 62 g_49) 63 g_50) mg (-1) x_47) (gdV q_2038 q_2040 q_134 q_162 q_2041) hdV_X12_greater ⟨rfl, rfl⟩ ⟨(Nat.le_of_ble_eq_true rfl), (Nat.le_of_ble_eq_true rfl)⟩ ⟨(Nat.le_of_ble_eq_true rfl), (Nat.le_of_ble_eq_true rfl)⟩ 12 rfl rfl rfl rfl hl70.1 rfl (Nat.le_of_ble_eq_true rfl) dX12_best_110) (fun r_72 u_71 H1 locs hp hw73 => ?_)
                generalize H1 = H at hw73 ⊢
                have hw74 : WD D A s.heap (MW cI cJ M mr (upd mi 0 0) (va_up (va_up (va_up mf 55 g_48) 62 g_49) 63 g_50) mg) H locs := hw73
                obtain ⟨hp_75, hp_76⟩ := hp
                have hp_75 : ((-1) : Int32).toInt ≤ r_72.toInt := hp_75
                rw [show ((-1) : Int32).toInt = -1 from by decide +kernel] at hp_75
                have hp_76 : x_47.toInt ≤ r_72.toInt := hp_76
                refine lv_istore (pc := 113) (lv' := [(5, .int r_72), (4, .int x_45), (7, .int (-1)), (6, .int x_45), (3, .int r_37), (0, .ref M), (1, .int z_goal), (2, .int z_k)]) E.1 E.2.1 dX12_best_113 hl70 (by decide) rfl (fun ls hl77 => ?_)
                obtain ⟨v_78, ev_78⟩ : ∃ z : Int32, x_45 + Int32.ofInt (1) = z := ⟨_, rfl⟩
                have hv_78 : v_78.toInt = x_45.toInt + (1) := by rw [← ev_78]; exact incE rfl (by decide) (by omega)
                refine lv_iinc (pc := 115) (v := v_78) (lv' := [(6, .int v_78), (5, .int r_72), (4, .int x_45), (7, .int (-1)), (3, .int r_37), (0, .ref M), (1, .int z_goal), (2, .int z_k)]) E.1 E.2.1 dX12_best_115 hl77 (k := 3) rfl ev_78 (by decide) rfl (fun ls hl79 => ?_)
                refine lv_goto (pc := 118) (tgt := 56) E.1 E.2.1 dX12_best_118 (by decide) ?_
                exact ih_51 v_78 x_45 r_72 g_48 g_49 g_50 _ _ _ ⟨(by show 0 ≤ v_78.toInt; omega), (by show v_78.toInt ≤ (mi 6).toInt; omega)⟩ (by omega) hw74 (lv_sub hl79 [0, 1, 2, 4, 5, 6, 7] rfl)
            · skip
              have hc_57 := eqE (a := v_56.toInt) (b := 1) rfl (by decide +kernel) c_57
              refine lv_aload_n (pc := 75) E.1 E.2.1 dX12_best_75 rfl (lv_at hl53 4 rfl) ?_
              refine lv_iload (pc := 76) E.1 E.2.1 dX12_best_76 (lv_at hl53 0 rfl) ?_
              refine lv_iload_n (pc := 78) E.1 E.2.1 dX12_best_78 rfl (lv_at hl53 5 rfl) ?_
              refine lv_iload_n (pc := 79) E.1 E.2.1 dX12_best_79 rfl (lv_at hl53 6 rfl) ?_
              refine cm_i (pc := 80) hw52 (rn_M (As := [.int x_45, .int z_goal, .int z_k]) (rest := []) E hw52 (s_sureOf l D cI cJ _ M mr (upd mi 0 0) (va_up (va_up (va_up mf 55 g_48) 62 g_49) 63 g_50) mg x_45 z_goal z_k h0 h1 (by show 0 ≤ x_45.toInt ∧ x_45.toInt ≤ 9; omega) (by show 0 ≤ z_goal.toInt ∧ z_goal.toInt ≤ 9; omega) (by show 1 ≤ z_k.toInt ∧ z_k.toInt ≤ 9; omega) a_paths) (gdV q_2066 q_2068 q_138 q_162 q_2069) hdV_X12_sureOf ⟨rfl, rfl⟩ ⟨(Nat.le_of_ble_eq_true rfl), (Nat.le_of_ble_eq_true rfl)⟩ ⟨(Nat.le_of_ble_eq_true rfl), (Nat.le_of_ble_eq_true rfl)⟩ 12 rfl rfl rfl rfl hl53.1 rfl (Nat.le_of_ble_eq_true rfl) dX12_best_80) (fun r_81 u_80 H1 locs hp hw82 => ?_)
              obtain ⟨gfarOf_83, gchances_84, gchancesThen_85⟩ := u_80
              generalize H1 = H at hw82 ⊢
              have hw86 : WD D A s.heap (MW cI cJ M mr (upd mi 0 0) (va_up (va_up (va_up mf 55 gfarOf_83) 62 gchances_84) 63 gchancesThen_85) mg) H locs := hw82
              refine lv_goto (pc := 83) (tgt := 87) E.1 E.2.1 dX12_best_83 (by decide) ?_
              refine lv_istore (pc := 87) (lv' := [(7, .int r_81), (6, .int x_45), (5, .int x_47), (4, .int x_46), (3, .int r_37), (0, .ref M), (1, .int z_goal), (2, .int z_k)]) E.1 E.2.1 dX12_best_87 hl53 (by decide) rfl (fun ls hl87 => ?_)
              refine lv_iload (pc := 89) E.1 E.2.1 dX12_best_89 (lv_at hl87 0 rfl) ?_
              refine lv_iload (pc := 91) E.1 E.2.1 dX12_best_91 (lv_at hl87 2 rfl) ?_
              refine lv_icmp_le (pc := 93) (tgt := 101) E.1 E.2.1 dX12_best_93 (by decide) (fun c_88 => ?_) (fun c_88 => ?_)
              · skip
                have hc_88 := leE (a := r_81.toInt) (b := x_47.toInt) rfl rfl c_88
                refine lv_iload (pc := 101) E.1 E.2.1 dX12_best_101 (lv_at hl87 3 rfl) ?_
                refine lv_istore (pc := 103) (lv' := [(4, .int x_46), (7, .int r_81), (6, .int x_45), (5, .int x_47), (3, .int r_37), (0, .ref M), (1, .int z_goal), (2, .int z_k)]) E.1 E.2.1 dX12_best_103 hl87 (by decide) rfl (fun ls hl89 => ?_)
                refine lv_aload_n (pc := 105) E.1 E.2.1 dX12_best_105 rfl (lv_at hl89 5 rfl) ?_
                refine lv_iload (pc := 106) E.1 E.2.1 dX12_best_106 (lv_at hl89 1 rfl) ?_
                refine lv_iload (pc := 108) E.1 E.2.1 dX12_best_108 (lv_at hl89 3 rfl) ?_
                refine cm_i (pc := 110) hw86 (rn_M (As := [.int r_81, .int x_47]) (rest := []) E hw86 (s_greater l D cI cJ _ M mr (upd mi 0 0) (va_up (va_up (va_up mf 55 gfarOf_83) 62 gchances_84) 63 gchancesThen_85) mg r_81 x_47) (gdV q_2038 q_2040 q_134 q_162 q_2041) hdV_X12_greater ⟨rfl, rfl⟩ ⟨(Nat.le_of_ble_eq_true rfl), (Nat.le_of_ble_eq_true rfl)⟩ ⟨(Nat.le_of_ble_eq_true rfl), (Nat.le_of_ble_eq_true rfl)⟩ 12 rfl rfl rfl rfl hl89.1 rfl (Nat.le_of_ble_eq_true rfl) dX12_best_110) (fun r_91 u_90 H1 locs hp hw92 => ?_)
                generalize H1 = H at hw92 ⊢
                have hw93 : WD D A s.heap (MW cI cJ M mr (upd mi 0 0) (va_up (va_up (va_up mf 55 gfarOf_83) 62 gchances_84) 63 gchancesThen_85) mg) H locs := hw92
                obtain ⟨hp_94, hp_95⟩ := hp
                have hp_94 : r_81.toInt ≤ r_91.toInt := hp_94
                have hp_95 : x_47.toInt ≤ r_91.toInt := hp_95
                refine lv_istore (pc := 113) (lv' := [(5, .int r_91), (4, .int x_46), (7, .int r_81), (6, .int x_45), (3, .int r_37), (0, .ref M), (1, .int z_goal), (2, .int z_k)]) E.1 E.2.1 dX12_best_113 hl89 (by decide) rfl (fun ls hl96 => ?_)
                obtain ⟨v_97, ev_97⟩ : ∃ z : Int32, x_45 + Int32.ofInt (1) = z := ⟨_, rfl⟩
                have hv_97 : v_97.toInt = x_45.toInt + (1) := by rw [← ev_97]; exact incE rfl (by decide) (by omega)
                refine lv_iinc (pc := 115) (v := v_97) (lv' := [(6, .int v_97), (5, .int r_91), (4, .int x_46), (7, .int r_81), (3, .int r_37), (0, .ref M), (1, .int z_goal), (2, .int z_k)]) E.1 E.2.1 dX12_best_115 hl96 (k := 3) rfl ev_97 (by decide) rfl (fun ls hl98 => ?_)
                refine lv_goto (pc := 118) (tgt := 56) E.1 E.2.1 dX12_best_118 (by decide) ?_
                exact ih_51 v_97 x_46 r_91 gfarOf_83 gchances_84 gchancesThen_85 _ _ _ ⟨(by show 0 ≤ v_97.toInt; omega), (by show v_97.toInt ≤ (mi 6).toInt; omega)⟩ (by omega) hw93 (lv_sub hl98 [0, 1, 2, 4, 5, 6, 7] rfl)
              · skip
                have hc_88 := nleE (a := r_81.toInt) (b := x_47.toInt) rfl rfl c_88
                refine lv_iload (pc := 96) E.1 E.2.1 dX12_best_96 (lv_at hl87 1 rfl) ?_
                refine lv_goto (pc := 98) (tgt := 103) E.1 E.2.1 dX12_best_98 (by decide) ?_
                refine lv_istore (pc := 103) (lv' := [(4, .int x_45), (7, .int r_81), (6, .int x_45), (5, .int x_47), (3, .int r_37), (0, .ref M), (1, .int z_goal), (2, .int z_k)]) E.1 E.2.1 dX12_best_103 hl87 (by decide) rfl (fun ls hl99 => ?_)
                refine lv_aload_n (pc := 105) E.1 E.2.1 dX12_best_105 rfl (lv_at hl99 5 rfl) ?_
                refine lv_iload (pc := 106) E.1 E.2.1 dX12_best_106 (lv_at hl99 1 rfl) ?_
                refine lv_iload (pc := 108) E.1 E.2.1 dX12_best_108 (lv_at hl99 3 rfl) ?_
                refine cm_i (pc := 110) hw86 (rn_M (As := [.int r_81, .int x_47]) (rest := []) E hw86 (s_greater l D cI cJ _ M mr (upd mi 0 0) (va_up (va_up (va_up mf 55 gfarOf_83) 62 gchances_84) 63 gchancesThen_85) mg r_81 x_47) (gdV q_2038 q_2040 q_134 q_162 q_2041) hdV_X12_greater ⟨rfl, rfl⟩ ⟨(Nat.le_of_ble_eq_true rfl), (Nat.le_of_ble_eq_true rfl)⟩ ⟨(Nat.le_of_ble_eq_true rfl), (Nat.le_of_ble_eq_true rfl)⟩ 12 rfl rfl rfl rfl hl99.1 rfl (Nat.le_of_ble_eq_true rfl) dX12_best_110) (fun r_101 u_100 H1 locs hp hw102 => ?_)
                generalize H1 = H at hw102 ⊢
                have hw103 : WD D A s.heap (MW cI cJ M mr (upd mi 0 0) (va_up (va_up (va_up mf 55 gfarOf_83) 62 gchances_84) 63 gchancesThen_85) mg) H locs := hw102
                obtain ⟨hp_104, hp_105⟩ := hp
                have hp_104 : r_81.toInt ≤ r_101.toInt := hp_104
                have hp_105 : x_47.toInt ≤ r_101.toInt := hp_105
                refine lv_istore (pc := 113) (lv' := [(5, .int r_101), (4, .int x_45), (7, .int r_81), (6, .int x_45), (3, .int r_37), (0, .ref M), (1, .int z_goal), (2, .int z_k)]) E.1 E.2.1 dX12_best_113 hl99 (by decide) rfl (fun ls hl106 => ?_)
                obtain ⟨v_107, ev_107⟩ : ∃ z : Int32, x_45 + Int32.ofInt (1) = z := ⟨_, rfl⟩
                have hv_107 : v_107.toInt = x_45.toInt + (1) := by rw [← ev_107]; exact incE rfl (by decide) (by omega)
                refine lv_iinc (pc := 115) (v := v_107) (lv' := [(6, .int v_107), (5, .int r_101), (4, .int x_45), (7, .int r_81), (3, .int r_37), (0, .ref M), (1, .int z_goal), (2, .int z_k)]) E.1 E.2.1 dX12_best_115 hl106 (k := 3) rfl ev_107 (by decide) rfl (fun ls hl108 => ?_)
                refine lv_goto (pc := 118) (tgt := 56) E.1 E.2.1 dX12_best_118 (by decide) ?_
                exact ih_51 v_107 x_45 r_101 gfarOf_83 gchances_84 gchancesThen_85 _ _ _ ⟨(by show 0 ≤ v_107.toInt; omega), (by show v_107.toInt ≤ (mi 6).toInt; omega)⟩ (by omega) hw103 (lv_sub hl108 [0, 1, 2, 4, 5, 6, 7] rfl)
      exact loop_44 (Int.toNat ((mi 6).toInt - 0) + 1) 0 (-1) (-1) gfarOf_33 (mf 62) (mf 63) _ _ _ ⟨(by show 0 ≤ (0 : Int32).toInt; have k_0 : (0 : Int32).toInt = 0 := (by decide +kernel); omega), (by show (0 : Int32).toInt ≤ (mi 6).toInt; have k_0 : (0 : Int32).toInt = 0 := (by decide +kernel); omega)⟩ (by have k_0 : (0 : Int32).toInt = 0 := (by decide +kernel); have k_1 : ((-1) : Int32).toInt = -1 := (by decide +kernel); have k_2 : ((-1) : Int32).toInt = -1 := (by decide +kernel); omega) hw39 (lv_sub hl43 [0, 1, 2, 3, 4, 5, 6] rfl)
