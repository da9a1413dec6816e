set_option maxHeartbeats 4000000 in
set_option maxRecDepth 100000 in
theorem s_isIn (l : Launch) (D : va_G) (cI cJ : ClassId) (sz M : Nat) (mr : Nat → Nat) (mi : Nat → Int32) (mf : Nat → Nat → Int32) (mg : Nat → Nat → Int64) (z_v : Int32) (z_lo : Int32) (z_hi : Int32)  : Met l yX12_isIn (Cond.code yX12_isIn cX12_isIn 4 (some .boolean) :: GW) ({ frames := 1, cells := 0, slots := 0, locals := 40 } : Room) (va_Pc [.ref M, .int z_v, .int z_lo, .int z_hi] (PW D cI cJ sz (MW cI cJ M mr mi mf mg) xT)) (va_Qi (fun (r : Int32) (u : Unit) => ((r = 0 ∧ z_v.toInt < z_lo.toInt) ∨ (r = 0 ∧ z_hi.toInt < z_v.toInt) ∨ (r = 1 ∧ z_lo.toInt ≤ z_v.toInt ∧ z_v.toInt ≤ z_hi.toInt))) (fun u => QW D cI cJ (va_A (MW cI cJ M mr mi mf mg) sz) ((fun (u : Unit) => (MW cI cJ M mr mi mf mg)) u)) (va_A (MW cI cJ M mr mi mf mg) sz)) 0 0 (va_A (MW cI cJ M mr mi mf mg) sz) := by
  refine mk_met (y := yX12_isIn) (bytes := cX12_isIn) (maxL := 4) (avs := [.ref M, .int z_v, .int z_lo, .int z_hi]) (WS := (MW cI cJ M mr mi mf mg)) (Qf := fun A => va_Qi (fun (r : Int32) (u : Unit) => ((r = 0 ∧ z_v.toInt < z_lo.toInt) ∨ (r = 0 ∧ z_hi.toInt < z_v.toInt) ∨ (r = 1 ∧ z_lo.toInt ≤ z_v.toInt ∧ z_v.toInt ≤ z_hi.toInt))) (fun u => QW D cI cJ A ((fun (u : Unit) => (MW cI cJ M mr mi mf mg)) u)) A) (by decide) (Nat.le_of_ble_eq_true rfl) ?_
  intro p e s m below meth c A ls E hr hlk hnm hX hw1 hl2
  have hl3 : lv_has ls 4 [(0, .ref M), (1, .int z_v), (2, .int z_lo), (3, .int z_hi)] := hl2
  refine lv_iload_n (pc := 0) E.1 E.2.1 dX12_isIn_0 rfl (lv_at hl3 1 rfl) ?_
  refine lv_iload_n (pc := 1) E.1 E.2.1 dX12_isIn_1 rfl (lv_at hl3 2 rfl) ?_
  refine lv_icmp_lt (pc := 2) (tgt := 14) E.1 E.2.1 dX12_isIn_2 (by decide) (fun c_4 => ?_) (fun c_4 => ?_)
  · skip
    have hc_4 := ltE (a := z_v.toInt) (b := z_lo.toInt) rfl rfl c_4
    refine lv_iconst (pc := 14) (v := 0) E.1 E.2.1 dX12_isIn_14 (by decide +kernel) ?_
    exact em_z (w1 := (fun (u : Unit) => (MW cI cJ M mr mi mf mg))) E hr hlk () hw1 (Or.inl ⟨rfl, (by show z_v.toInt < z_lo.toInt; omega)⟩) (by decide +kernel) (Nat.le_of_ble_eq_true rfl) (Nat.le_of_ble_eq_true rfl) dX12_isIn_15
  · skip
    have hc_4 := nltE (a := z_v.toInt) (b := z_lo.toInt) rfl rfl c_4
    refine lv_iload_n (pc := 5) E.1 E.2.1 dX12_isIn_5 rfl (lv_at hl3 1 rfl) ?_
    refine lv_iload_n (pc := 6) E.1 E.2.1 dX12_isIn_6 rfl (lv_at hl3 3 rfl) ?_
    refine lv_icmp_gt (pc := 7) (tgt := 14) E.1 E.2.1 dX12_isIn_7 (by decide) (fun c_5 => ?_) (fun c_5 => ?_)
    · skip
      have hc_5 := ltE (a := z_hi.toInt) (b := z_v.toInt) rfl rfl c_5
      refine lv_iconst (pc := 14) (v := 0) E.1 E.2.1 dX12_isIn_14 (by decide +kernel) ?_
      exact em_z (w1 := (fun (u : Unit) => (MW cI cJ M mr mi mf mg))) E hr hlk () hw1 (Or.inr (Or.inl ⟨rfl, (by show z_hi.toInt < z_v.toInt; omega)⟩)) (by decide +kernel) (Nat.le_of_ble_eq_true rfl) (Nat.le_of_ble_eq_true rfl) dX12_isIn_15
    · skip
      have hc_5 := nltE (a := z_hi.toInt) (b := z_v.toInt) rfl rfl c_5
      refine lv_iconst (pc := 10) (v := 1) E.1 E.2.1 dX12_isIn_10 (by decide +kernel) ?_
      refine lv_goto (pc := 11) (tgt := 15) E.1 E.2.1 dX12_isIn_11 (by decide) ?_
      exact em_z (w1 := (fun (u : Unit) => (MW cI cJ M mr mi mf mg))) E hr hlk () hw1 (Or.inr (Or.inr (⟨rfl, (by show z_lo.toInt ≤ z_v.toInt ∧ z_v.toInt ≤ z_hi.toInt; omega)⟩))) (by decide +kernel) (Nat.le_of_ble_eq_true rfl) (Nat.le_of_ble_eq_true rfl) dX12_isIn_15

set_option maxHeartbeats 4000000 in
set_option maxRecDepth 100000 in
theorem s_held (l : Launch) (D : va_G) (cI cJ : ClassId) (sz M : Nat) (mr : Nat → Nat) (mi : Nat → Int32) (mf : Nat → Nat → Int32) (mg : Nat → Nat → Int64) (z_v : Int32) (z_lo : Int32) (z_hi : Int32) (h0 : z_lo.toInt ≤ z_hi.toInt) : Met l yX12_held (Cond.code yX12_held cX12_held 4 (some .int) :: GW) ({ frames := 1, cells := 0, slots := 0, locals := 40 } : Room) (va_Pc [.ref M, .int z_v, .int z_lo, .int z_hi] (PW D cI cJ sz (MW cI cJ M mr mi mf mg) xT)) (va_Qi (fun (r : Int32) (u : Unit) => (z_lo.toInt ≤ r.toInt ∧ r.toInt ≤ z_hi.toInt)) (fun u => QW D cI cJ (va_A (MW cI cJ M mr mi mf mg) sz) ((fun (u : Unit) => (MW cI cJ M mr mi mf mg)) u)) (va_A (MW cI cJ M mr mi mf mg) sz)) 0 0 (va_A (MW cI cJ M mr mi mf mg) sz) := by
  refine mk_met (y := yX12_held) (bytes := cX12_held) (maxL := 4) (avs := [.ref M, .int z_v, .int z_lo, .int z_hi]) (WS := (MW cI cJ M mr mi mf mg)) (Qf := fun A => va_Qi (fun (r : Int32) (u : Unit) => (z_lo.toInt ≤ r.toInt ∧ r.toInt ≤ z_hi.toInt)) (fun u => QW D cI cJ A ((fun (u : Unit) => (MW cI cJ M mr mi mf mg)) u)) A) (by decide) (Nat.le_of_ble_eq_true rfl) ?_
  intro p e s m below meth c A ls E hr hlk hnm hX hw1 hl2
  have hl3 : lv_has ls 4 [(0, .ref M), (1, .int z_v), (2, .int z_lo), (3, .int z_hi)] := hl2
  refine lv_iload_n (pc := 0) E.1 E.2.1 dX12_held_0 rfl (lv_at hl3 1 rfl) ?_
  refine lv_iload_n (pc := 1) E.1 E.2.1 dX12_held_1 rfl (lv_at hl3 2 rfl) ?_
  refine lv_icmp_ge (pc := 2) (tgt := 9) E.1 E.2.1 dX12_held_2 (by decide) (fun c_4 => ?_) (fun c_4 => ?_)
  · skip
    have hc_4 := leE (a := z_lo.toInt) (b := z_v.toInt) rfl rfl c_4
    refine lv_iload_n (pc := 9) E.1 E.2.1 dX12_held_9 rfl (lv_at hl3 1 rfl) ?_
    refine lv_iload_n (pc := 10) E.1 E.2.1 dX12_held_10 rfl (lv_at hl3 3 rfl) ?_
    refine lv_icmp_le (pc := 11) (tgt := 18) E.1 E.2.1 dX12_held_11 (by decide) (fun c_5 => ?_) (fun c_5 => ?_)
    · skip
      have hc_5 := leE (a := z_v.toInt) (b := z_hi.toInt) rfl rfl c_5
      refine lv_iload_n (pc := 18) E.1 E.2.1 dX12_held_18 rfl (lv_at hl3 1 rfl) ?_
      exact em_i (w1 := (fun (u : Unit) => (MW cI cJ M mr mi mf mg))) E hr hlk () hw1 (by show z_lo.toInt ≤ z_v.toInt ∧ z_v.toInt ≤ z_hi.toInt; omega) (Nat.le_of_ble_eq_true rfl) (Nat.le_of_ble_eq_true rfl) dX12_held_19
    · skip
      have hc_5 := nleE (a := z_v.toInt) (b := z_hi.toInt) rfl rfl c_5
      refine lv_iload_n (pc := 14) E.1 E.2.1 dX12_held_14 rfl (lv_at hl3 3 rfl) ?_
      refine lv_goto (pc := 15) (tgt := 19) E.1 E.2.1 dX12_held_15 (by decide) ?_
      exact em_i (w1 := (fun (u : Unit) => (MW cI cJ M mr mi mf mg))) E hr hlk () hw1 (by show z_lo.toInt ≤ z_hi.toInt ∧ z_hi.toInt ≤ z_hi.toInt; omega) (Nat.le_of_ble_eq_true rfl) (Nat.le_of_ble_eq_true rfl) dX12_held_19
  · skip
    have hc_4 := nleE (a := z_lo.toInt) (b := z_v.toInt) rfl rfl c_4
    refine lv_iload_n (pc := 5) E.1 E.2.1 dX12_held_5 rfl (lv_at hl3 2 rfl) ?_
    refine lv_goto (pc := 6) (tgt := 19) E.1 E.2.1 dX12_held_6 (by decide) ?_
    exact em_i (w1 := (fun (u : Unit) => (MW cI cJ M mr mi mf mg))) E hr hlk () hw1 (by show z_lo.toInt ≤ z_lo.toInt ∧ z_lo.toInt ≤ z_hi.toInt; omega) (Nat.le_of_ble_eq_true rfl) (Nat.le_of_ble_eq_true rfl) dX12_held_19

set_option maxHeartbeats 4000000 in
set_option maxRecDepth 100000 in
theorem s_greater (l : Launch) (D : va_G) (cI cJ : ClassId) (sz M : Nat) (mr : Nat → Nat) (mi : Nat → Int32) (mf : Nat → Nat → Int32) (mg : Nat → Nat → Int64) (z_a : Int32) (z_b : Int32)  : Met l yX12_greater (Cond.code yX12_greater cX12_greater 3 (some .int) :: GW) ({ frames := 1, cells := 0, slots := 0, locals := 40 } : Room) (va_Pc [.ref M, .int z_a, .int z_b] (PW D cI cJ sz (MW cI cJ M mr mi mf mg) xT)) (va_Qi (fun (r : Int32) (u : Unit) => (z_a.toInt ≤ r.toInt) ∧ (z_b.toInt ≤ r.toInt)) (fun u => QW D cI cJ (va_A (MW cI cJ M mr mi mf mg) sz) ((fun (u : Unit) => (MW cI cJ M mr mi mf mg)) u)) (va_A (MW cI cJ M mr mi mf mg) sz)) 0 0 (va_A (MW cI cJ M mr mi mf mg) sz) := by
  refine mk_met (y := yX12_greater) (bytes := cX12_greater) (maxL := 3) (avs := [.ref M, .int z_a, .int z_b]) (WS := (MW cI cJ M mr mi mf mg)) (Qf := fun A => va_Qi (fun (r : Int32) (u : Unit) => (z_a.toInt ≤ r.toInt) ∧ (z_b.toInt ≤ r.toInt)) (fun u => QW D cI cJ A ((fun (u : Unit) => (MW cI cJ M mr mi mf mg)) u)) A) (by decide) (Nat.le_of_ble_eq_true rfl) ?_
  intro p e s m below meth c A ls E hr hlk hnm hX hw1 hl2
  have hl3 : lv_has ls 3 [(0, .ref M), (1, .int z_a), (2, .int z_b)] := hl2
  refine lv_iload_n (pc := 0) E.1 E.2.1 dX12_greater_0 rfl (lv_at hl3 1 rfl) ?_
  refine lv_iload_n (pc := 1) E.1 E.2.1 dX12_greater_1 rfl (lv_at hl3 2 rfl) ?_
  refine lv_icmp_le (pc := 2) (tgt := 9) E.1 E.2.1 dX12_greater_2 (by decide) (fun c_4 => ?_) (fun c_4 => ?_)
  · skip
    have hc_4 := leE (a := z_a.toInt) (b := z_b.toInt) rfl rfl c_4
    refine lv_iload_n (pc := 9) E.1 E.2.1 dX12_greater_9 rfl (lv_at hl3 2 rfl) ?_
    exact em_i (w1 := (fun (u : Unit) => (MW cI cJ M mr mi mf mg))) E hr hlk () hw1 ⟨(by show z_a.toInt ≤ z_b.toInt; omega), (by show z_b.toInt ≤ z_b.toInt; omega)⟩ (Nat.le_of_ble_eq_true rfl) (Nat.le_of_ble_eq_true rfl) dX12_greater_10
  · skip
    have hc_4 := nleE (a := z_a.toInt) (b := z_b.toInt) rfl rfl c_4
    refine lv_iload_n (pc := 5) E.1 E.2.1 dX12_greater_5 rfl (lv_at hl3 1 rfl) ?_
    refine lv_goto (pc := 6) (tgt := 10) E.1 E.2.1 dX12_greater_6 (by decide) ?_
    exact em_i (w1 := (fun (u : Unit) => (MW cI cJ M mr mi mf mg))) E hr hlk () hw1 ⟨(by show z_a.toInt ≤ z_a.toInt; omega), (by show z_b.toInt ≤ z_a.toInt; omega)⟩ (Nat.le_of_ble_eq_true rfl) (Nat.le_of_ble_eq_true rfl) dX12_greater_10

set_option maxHeartbeats 4000000 in
set_option maxRecDepth 100000 in
theorem s_dusk (l : Launch) (D : va_G) (cI cJ : ClassId) (sz M : Nat) (mr : Nat → Nat) (mi : Nat → Int32) (mf : Nat → Nat → Int32) (mg : Nat → Nat → Int64)   : Met l yX12_dusk (Cond.code yX12_dusk cX12_dusk 1 (some .int) :: GW) ({ frames := 1, cells := 0, slots := 0, locals := 40 } : Room) (va_Pc [.ref M] (PW D cI cJ sz (MW cI cJ M mr mi mf mg) xT)) (va_Qi (fun (r : Int32) (u : Unit) => True) (fun u => QW D cI cJ (va_A (MW cI cJ M mr mi mf mg) sz) ((fun (u : Unit) => (MW cI cJ M mr mi mf mg)) u)) (va_A (MW cI cJ M mr mi mf mg) sz)) 0 0 (va_A (MW cI cJ M mr mi mf mg) sz) := by
  refine mk_met (y := yX12_dusk) (bytes := cX12_dusk) (maxL := 1) (avs := [.ref M]) (WS := (MW cI cJ M mr mi mf mg)) (Qf := fun A => va_Qi (fun (r : Int32) (u : Unit) => True) (fun u => QW D cI cJ A ((fun (u : Unit) => (MW cI cJ M mr mi mf mg)) u)) A) (by decide) (Nat.le_of_ble_eq_true rfl) ?_
  intro p e s m below meth c A ls E hr hlk hnm hX hw1 hl2
  have hl3 : lv_has ls 1 [(0, .ref M)] := hl2
  refine lv_aload_n (pc := 0) E.1 E.2.1 dX12_dusk_0 rfl (lv_at hl3 0 rfl) ?_
  refine x_get (pc := 1) (T := TX12) (N := 70) (ci := 12) (v := .int (mi 14)) E hw1 inX12 0 14 q_1413 rfl rfl (by decide) rfl rfl dX12_dusk_1 ?_
  refine lv_bipush (pc := 4) (v := 20) E.1 E.2.1 dX12_dusk_4 (by decide +kernel) ?_
  refine lv_iadd (pc := 6) E.1 E.2.1 dX12_dusk_6 ?_
  refine lv_topi (fun v_4 ev_4 => ?_)
  exact em_i (w1 := (fun (u : Unit) => (MW cI cJ M mr mi mf mg))) E hr hlk () hw1 trivial (Nat.le_of_ble_eq_true rfl) (Nat.le_of_ble_eq_true rfl) dX12_dusk_7

set_option maxHeartbeats 4000000 in
set_option maxRecDepth 100000 in
theorem s_due (l : Launch) (D : va_G) (cI cJ : ClassId) (sz M : Nat) (mr : Nat → Nat) (mi : Nat → Int32) (mf : Nat → Nat → Int32) (mg : Nat → Nat → Int64)  (h0 : (-29) ≤ (mi 15).toInt ∧ (mi 15).toInt ≤ 69) : Met l yX12_due (Cond.code yX12_due cX12_due 1 (some .int) :: GW) ({ frames := 1, cells := 0, slots := 0, locals := 40 } : Room) (va_Pc [.ref M] (PW D cI cJ sz (MW cI cJ M mr mi mf mg) xT)) (va_Qi (fun (r : Int32) (u : Unit) => (1 ≤ r.toInt ∧ r.toInt ≤ 99)) (fun u => QW D cI cJ (va_A (MW cI cJ M mr mi mf mg) sz) ((fun (u : Unit) => (MW cI cJ M mr mi mf mg)) u)) (va_A (MW cI cJ M mr mi mf mg) sz)) 0 0 (va_A (MW cI cJ M mr mi mf mg) sz) := by
  refine mk_met (y := yX12_due) (bytes := cX12_due) (maxL := 1) (avs := [.ref M]) (WS := (MW cI cJ M mr mi mf mg)) (Qf := fun A => va_Qi (fun (r : Int32) (u : Unit) => (1 ≤ r.toInt ∧ r.toInt ≤ 99)) (fun u => QW D cI cJ A ((fun (u : Unit) => (MW cI cJ M mr mi mf mg)) u)) A) (by decide) (Nat.le_of_ble_eq_true rfl) ?_
  intro p e s m below meth c A ls E hr hlk hnm hX hw1 hl2
  have hl3 : lv_has ls 1 [(0, .ref M)] := hl2
  refine lv_aload_n (pc := 0) E.1 E.2.1 dX12_due_0 rfl (lv_at hl3 0 rfl) ?_
  refine x_get (pc := 1) (T := TX12) (N := 70) (ci := 12) (v := .int (mi 15)) E hw1 inX12 0 15 q_1414 rfl rfl (by decide) rfl rfl dX12_due_1 ?_
  refine lv_bipush (pc := 4) (v := 30) E.1 E.2.1 dX12_due_4 (by decide +kernel) ?_
  refine lv_iadd (pc := 6) E.1 E.2.1 dX12_due_6 ?_
  refine lv_topi (fun v_4 ev_4 => ?_)
  have hv_4 : v_4.toInt = (mi 15).toInt + 30 := by rw [ev_4]; exact addE rfl (by decide +kernel) (by omega)
  exact em_i (w1 := (fun (u : Unit) => (MW cI cJ M mr mi mf mg))) E hr hlk () hw1 (by show 1 ≤ v_4.toInt ∧ v_4.toInt ≤ 99; omega) (Nat.le_of_ble_eq_true rfl) (Nat.le_of_ble_eq_true rfl) dX12_due_7

set_option maxHeartbeats 4000000 in
set_option maxRecDepth 100000 in
theorem s_isHouse (l : Launch) (D : va_G) (cI cJ : ClassId) (sz M : Nat) (mr : Nat → Nat) (mi : Nat → Int32) (mf : Nat → Nat → Int32) (mg : Nat → Nat → Int64) (z_h : Int32)  : Met l yX12_isHouse (Cond.code yX12_isHouse cX12_isHouse 2 (some .boolean) :: GW) ({ frames := 1, cells := 0, slots := 0, locals := 40 } : Room) (va_Pc [.ref M, .int z_h] (PW D cI cJ sz (MW cI cJ M mr mi mf mg) xT)) (va_Qi (fun (r : Int32) (u : Unit) => ((r = 0 ∧ z_h.toInt < 0) ∨ (r = 0 ∧ (mi 6).toInt ≤ z_h.toInt) ∨ (r = 1 ∧ 0 ≤ z_h.toInt ∧ z_h.toInt < (mi 6).toInt))) (fun u => QW D cI cJ (va_A (MW cI cJ M mr mi mf mg) sz) ((fun (u : Unit) => (MW cI cJ M mr mi mf mg)) u)) (va_A (MW cI cJ M mr mi mf mg) sz)) 0 0 (va_A (MW cI cJ M mr mi mf mg) sz) := by
  refine mk_met (y := yX12_isHouse) (bytes := cX12_isHouse) (maxL := 2) (avs := [.ref M, .int z_h]) (WS := (MW cI cJ M mr mi mf mg)) (Qf := fun A => va_Qi (fun (r : Int32) (u : Unit) => ((r = 0 ∧ z_h.toInt < 0) ∨ (r = 0 ∧ (mi 6).toInt ≤ z_h.toInt) ∨ (r = 1 ∧ 0 ≤ z_h.toInt ∧ z_h.toInt < (mi 6).toInt))) (fun u => QW D cI cJ A ((fun (u : Unit) => (MW cI cJ M mr mi mf mg)) u)) A) (by decide) (Nat.le_of_ble_eq_true rfl) ?_
  intro p e s m below meth c A ls E hr hlk hnm hX hw1 hl2
  have hl3 : lv_has ls 2 [(0, .ref M), (1, .int z_h)] := hl2
  refine lv_iload_n (pc := 0) E.1 E.2.1 dX12_isHouse_0 rfl (lv_at hl3 1 rfl) ?_
  refine lv_if_lt (pc := 1) (tgt := 16) E.1 E.2.1 dX12_isHouse_1 (by decide) (fun c_4 => ?_) (fun c_4 => ?_)
  · skip
    have hc_4 := ltE (a := z_h.toInt) (b := 0) rfl (by decide +kernel) c_4
    refine lv_iconst (pc := 16) (v := 0) E.1 E.2.1 dX12_isHouse_16 (by decide +kernel) ?_
    exact em_z (w1 := (fun (u : Unit) => (MW cI cJ M mr mi mf mg))) E hr hlk () hw1 (Or.inl ⟨rfl, (by show z_h.toInt < 0; omega)⟩) (by decide +kernel) (Nat.le_of_ble_eq_true rfl) (Nat.le_of_ble_eq_true rfl) dX12_isHouse_17
  · skip
    have hc_4 := nltE (a := z_h.toInt) (b := 0) rfl (by decide +kernel) c_4
    refine lv_iload_n (pc := 4) E.1 E.2.1 dX12_isHouse_4 rfl (lv_at hl3 1 rfl) ?_
    refine lv_aload_n (pc := 5) E.1 E.2.1 dX12_isHouse_5 rfl (lv_at hl3 0 rfl) ?_
    refine x_get (pc := 6) (T := TX12) (N := 70) (ci := 12) (v := .int (mi 6)) E hw1 inX12 0 6 q_1405 rfl rfl (by decide) rfl rfl dX12_isHouse_6 ?_
    refine lv_icmp_ge (pc := 9) (tgt := 16) E.1 E.2.1 dX12_isHouse_9 (by decide) (fun c_5 => ?_) (fun c_5 => ?_)
    · skip
      have hc_5 := leE (a := (mi 6).toInt) (b := z_h.toInt) rfl rfl c_5
      refine lv_iconst (pc := 16) (v := 0) E.1 E.2.1 dX12_isHouse_16 (by decide +kernel) ?_
      exact em_z (w1 := (fun (u : Unit) => (MW cI cJ M mr mi mf mg))) E hr hlk () hw1 (Or.inr (Or.inl ⟨rfl, (by show (mi 6).toInt ≤ z_h.toInt; omega)⟩)) (by decide +kernel) (Nat.le_of_ble_eq_true rfl) (Nat.le_of_ble_eq_true rfl) dX12_isHouse_17
    · skip
      have hc_5 := nleE (a := (mi 6).toInt) (b := z_h.toInt) rfl rfl c_5
      refine lv_iconst (pc := 12) (v := 1) E.1 E.2.1 dX12_isHouse_12 (by decide +kernel) ?_
      refine lv_goto (pc := 13) (tgt := 17) E.1 E.2.1 dX12_isHouse_13 (by decide) ?_
      exact em_z (w1 := (fun (u : Unit) => (MW cI cJ M mr mi mf mg))) E hr hlk () hw1 (Or.inr (Or.inr (⟨rfl, (by show 0 ≤ z_h.toInt; omega), (by show z_h.toInt < (mi 6).toInt; omega)⟩))) (by decide +kernel) (Nat.le_of_ble_eq_true rfl) (Nat.le_of_ble_eq_true rfl) dX12_isHouse_17

set_option maxHeartbeats 4000000 in
set_option maxRecDepth 100000 in
theorem s_fault (l : Launch) (D : va_G) (cI cJ : ClassId) (sz M : Nat) (mr : Nat → Nat) (mi : Nat → Int32) (mf : Nat → Nat → Int32) (mg : Nat → Nat → Int64) (z_what : Int32)  : Met l yX12_fault (Cond.code yX12_fault cX12_fault 2 (some .int) :: GW) ({ frames := 1, cells := 0, slots := 0, locals := 40 } : Room) (va_Pc [.ref M, .int z_what] (PW D cI cJ sz (MW cI cJ M mr mi mf mg) xT)) (va_Qi (fun (r : Int32) (u : Int32) => True) (fun u => QW D cI cJ (va_A (MW cI cJ M mr mi mf mg) sz) ((fun (u : Int32) => (MW cI cJ M mr (upd mi 0 u) mf mg)) u)) (va_A (MW cI cJ M mr mi mf mg) sz)) 0 0 (va_A (MW cI cJ M mr mi mf mg) sz) := by
  refine mk_met (y := yX12_fault) (bytes := cX12_fault) (maxL := 2) (avs := [.ref M, .int z_what]) (WS := (MW cI cJ M mr mi mf mg)) (Qf := fun A => va_Qi (fun (r : Int32) (u : Int32) => True) (fun u => QW D cI cJ A ((fun (u : Int32) => (MW cI cJ M mr (upd mi 0 u) mf mg)) u)) A) (by decide) (Nat.le_of_ble_eq_true rfl) ?_
  intro p e s m below meth c A ls E hr hlk hnm hX hw1 hl2
  have hl3 : lv_has ls 2 [(0, .ref M), (1, .int z_what)] := hl2
  refine lv_aload_n (pc := 0) E.1 E.2.1 dX12_fault_0 rfl (lv_at hl3 0 rfl) ?_
  refine lv_iconst (pc := 1) (v := 0) E.1 E.2.1 dX12_fault_1 (by decide +kernel) ?_
  refine x_put (pc := 2) (T := TX12) (N := 70) (ci := 12) (ws' := (MW cI cJ M mr (upd mi 0 0) mf mg)) E hw1 inX12 tyX12_ok nmX12 0 0 q_1399 rfl rfl (by decide) rfl rfl rfl rfl (Nat.le_of_ble_eq_true rfl) rfl dX12_fault_2 (fun H locs hw4 => ?_)
  refine lv_iload_n (pc := 5) E.1 E.2.1 dX12_fault_5 rfl (lv_at hl3 1 rfl) ?_
  refine lv_if_ne (pc := 6) (tgt := 16) E.1 E.2.1 dX12_fault_6 (by decide) (fun c_5 => ?_) (fun c_5 => ?_)
  · skip
    have hc_5 := neE (a := z_what.toInt) (b := 0) rfl (by decide +kernel) c_5
    refine lv_iload_n (pc := 16) E.1 E.2.1 dX12_fault_16 rfl (lv_at hl3 1 rfl) ?_
    refine lv_iconst (pc := 17) (v := 1) E.1 E.2.1 dX12_fault_17 (by decide +kernel) ?_
    refine lv_icmp_ne (pc := 18) (tgt := 28) E.1 E.2.1 dX12_fault_18 (by decide) (fun c_6 => ?_) (fun c_6 => ?_)
    · skip
      have hc_6 := neE (a := z_what.toInt) (b := 1) rfl (by decide +kernel) c_6
      refine lv_iconst (pc := 28) (v := (-1)) E.1 E.2.1 dX12_fault_28 (by decide +kernel) ?_
      exact em_i (w1 := (fun (u : Int32) => (MW cI cJ M mr (upd mi 0 u) mf mg))) E hr hlk 0 hw4 trivial (Nat.le_of_ble_eq_true rfl) (Nat.le_of_ble_eq_true rfl) dX12_fault_29
    · skip
      have hc_6 := eqE (a := z_what.toInt) (b := 1) rfl (by decide +kernel) c_6
      refine lv_aload_n (pc := 21) E.1 E.2.1 dX12_fault_21 rfl (lv_at hl3 0 rfl) ?_
      refine x_get (pc := 22) (T := TX12) (N := 70) (ci := 12) (v := .int (mi 41)) E hw4 inX12 0 41 q_1440 rfl rfl (by decide) rfl rfl dX12_fault_22 ?_
      refine lv_goto (pc := 25) (tgt := 29) E.1 E.2.1 dX12_fault_25 (by decide) ?_
      exact em_i (w1 := (fun (u : Int32) => (MW cI cJ M mr (upd mi 0 u) mf mg))) E hr hlk 0 hw4 trivial (Nat.le_of_ble_eq_true rfl) (Nat.le_of_ble_eq_true rfl) dX12_fault_29
  · skip
    have hc_5 := eqE (a := z_what.toInt) (b := 0) rfl (by decide +kernel) c_5
    refine lv_aload_n (pc := 9) E.1 E.2.1 dX12_fault_9 rfl (lv_at hl3 0 rfl) ?_
    refine x_get (pc := 10) (T := TX12) (N := 70) (ci := 12) (v := .int (mi 40)) E hw4 inX12 0 40 q_1439 rfl rfl (by decide) rfl rfl dX12_fault_10 ?_
    refine lv_goto (pc := 13) (tgt := 29) E.1 E.2.1 dX12_fault_13 (by decide) ?_
    exact em_i (w1 := (fun (u : Int32) => (MW cI cJ M mr (upd mi 0 u) mf mg))) E hr hlk 0 hw4 trivial (Nat.le_of_ble_eq_true rfl) (Nat.le_of_ble_eq_true rfl) dX12_fault_29

set_option maxHeartbeats 4000000 in
set_option maxRecDepth 100000 in
theorem s_errs (l : Launch) (D : va_G) (cI cJ : ClassId) (sz M : Nat) (mr : Nat → Nat) (mi : Nat → Int32) (mf : Nat → Nat → Int32) (mg : Nat → Nat → Int64) (z_k : Int32)  : Met l yX12_errs (Cond.code yX12_errs cX12_errs 2 (some .int) :: GW) ({ frames := 1, cells := 0, slots := 0, locals := 40 } : Room) (va_Pc [.ref M, .int z_k] (PW D cI cJ sz (MW cI cJ M mr mi mf mg) xT)) (va_Qi (fun (r : Int32) (u : Int32 × Int32) => (r.toInt = (-1))) (fun u => QW D cI cJ (va_A (MW cI cJ M mr mi mf mg) sz) ((fun (u : Int32 × Int32) => (MW cI cJ M mr (upd (upd mi 38 u.1) 39 u.2) mf mg)) u)) (va_A (MW cI cJ M mr mi mf mg) sz)) 0 0 (va_A (MW cI cJ M mr mi mf mg) sz) := by
  refine mk_met (y := yX12_errs) (bytes := cX12_errs) (maxL := 2) (avs := [.ref M, .int z_k]) (WS := (MW cI cJ M mr mi mf mg)) (Qf := fun A => va_Qi (fun (r : Int32) (u : Int32 × Int32) => (r.toInt = (-1))) (fun u => QW D cI cJ A ((fun (u : Int32 × Int32) => (MW cI cJ M mr (upd (upd mi 38 u.1) 39 u.2) mf mg)) u)) A) (by decide) (Nat.le_of_ble_eq_true rfl) ?_
  intro p e s m below meth c A ls E hr hlk hnm hX hw1 hl2
  have hl3 : lv_has ls 2 [(0, .ref M), (1, .int z_k)] := hl2
  refine lv_aload_n (pc := 0) E.1 E.2.1 dX12_errs_0 rfl (lv_at hl3 0 rfl) ?_
  refine lv_iload_n (pc := 1) E.1 E.2.1 dX12_errs_1 rfl (lv_at hl3 1 rfl) ?_
  refine x_put (pc := 2) (T := TX12) (N := 70) (ci := 12) (ws' := (MW cI cJ M mr (upd mi 38 z_k) mf mg)) E hw1 inX12 tyX12_ok nmX12 0 38 q_1437 rfl rfl (by decide) rfl rfl rfl rfl (Nat.le_of_ble_eq_true rfl) rfl dX12_errs_2 (fun H locs hw4 => ?_)
  refine lv_aload_n (pc := 5) E.1 E.2.1 dX12_errs_5 rfl (lv_at hl3 0 rfl) ?_
  refine lv_aload_n (pc := 6) E.1 E.2.1 dX12_errs_6 rfl (lv_at hl3 0 rfl) ?_
  refine x_get (pc := 7) (T := TX12) (N := 70) (ci := 12) (v := .int (mi 23)) E hw4 inX12 0 23 q_1422 rfl rfl (by decide) rfl rfl dX12_errs_7 ?_
  refine x_put (pc := 10) (T := TX12) (N := 70) (ci := 12) (ws' := (MW cI cJ M mr (upd (upd mi 38 z_k) 39 (mi 23)) mf mg)) E hw4 inX12 tyX12_ok nmX12 0 39 q_1438 rfl rfl (by decide) rfl rfl rfl rfl (Nat.le_of_ble_eq_true rfl) rfl dX12_errs_10 (fun H locs hw5 => ?_)
  refine lv_iconst (pc := 13) (v := (-1)) E.1 E.2.1 dX12_errs_13 (by decide +kernel) ?_
  exact em_i (w1 := (fun (u : Int32 × Int32) => (MW cI cJ M mr (upd (upd mi 38 u.1) 39 u.2) mf mg))) E hr hlk (z_k, (mi 23)) hw5 (by show ((-1) : Int32).toInt = (-1); have k_0 : ((-1) : Int32).toInt = -1 := (by decide +kernel); omega) (Nat.le_of_ble_eq_true rfl) (Nat.le_of_ble_eq_true rfl) dX12_errs_14

set_option maxHeartbeats 4000000 in
set_option maxRecDepth 100000 in
theorem s_isWord (l : Launch) (D : va_G) (cI cJ : ClassId) (sz M : Nat) (mr : Nat → Nat) (mi : Nat → Int32) (mf : Nat → Nat → Int32) (mg : Nat → Nat → Int64) (z_w : Int32)  : Met l yX12_isWord (Cond.code yX12_isWord cX12_isWord 2 (some .boolean) :: GW) ({ frames := 1, cells := 0, slots := 0, locals := 40 } : Room) (va_Pc [.ref M, .int z_w] (PW D cI cJ sz (MW cI cJ M mr mi mf mg) xT)) (va_Qi (fun (r : Int32) (u : Unit) => (0 ≤ r.toInt ∧ r.toInt ≤ 1)) (fun u => QW D cI cJ (va_A (MW cI cJ M mr mi mf mg) sz) ((fun (u : Unit) => (MW cI cJ M mr mi mf mg)) u)) (va_A (MW cI cJ M mr mi mf mg) sz)) 0 0 (va_A (MW cI cJ M mr mi mf mg) sz) := by
  refine mk_met (y := yX12_isWord) (bytes := cX12_isWord) (maxL := 2) (avs := [.ref M, .int z_w]) (WS := (MW cI cJ M mr mi mf mg)) (Qf := fun A => va_Qi (fun (r : Int32) (u : Unit) => (0 ≤ r.toInt ∧ r.toInt ≤ 1)) (fun u => QW D cI cJ A ((fun (u : Unit) => (MW cI cJ M mr mi mf mg)) u)) A) (by decide) (Nat.le_of_ble_eq_true rfl) ?_
  intro p e s m below meth c A ls E hr hlk hnm hX hw1 hl2
  have hl3 : lv_has ls 2 [(0, .ref M), (1, .int z_w)] := hl2
  refine lv_aload_n (pc := 0) E.1 E.2.1 dX12_isWord_0 rfl (lv_at hl3 0 rfl) ?_
  refine x_get (pc := 1) (T := TX12) (N := 70) (ci := 12) (v := .int (mi 24)) E hw1 inX12 0 24 q_1423 rfl rfl (by decide) rfl rfl dX12_isWord_1 ?_
  refine lv_iconst (pc := 4) (v := 2) E.1 E.2.1 dX12_isWord_4 (by decide +kernel) ?_
  refine lv_icmp_ne (pc := 5) (tgt := 20) E.1 E.2.1 dX12_isWord_5 (by decide) (fun c_4 => ?_) (fun c_4 => ?_)
  · skip
    have hc_4 := neE (a := (mi 24).toInt) (b := 2) rfl (by decide +kernel) c_4
    refine lv_iconst (pc := 20) (v := 0) E.1 E.2.1 dX12_isWord_20 (by decide +kernel) ?_
    exact em_z (w1 := (fun (u : Unit) => (MW cI cJ M mr mi mf mg))) E hr hlk () hw1 (by show 0 ≤ (0 : Int32).toInt ∧ (0 : Int32).toInt ≤ 1; have k_0 : (0 : Int32).toInt = 0 := (by decide +kernel); omega) (by decide +kernel) (Nat.le_of_ble_eq_true rfl) (Nat.le_of_ble_eq_true rfl) dX12_isWord_21
  · skip
    have hc_4 := eqE (a := (mi 24).toInt) (b := 2) rfl (by decide +kernel) c_4
    refine lv_aload_n (pc := 8) E.1 E.2.1 dX12_isWord_8 rfl (lv_at hl3 0 rfl) ?_
    refine x_get (pc := 9) (T := TX12) (N := 70) (ci := 12) (v := .int (mi 25)) E hw1 inX12 0 25 q_1424 rfl rfl (by decide) rfl rfl dX12_isWord_9 ?_
    refine lv_iload_n (pc := 12) E.1 E.2.1 dX12_isWord_12 rfl (lv_at hl3 1 rfl) ?_
    refine lv_icmp_ne (pc := 13) (tgt := 20) E.1 E.2.1 dX12_isWord_13 (by decide) (fun c_5 => ?_) (fun c_5 => ?_)
    · skip
      have hc_5 := neE (a := (mi 25).toInt) (b := z_w.toInt) rfl rfl c_5
      refine lv_iconst (pc := 20) (v := 0) E.1 E.2.1 dX12_isWord_20 (by decide +kernel) ?_
      exact em_z (w1 := (fun (u : Unit) => (MW cI cJ M mr mi mf mg))) E hr hlk () hw1 (by show 0 ≤ (0 : Int32).toInt ∧ (0 : Int32).toInt ≤ 1; have k_0 : (0 : Int32).toInt = 0 := (by decide +kernel); omega) (by decide +kernel) (Nat.le_of_ble_eq_true rfl) (Nat.le_of_ble_eq_true rfl) dX12_isWord_21
    · skip
      have hc_5 := eqE (a := (mi 25).toInt) (b := z_w.toInt) rfl rfl c_5
      refine lv_iconst (pc := 16) (v := 1) E.1 E.2.1 dX12_isWord_16 (by decide +kernel) ?_
      refine lv_goto (pc := 17) (tgt := 21) E.1 E.2.1 dX12_isWord_17 (by decide) ?_
      exact em_z (w1 := (fun (u : Unit) => (MW cI cJ M mr mi mf mg))) E hr hlk () hw1 (by show 0 ≤ (1 : Int32).toInt ∧ (1 : Int32).toInt ≤ 1; have k_0 : (1 : Int32).toInt = 1 := (by decide +kernel); omega) (by decide +kernel) (Nat.le_of_ble_eq_true rfl) (Nat.le_of_ble_eq_true rfl) dX12_isWord_21

set_option maxHeartbeats 4000000 in
set_option maxRecDepth 100000 in
theorem s_isSign (l : Launch) (D : va_G) (cI cJ : ClassId) (sz M : Nat) (mr : Nat → Nat) (mi : Nat → Int32) (mf : Nat → Nat → Int32) (mg : Nat → Nat → Int64) (z_w : Int32)  : Met l yX12_isSign (Cond.code yX12_isSign cX12_isSign 2 (some .boolean) :: GW) ({ frames := 1, cells := 0, slots := 0, locals := 40 } : Room) (va_Pc [.ref M, .int z_w] (PW D cI cJ sz (MW cI cJ M mr mi mf mg) xT)) (va_Qi (fun (r : Int32) (u : Unit) => (0 ≤ r.toInt ∧ r.toInt ≤ 1)) (fun u => QW D cI cJ (va_A (MW cI cJ M mr mi mf mg) sz) ((fun (u : Unit) => (MW cI cJ M mr mi mf mg)) u)) (va_A (MW cI cJ M mr mi mf mg) sz)) 0 0 (va_A (MW cI cJ M mr mi mf mg) sz) := by
  refine mk_met (y := yX12_isSign) (bytes := cX12_isSign) (maxL := 2) (avs := [.ref M, .int z_w]) (WS := (MW cI cJ M mr mi mf mg)) (Qf := fun A => va_Qi (fun (r : Int32) (u : Unit) => (0 ≤ r.toInt ∧ r.toInt ≤ 1)) (fun u => QW D cI cJ A ((fun (u : Unit) => (MW cI cJ M mr mi mf mg)) u)) A) (by decide) (Nat.le_of_ble_eq_true rfl) ?_
  intro p e s m below meth c A ls E hr hlk hnm hX hw1 hl2
  have hl3 : lv_has ls 2 [(0, .ref M), (1, .int z_w)] := hl2
  refine lv_aload_n (pc := 0) E.1 E.2.1 dX12_isSign_0 rfl (lv_at hl3 0 rfl) ?_
  refine x_get (pc := 1) (T := TX12) (N := 70) (ci := 12) (v := .int (mi 24)) E hw1 inX12 0 24 q_1423 rfl rfl (by decide) rfl rfl dX12_isSign_1 ?_
  refine lv_iconst (pc := 4) (v := 4) E.1 E.2.1 dX12_isSign_4 (by decide +kernel) ?_
  refine lv_icmp_ne (pc := 5) (tgt := 20) E.1 E.2.1 dX12_isSign_5 (by decide) (fun c_4 => ?_) (fun c_4 => ?_)
  · skip
    have hc_4 := neE (a := (mi 24).toInt) (b := 4) rfl (by decide +kernel) c_4
    refine lv_iconst (pc := 20) (v := 0) E.1 E.2.1 dX12_isSign_20 (by decide +kernel) ?_
    exact em_z (w1 := (fun (u : Unit) => (MW cI cJ M mr mi mf mg))) E hr hlk () hw1 (by show 0 ≤ (0 : Int32).toInt ∧ (0 : Int32).toInt ≤ 1; have k_0 : (0 : Int32).toInt = 0 := (by decide +kernel); omega) (by decide +kernel) (Nat.le_of_ble_eq_true rfl) (Nat.le_of_ble_eq_true rfl) dX12_isSign_21
  · skip
    have hc_4 := eqE (a := (mi 24).toInt) (b := 4) rfl (by decide +kernel) c_4
    refine lv_aload_n (pc := 8) E.1 E.2.1 dX12_isSign_8 rfl (lv_at hl3 0 rfl) ?_
    refine x_get (pc := 9) (T := TX12) (N := 70) (ci := 12) (v := .int (mi 25)) E hw1 inX12 0 25 q_1424 rfl rfl (by decide) rfl rfl dX12_isSign_9 ?_
    refine lv_iload_n (pc := 12) E.1 E.2.1 dX12_isSign_12 rfl (lv_at hl3 1 rfl) ?_
    refine lv_icmp_ne (pc := 13) (tgt := 20) E.1 E.2.1 dX12_isSign_13 (by decide) (fun c_5 => ?_) (fun c_5 => ?_)
    · skip
      have hc_5 := neE (a := (mi 25).toInt) (b := z_w.toInt) rfl rfl c_5
      refine lv_iconst (pc := 20) (v := 0) E.1 E.2.1 dX12_isSign_20 (by decide +kernel) ?_
      exact em_z (w1 := (fun (u : Unit) => (MW cI cJ M mr mi mf mg))) E hr hlk () hw1 (by show 0 ≤ (0 : Int32).toInt ∧ (0 : Int32).toInt ≤ 1; have k_0 : (0 : Int32).toInt = 0 := (by decide +kernel); omega) (by decide +kernel) (Nat.le_of_ble_eq_true rfl) (Nat.le_of_ble_eq_true rfl) dX12_isSign_21
    · skip
      have hc_5 := eqE (a := (mi 25).toInt) (b := z_w.toInt) rfl rfl c_5
      refine lv_iconst (pc := 16) (v := 1) E.1 E.2.1 dX12_isSign_16 (by decide +kernel) ?_
      refine lv_goto (pc := 17) (tgt := 21) E.1 E.2.1 dX12_isSign_17 (by decide) ?_
      exact em_z (w1 := (fun (u : Unit) => (MW cI cJ M mr mi mf mg))) E hr hlk () hw1 (by show 0 ≤ (1 : Int32).toInt ∧ (1 : Int32).toInt ≤ 1; have k_0 : (1 : Int32).toInt = 1 := (by decide +kernel); omega) (by decide +kernel) (Nat.le_of_ble_eq_true rfl) (Nat.le_of_ble_eq_true rfl) dX12_isSign_21

set_option maxHeartbeats 4000000 in
set_option maxRecDepth 100000 in
theorem s_state (l : Launch) (D : va_G) (cI cJ : ClassId) (sz M : Nat) (mr : Nat → Nat) (mi : Nat → Int32) (mf : Nat → Nat → Int32) (mg : Nat → Nat → Int64) (z_v : Int32)  : Met l yX12_state (Cond.code yX12_state cX12_state 3 (some .int) :: GW) ({ frames := 1, cells := 0, slots := 0, locals := 40 } : Room) (va_Pc [.ref M, .int z_v] (PW D cI cJ sz (MW cI cJ M mr mi mf mg) xT)) (va_Qi (fun (r : Int32) (u : Int32 × (Nat → Int32) × Int32) => (u.2.2.toInt = 0)) (fun u => QW D cI cJ (va_A (MW cI cJ M mr mi mf mg) sz) ((fun (u : Int32 × (Nat → Int32) × Int32) => (MW cI cJ M mr (upd (upd mi 0 u.1) 3 u.2.2) (va_up mf 1 u.2.1) mg)) u)) (va_A (MW cI cJ M mr mi mf mg) sz)) 0 0 (va_A (MW cI cJ M mr mi mf mg) sz) := by
  refine mk_met (y := yX12_state) (bytes := cX12_state) (maxL := 3) (avs := [.ref M, .int z_v]) (WS := (MW cI cJ M mr mi mf mg)) (Qf := fun A => va_Qi (fun (r : Int32) (u : Int32 × (Nat → Int32) × Int32) => (u.2.2.toInt = 0)) (fun u => QW D cI cJ A ((fun (u : Int32 × (Nat → Int32) × Int32) => (MW cI cJ M mr (upd (upd mi 0 u.1) 3 u.2.2) (va_up mf 1 u.2.1) mg)) u)) A) (by decide) (Nat.le_of_ble_eq_true rfl) ?_
  intro p e s m below meth c A ls E hr hlk hnm hX hw1 hl2
  have hl3 : lv_has ls 3 [(0, .ref M), (1, .int z_v)] := hl2
  refine lv_aload_n (pc := 0) E.1 E.2.1 dX12_state_0 rfl (lv_at hl3 0 rfl) ?_
  refine lv_iconst (pc := 1) (v := 0) E.1 E.2.1 dX12_state_1 (by decide +kernel) ?_
  refine x_put (pc := 2) (T := TX12) (N := 70) (ci := 12) (ws' := (MW cI cJ M mr (upd mi 0 0) mf mg)) E hw1 inX12 tyX12_ok nmX12 0 0 q_1399 rfl rfl (by decide) rfl rfl rfl rfl (Nat.le_of_ble_eq_true rfl) rfl dX12_state_2 (fun H locs hw4 => ?_)
  refine lv_aload_n (pc := 5) E.1 E.2.1 dX12_state_5 rfl (lv_at hl3 0 rfl) ?_
  refine x_get (pc := 6) (T := TX12) (N := 70) (ci := 12) (v := .ref (mr 1)) E hw4 inX12 0 1 q_1400 rfl rfl (by decide) rfl rfl dX12_state_6 ?_
  refine lv_iconst (pc := 9) (v := 1) E.1 E.2.1 dX12_state_9 (by decide +kernel) ?_
  refine x_iald (pc := 10) (f := (mf 1)) E hw4 1 rfl (inbE (a := 1) (by decide +kernel) (by omega)) dX12_state_10 ?_
  refine lv_topi (fun v_5 ev_5 => ?_)
  refine lv_istore_n (pc := 11) (lv' := [(2, .int v_5), (0, .ref M), (1, .int z_v)]) E.1 E.2.1 dX12_state_11 rfl hl3 (by decide) rfl (fun ls hl6 => ?_)
  refine lv_aload_n (pc := 12) E.1 E.2.1 dX12_state_12 rfl (lv_at hl6 1 rfl) ?_
  refine x_get (pc := 13) (T := TX12) (N := 70) (ci := 12) (v := .ref (mr 1)) E hw4 inX12 0 1 q_1400 rfl rfl (by decide) rfl rfl dX12_state_13 ?_
  refine lv_iconst (pc := 16) (v := 1) E.1 E.2.1 dX12_state_16 (by decide +kernel) ?_
  refine lv_iload_n (pc := 17) E.1 E.2.1 dX12_state_17 rfl (lv_at hl6 2 rfl) ?_
  refine x_iastG (pc := 18) (f := (mf 1)) (wf := fun g => (MW cI cJ M mr (upd mi 0 0) (va_up mf 1 g) mg)) E hw4 1 rfl (inbE (a := 1) (by decide +kernel) (by omega)) (fun _ => rfl) dX12_state_18 (fun g_7 H locs eg_7 hw8 => ?_)
  refine lv_aload_n (pc := 19) E.1 E.2.1 dX12_state_19 rfl (lv_at hl6 1 rfl) ?_
  refine lv_iconst (pc := 20) (v := 0) E.1 E.2.1 dX12_state_20 (by decide +kernel) ?_
  refine x_put (pc := 21) (T := TX12) (N := 70) (ci := 12) (ws' := (MW cI cJ M mr (upd (upd mi 0 0) 3 0) (va_up mf 1 g_7) mg)) E hw8 inX12 tyX12_ok nmX12 0 3 q_1402 rfl rfl (by decide) rfl rfl rfl rfl (Nat.le_of_ble_eq_true rfl) rfl dX12_state_21 (fun H locs hw9 => ?_)
  refine lv_iload_n (pc := 24) E.1 E.2.1 dX12_state_24 rfl (lv_at hl6 0 rfl) ?_
  exact em_i (w1 := (fun (u : Int32 × (Nat → Int32) × Int32) => (MW cI cJ M mr (upd (upd mi 0 u.1) 3 u.2.2) (va_up mf 1 u.2.1) mg))) E hr hlk (0, g_7, 0) hw9 (by show (0 : Int32).toInt = 0; have k_0 : (0 : Int32).toInt = 0 := (by decide +kernel); have k_1 : (0 : Int32).toInt = 0 := (by decide +kernel); omega) (Nat.le_of_ble_eq_true rfl) (Nat.le_of_ble_eq_true rfl) dX12_state_25

set_option maxHeartbeats 4000000 in
set_option maxRecDepth 100000 in
theorem s_raw (l : Launch) (D : va_G) (cI cJ : ClassId) (sz M : Nat) (mr : Nat → Nat) (mi : Nat → Int32) (mf : Nat → Nat → Int32) (mg : Nat → Nat → Int64) (z_k : Int32) (h0 : 0 ≤ z_k.toInt) (h1 : 0 ≤ (mi 21).toInt ∧ (mi 21).toInt ≤ 400) : Met l yX12_raw (Cond.code yX12_raw cX12_raw 2 (some .int) :: GW) ({ frames := 1, cells := 0, slots := 0, locals := 40 } : Room) (va_Pc [.ref M, .int z_k] (PW D cI cJ sz (MW cI cJ M mr mi mf mg) xT)) (va_Qi (fun (r : Int32) (u : Unit) => True) (fun u => QW D cI cJ (va_A (MW cI cJ M mr mi mf mg) sz) ((fun (u : Unit) => (MW cI cJ M mr mi mf mg)) u)) (va_A (MW cI cJ M mr mi mf mg) sz)) 0 0 (va_A (MW cI cJ M mr mi mf mg) sz) := by
  refine mk_met (y := yX12_raw) (bytes := cX12_raw) (maxL := 2) (avs := [.ref M, .int z_k]) (WS := (MW cI cJ M mr mi mf mg)) (Qf := fun A => va_Qi (fun (r : Int32) (u : Unit) => True) (fun u => QW D cI cJ A ((fun (u : Unit) => (MW cI cJ M mr mi mf mg)) u)) A) (by decide) (Nat.le_of_ble_eq_true rfl) ?_
  intro p e s m below meth c A ls E hr hlk hnm hX hw1 hl2
  have hl3 : lv_has ls 2 [(0, .ref M), (1, .int z_k)] := hl2
  refine lv_iload_n (pc := 0) E.1 E.2.1 dX12_raw_0 rfl (lv_at hl3 1 rfl) ?_
  refine lv_aload_n (pc := 1) E.1 E.2.1 dX12_raw_1 rfl (lv_at hl3 0 rfl) ?_
  refine x_get (pc := 2) (T := TX12) (N := 70) (ci := 12) (v := .int (mi 21)) E hw1 inX12 0 21 q_1420 rfl rfl (by decide) rfl rfl dX12_raw_2 ?_
  refine lv_icmp_ge (pc := 5) (tgt := 17) E.1 E.2.1 dX12_raw_5 (by decide) (fun c_4 => ?_) (fun c_4 => ?_)
  · skip
    have hc_4 := leE (a := (mi 21).toInt) (b := z_k.toInt) rfl rfl c_4
    refine lv_iconst (pc := 17) (v := (-1)) E.1 E.2.1 dX12_raw_17 (by decide +kernel) ?_
    exact em_i (w1 := (fun (u : Unit) => (MW cI cJ M mr mi mf mg))) E hr hlk () hw1 trivial (Nat.le_of_ble_eq_true rfl) (Nat.le_of_ble_eq_true rfl) dX12_raw_18
  · skip
    have hc_4 := nleE (a := (mi 21).toInt) (b := z_k.toInt) rfl rfl c_4
    refine lv_aload_n (pc := 8) E.1 E.2.1 dX12_raw_8 rfl (lv_at hl3 0 rfl) ?_
    refine x_get (pc := 9) (T := TX12) (N := 70) (ci := 12) (v := .ref (mr 20)) E hw1 inX12 0 20 q_1419 rfl rfl (by decide) rfl rfl dX12_raw_9 ?_
    refine lv_iload_n (pc := 12) E.1 E.2.1 dX12_raw_12 rfl (lv_at hl3 1 rfl) ?_
    refine x_iald (pc := 13) (f := (mf 20)) E hw1 12 rfl (inbE (a := z_k.toInt) rfl (by omega)) dX12_raw_13 ?_
    refine lv_topi (fun v_5 ev_5 => ?_)
    refine lv_goto (pc := 14) (tgt := 18) E.1 E.2.1 dX12_raw_14 (by decide) ?_
    exact em_i (w1 := (fun (u : Unit) => (MW cI cJ M mr mi mf mg))) E hr hlk () hw1 trivial (Nat.le_of_ble_eq_true rfl) (Nat.le_of_ble_eq_true rfl) dX12_raw_18

set_option maxHeartbeats 4000000 in
set_option maxRecDepth 100000 in
theorem s_isLetter (l : Launch) (D : va_G) (cI cJ : ClassId) (sz M : Nat) (mr : Nat → Nat) (mi : Nat → Int32) (mf : Nat → Nat → Int32) (mg : Nat → Nat → Int64) (z_c : Int32)  : Met l yX12_isLetter (Cond.code yX12_isLetter cX12_isLetter 2 (some .boolean) :: GW) ({ frames := 2, cells := 0, slots := 0, locals := 63 } : Room) (va_Pc [.ref M, .int z_c] (PW D cI cJ sz (MW cI cJ M mr mi mf mg) xT)) (va_Qi (fun (r : Int32) (u : Unit) => (0 ≤ r.toInt ∧ r.toInt ≤ 1)) (fun u => QW D cI cJ (va_A (MW cI cJ M mr mi mf mg) sz) ((fun (u : Unit) => (MW cI cJ M mr mi mf mg)) u)) (va_A (MW cI cJ M mr mi mf mg) sz)) 0 0 (va_A (MW cI cJ M mr mi mf mg) sz) := by
  refine mk_met (y := yX12_isLetter) (bytes := cX12_isLetter) (maxL := 2) (avs := [.ref M, .int z_c]) (WS := (MW cI cJ M mr mi mf mg)) (Qf := fun A => va_Qi (fun (r : Int32) (u : Unit) => (0 ≤ r.toInt ∧ r.toInt ≤ 1)) (fun u => QW D cI cJ A ((fun (u : Unit) => (MW cI cJ M mr mi mf mg)) u)) A) (by decide) (Nat.le_of_ble_eq_true rfl) ?_
  intro p e s m below meth c A ls E hr hlk hnm hX hw1 hl2
  have hl3 : lv_has ls 2 [(0, .ref M), (1, .int z_c)] := hl2
  refine lv_aload_n (pc := 0) E.1 E.2.1 dX12_isLetter_0 rfl (lv_at hl3 0 rfl) ?_
  refine lv_iload_n (pc := 1) E.1 E.2.1 dX12_isLetter_1 rfl (lv_at hl3 1 rfl) ?_
  refine lv_bipush (pc := 2) (v := 97) E.1 E.2.1 dX12_isLetter_2 (by decide +kernel) ?_
  refine lv_bipush (pc := 4) (v := 122) E.1 E.2.1 dX12_isLetter_4 (by decide +kernel) ?_
  refine cm_i (pc := 6) hw1 (rn_M (As := [.int z_c, .int 97, .int 122]) (rest := []) E hw1 (s_isIn l D cI cJ _ M mr mi mf mg z_c 97 122) (gdV q_1622 q_1624 q_46 q_162 q_1625) hdV_X12_isIn ⟨rfl, rfl⟩ ⟨(Nat.le_of_ble_eq_true rfl), (Nat.le_of_ble_eq_true rfl)⟩ ⟨(Nat.le_of_ble_eq_true rfl), (Nat.le_of_ble_eq_true rfl)⟩ 12 rfl rfl rfl rfl hl3.1 rfl (Nat.le_of_ble_eq_true rfl) dX12_isLetter_6) (fun r_5 u_4 H1 locs hp hw6 => ?_)
  generalize H1 = H at hw6 ⊢
  have hw7 : WD D A s.heap (MW cI cJ M mr mi mf mg) H locs := hw6
  have hp_8 := hp
  rcases hp_8 with ⟨rfl, ha_9⟩ | ⟨rfl, ha_10⟩ | ⟨rfl, ha_11, ha_12⟩
  · skip
    have ha_9 : z_c.toInt < (97 : Int32).toInt := ha_9
    rw [show (97 : Int32).toInt = 97 from by decide +kernel] at ha_9
    refine lv_if_ne (pc := 9) (tgt := 24) E.1 E.2.1 dX12_isLetter_9 (by decide) (fun c_13 => absurd (meqE (a := 0) (b := 0) (by decide +kernel) (by decide +kernel) (by omega)) c_13) (fun _ => ?_)
    refine lv_aload_n (pc := 12) E.1 E.2.1 dX12_isLetter_12 rfl (lv_at hl3 0 rfl) ?_
    refine lv_iload_n (pc := 13) E.1 E.2.1 dX12_isLetter_13 rfl (lv_at hl3 1 rfl) ?_
    refine lv_bipush (pc := 14) (v := 65) E.1 E.2.1 dX12_isLetter_14 (by decide +kernel) ?_
    refine lv_bipush (pc := 16) (v := 90) E.1 E.2.1 dX12_isLetter_16 (by decide +kernel) ?_
    refine cm_i (pc := 18) hw7 (rn_M (As := [.int z_c, .int 65, .int 90]) (rest := []) E hw7 (s_isIn l D cI cJ _ M mr mi mf mg z_c 65 90) (gdV q_1622 q_1624 q_46 q_162 q_1625) hdV_X12_isIn ⟨rfl, rfl⟩ ⟨(Nat.le_of_ble_eq_true rfl), (Nat.le_of_ble_eq_true rfl)⟩ ⟨(Nat.le_of_ble_eq_true rfl), (Nat.le_of_ble_eq_true rfl)⟩ 12 rfl rfl rfl rfl hl3.1 rfl (Nat.le_of_ble_eq_true rfl) dX12_isLetter_18) (fun r_15 u_14 H1 locs hp hw16 => ?_)
    generalize H1 = H at hw16 ⊢
    have hw17 : WD D A s.heap (MW cI cJ M mr mi mf mg) H locs := hw16
    have hp_18 := hp
    rcases hp_18 with ⟨rfl, ha_19⟩ | ⟨rfl, ha_20⟩ | ⟨rfl, ha_21, ha_22⟩
    · skip
      have ha_19 : z_c.toInt < (65 : Int32).toInt := ha_19
      rw [show (65 : Int32).toInt = 65 from by decide +kernel] at ha_19
      refine lv_if_eq (pc := 21) (tgt := 28) E.1 E.2.1 dX12_isLetter_21 (by decide) (fun _ => ?_) (fun c_23 => absurd (meqE (a := 0) (b := 0) (by decide +kernel) (by decide +kernel) (by omega)) c_23)
      refine lv_iconst (pc := 28) (v := 0) E.1 E.2.1 dX12_isLetter_28 (by decide +kernel) ?_
      exact em_z (w1 := (fun (u : Unit) => (MW cI cJ M mr mi mf mg))) E hr hlk () hw17 (by show 0 ≤ (0 : Int32).toInt ∧ (0 : Int32).toInt ≤ 1; have k_0 : (0 : Int32).toInt = 0 := (by decide +kernel); omega) (by decide +kernel) (Nat.le_of_ble_eq_true rfl) (Nat.le_of_ble_eq_true rfl) dX12_isLetter_29
    · skip
      have ha_20 : (90 : Int32).toInt < z_c.toInt := ha_20
      rw [show (90 : Int32).toInt = 90 from by decide +kernel] at ha_20
      refine lv_if_eq (pc := 21) (tgt := 28) E.1 E.2.1 dX12_isLetter_21 (by decide) (fun _ => ?_) (fun c_24 => absurd (meqE (a := 0) (b := 0) (by decide +kernel) (by decide +kernel) (by omega)) c_24)
      refine lv_iconst (pc := 28) (v := 0) E.1 E.2.1 dX12_isLetter_28 (by decide +kernel) ?_
      exact em_z (w1 := (fun (u : Unit) => (MW cI cJ M mr mi mf mg))) E hr hlk () hw17 (by show 0 ≤ (0 : Int32).toInt ∧ (0 : Int32).toInt ≤ 1; have k_0 : (0 : Int32).toInt = 0 := (by decide +kernel); omega) (by decide +kernel) (Nat.le_of_ble_eq_true rfl) (Nat.le_of_ble_eq_true rfl) dX12_isLetter_29
    · skip
      have ha_21 : (65 : Int32).toInt ≤ z_c.toInt := ha_21
      rw [show (65 : Int32).toInt = 65 from by decide +kernel] at ha_21
      have ha_22 : z_c.toInt ≤ (90 : Int32).toInt := ha_22
      rw [show (90 : Int32).toInt = 90 from by decide +kernel] at ha_22
      refine lv_if_eq (pc := 21) (tgt := 28) E.1 E.2.1 dX12_isLetter_21 (by decide) (fun c_25 => absurd c_25 (mneE (a := 1) (b := 0) (by decide +kernel) (by decide +kernel) (by omega))) (fun _ => ?_)
      refine lv_iconst (pc := 24) (v := 1) E.1 E.2.1 dX12_isLetter_24 (by decide +kernel) ?_
      refine lv_goto (pc := 25) (tgt := 29) E.1 E.2.1 dX12_isLetter_25 (by decide) ?_
      exact em_z (w1 := (fun (u : Unit) => (MW cI cJ M mr mi mf mg))) E hr hlk () hw17 (by show 0 ≤ (1 : Int32).toInt ∧ (1 : Int32).toInt ≤ 1; have k_0 : (1 : Int32).toInt = 1 := (by decide +kernel); omega) (by decide +kernel) (Nat.le_of_ble_eq_true rfl) (Nat.le_of_ble_eq_true rfl) dX12_isLetter_29
  · skip
    have ha_10 : (122 : Int32).toInt < z_c.toInt := ha_10
    rw [show (122 : Int32).toInt = 122 from by decide +kernel] at ha_10
    refine lv_if_ne (pc := 9) (tgt := 24) E.1 E.2.1 dX12_isLetter_9 (by decide) (fun c_26 => absurd (meqE (a := 0) (b := 0) (by decide +kernel) (by decide +kernel) (by omega)) c_26) (fun _ => ?_)
    refine lv_aload_n (pc := 12) E.1 E.2.1 dX12_isLetter_12 rfl (lv_at hl3 0 rfl) ?_
    refine lv_iload_n (pc := 13) E.1 E.2.1 dX12_isLetter_13 rfl (lv_at hl3 1 rfl) ?_
    refine lv_bipush (pc := 14) (v := 65) E.1 E.2.1 dX12_isLetter_14 (by decide +kernel) ?_
    refine lv_bipush (pc := 16) (v := 90) E.1 E.2.1 dX12_isLetter_16 (by decide +kernel) ?_
    refine cm_i (pc := 18) hw7 (rn_M (As := [.int z_c, .int 65, .int 90]) (rest := []) E hw7 (s_isIn l D cI cJ _ M mr mi mf mg z_c 65 90) (gdV q_1622 q_1624 q_46 q_162 q_1625) hdV_X12_isIn ⟨rfl, rfl⟩ ⟨(Nat.le_of_ble_eq_true rfl), (Nat.le_of_ble_eq_true rfl)⟩ ⟨(Nat.le_of_ble_eq_true rfl), (Nat.le_of_ble_eq_true rfl)⟩ 12 rfl rfl rfl rfl hl3.1 rfl (Nat.le_of_ble_eq_true rfl) dX12_isLetter_18) (fun r_28 u_27 H1 locs hp hw29 => ?_)
    generalize H1 = H at hw29 ⊢
    have hw30 : WD D A s.heap (MW cI cJ M mr mi mf mg) H locs := hw29
    have hp_31 := hp
    rcases hp_31 with ⟨rfl, ha_32⟩ | ⟨rfl, ha_33⟩ | ⟨rfl, ha_34, ha_35⟩
    · skip
      have ha_32 : z_c.toInt < (65 : Int32).toInt := ha_32
      rw [show (65 : Int32).toInt = 65 from by decide +kernel] at ha_32
      exfalso; omega
    · skip
      have ha_33 : (90 : Int32).toInt < z_c.toInt := ha_33
      rw [show (90 : Int32).toInt = 90 from by decide +kernel] at ha_33
      refine lv_if_eq (pc := 21) (tgt := 28) E.1 E.2.1 dX12_isLetter_21 (by decide) (fun _ => ?_) (fun c_36 => absurd (meqE (a := 0) (b := 0) (by decide +kernel) (by decide +kernel) (by omega)) c_36)
      refine lv_iconst (pc := 28) (v := 0) E.1 E.2.1 dX12_isLetter_28 (by decide +kernel) ?_
      exact em_z (w1 := (fun (u : Unit) => (MW cI cJ M mr mi mf mg))) E hr hlk () hw30 (by show 0 ≤ (0 : Int32).toInt ∧ (0 : Int32).toInt ≤ 1; have k_0 : (0 : Int32).toInt = 0 := (by decide +kernel); omega) (by decide +kernel) (Nat.le_of_ble_eq_true rfl) (Nat.le_of_ble_eq_true rfl) dX12_isLetter_29
    · skip
      have ha_34 : (65 : Int32).toInt ≤ z_c.toInt := ha_34
      rw [show (65 : Int32).toInt = 65 from by decide +kernel] at ha_34
      have ha_35 : z_c.toInt ≤ (90 : Int32).toInt := ha_35
      rw [show (90 : Int32).toInt = 90 from by decide +kernel] at ha_35
      exfalso; omega
  · skip
    have ha_11 : (97 : Int32).toInt ≤ z_c.toInt := ha_11
    rw [show (97 : Int32).toInt = 97 from by decide +kernel] at ha_11
    have ha_12 : z_c.toInt ≤ (122 : Int32).toInt := ha_12
    rw [show (122 : Int32).toInt = 122 from by decide +kernel] at ha_12
    refine lv_if_ne (pc := 9) (tgt := 24) E.1 E.2.1 dX12_isLetter_9 (by decide) (fun _ => ?_) (fun c_37 => absurd c_37 (mneE (a := 1) (b := 0) (by decide +kernel) (by decide +kernel) (by omega)))
    refine lv_iconst (pc := 24) (v := 1) E.1 E.2.1 dX12_isLetter_24 (by decide +kernel) ?_
    refine lv_goto (pc := 25) (tgt := 29) E.1 E.2.1 dX12_isLetter_25 (by decide) ?_
    exact em_z (w1 := (fun (u : Unit) => (MW cI cJ M mr mi mf mg))) E hr hlk () hw7 (by show 0 ≤ (1 : Int32).toInt ∧ (1 : Int32).toInt ≤ 1; have k_0 : (1 : Int32).toInt = 1 := (by decide +kernel); omega) (by decide +kernel) (Nat.le_of_ble_eq_true rfl) (Nat.le_of_ble_eq_true rfl) dX12_isLetter_29

set_option maxHeartbeats 4000000 in
set_option maxRecDepth 100000 in
theorem s_isDigit (l : Launch) (D : va_G) (cI cJ : ClassId) (sz M : Nat) (mr : Nat → Nat) (mi : Nat → Int32) (mf : Nat → Nat → Int32) (mg : Nat → Nat → Int64) (z_c : Int32)  : Met l yX12_isDigit (Cond.code yX12_isDigit cX12_isDigit 2 (some .boolean) :: GW) ({ frames := 2, cells := 0, slots := 0, locals := 63 } : Room) (va_Pc [.ref M, .int z_c] (PW D cI cJ sz (MW cI cJ M mr mi mf mg) xT)) (va_Qi (fun (r : Int32) (u : Unit) => (0 ≤ r.toInt ∧ r.toInt ≤ 1)) (fun u => QW D cI cJ (va_A (MW cI cJ M mr mi mf mg) sz) ((fun (u : Unit) => (MW cI cJ M mr mi mf mg)) u)) (va_A (MW cI cJ M mr mi mf mg) sz)) 0 0 (va_A (MW cI cJ M mr mi mf mg) sz) := by
  refine mk_met (y := yX12_isDigit) (bytes := cX12_isDigit) (maxL := 2) (avs := [.ref M, .int z_c]) (WS := (MW cI cJ M mr mi mf mg)) (Qf := fun A => va_Qi (fun (r : Int32) (u : Unit) => (0 ≤ r.toInt ∧ r.toInt ≤ 1)) (fun u => QW D cI cJ A ((fun (u : Unit) => (MW cI cJ M mr mi mf mg)) u)) A) (by decide) (Nat.le_of_ble_eq_true rfl) ?_
  intro p e s m below meth c A ls E hr hlk hnm hX hw1 hl2
  have hl3 : lv_has ls 2 [(0, .ref M), (1, .int z_c)] := hl2
  refine lv_aload_n (pc := 0) E.1 E.2.1 dX12_isDigit_0 rfl (lv_at hl3 0 rfl) ?_
  refine lv_iload_n (pc := 1) E.1 E.2.1 dX12_isDigit_1 rfl (lv_at hl3 1 rfl) ?_
  refine lv_bipush (pc := 2) (v := 48) E.1 E.2.1 dX12_isDigit_2 (by decide +kernel) ?_
  refine lv_bipush (pc := 4) (v := 57) E.1 E.2.1 dX12_isDigit_4 (by decide +kernel) ?_
  refine cm_i (pc := 6) hw1 (rn_M (As := [.int z_c, .int 48, .int 57]) (rest := []) E hw1 (s_isIn l D cI cJ _ M mr mi mf mg z_c 48 57) (gdV q_1622 q_1624 q_46 q_162 q_1625) hdV_X12_isIn ⟨rfl, rfl⟩ ⟨(Nat.le_of_ble_eq_true rfl), (Nat.le_of_ble_eq_true rfl)⟩ ⟨(Nat.le_of_ble_eq_true rfl), (Nat.le_of_ble_eq_true rfl)⟩ 12 rfl rfl rfl rfl hl3.1 rfl (Nat.le_of_ble_eq_true rfl) dX12_isDigit_6) (fun r_5 u_4 H1 locs hp hw6 => ?_)
  generalize H1 = H at hw6 ⊢
  have hw7 : WD D A s.heap (MW cI cJ M mr mi mf mg) H locs := hw6
  have hp_8 := hp
  rcases hp_8 with ⟨rfl, ha_9⟩ | ⟨rfl, ha_10⟩ | ⟨rfl, ha_11, ha_12⟩
  · skip
    have ha_9 : z_c.toInt < (48 : Int32).toInt := ha_9
    rw [show (48 : Int32).toInt = 48 from by decide +kernel] at ha_9
    exact em_z (w1 := (fun (u : Unit) => (MW cI cJ M mr mi mf mg))) E hr hlk () hw7 (by show 0 ≤ (0 : Int32).toInt ∧ (0 : Int32).toInt ≤ 1; have k_0 : (0 : Int32).toInt = 0 := (by decide +kernel); omega) (by decide +kernel) (Nat.le_of_ble_eq_true rfl) (Nat.le_of_ble_eq_true rfl) dX12_isDigit_9
  · skip
    have ha_10 : (57 : Int32).toInt < z_c.toInt := ha_10
    rw [show (57 : Int32).toInt = 57 from by decide +kernel] at ha_10
    exact em_z (w1 := (fun (u : Unit) => (MW cI cJ M mr mi mf mg))) E hr hlk () hw7 (by show 0 ≤ (0 : Int32).toInt ∧ (0 : Int32).toInt ≤ 1; have k_0 : (0 : Int32).toInt = 0 := (by decide +kernel); omega) (by decide +kernel) (Nat.le_of_ble_eq_true rfl) (Nat.le_of_ble_eq_true rfl) dX12_isDigit_9
  · skip
    have ha_11 : (48 : Int32).toInt ≤ z_c.toInt := ha_11
    rw [show (48 : Int32).toInt = 48 from by decide +kernel] at ha_11
    have ha_12 : z_c.toInt ≤ (57 : Int32).toInt := ha_12
    rw [show (57 : Int32).toInt = 57 from by decide +kernel] at ha_12
    exact em_z (w1 := (fun (u : Unit) => (MW cI cJ M mr mi mf mg))) E hr hlk () hw7 (by show 0 ≤ (1 : Int32).toInt ∧ (1 : Int32).toInt ≤ 1; have k_0 : (1 : Int32).toInt = 1 := (by decide +kernel); omega) (by decide +kernel) (Nat.le_of_ble_eq_true rfl) (Nat.le_of_ble_eq_true rfl) dX12_isDigit_9

set_option maxHeartbeats 4000000 in
set_option maxRecDepth 100000 in
theorem s_types (l : Launch) (D : va_G) (cI cJ : ClassId) (sz M : Nat) (mr : Nat → Nat) (mi : Nat → Int32) (mf : Nat → Nat → Int32) (mg : Nat → Nat → Int64) (z_v : Int32) (h0 : 0 ≤ (mi 21).toInt ∧ (mi 21).toInt ≤ 396) : Met l yX12_types (Cond.code yX12_types cX12_types 3 none :: GW) ({ frames := 1, cells := 0, slots := 0, locals := 40 } : Room) (va_Pc [.ref M, .int z_v] (PW D cI cJ sz (MW cI cJ M mr mi mf mg) xT)) (va_Qv (fun (u : (Nat → Int32) × Int32) => (u.2.toInt = (mi 21).toInt + 4)) (fun u => QW D cI cJ (va_A (MW cI cJ M mr mi mf mg) sz) ((fun (u : (Nat → Int32) × Int32) => (MW cI cJ M mr (upd mi 21 u.2) (va_up mf 20 u.1) mg)) u)) (va_A (MW cI cJ M mr mi mf mg) sz)) 0 0 (va_A (MW cI cJ M mr mi mf mg) sz) := by
  refine mk_met (y := yX12_types) (bytes := cX12_types) (maxL := 3) (avs := [.ref M, .int z_v]) (WS := (MW cI cJ M mr mi mf mg)) (Qf := fun A => va_Qv (fun (u : (Nat → Int32) × Int32) => (u.2.toInt = (mi 21).toInt + 4)) (fun u => QW D cI cJ A ((fun (u : (Nat → Int32) × Int32) => (MW cI cJ M mr (upd mi 21 u.2) (va_up mf 20 u.1) mg)) u)) A) (by decide) (Nat.le_of_ble_eq_true rfl) ?_
  intro p e s m below meth c A ls E hr hlk hnm hX hw1 hl2
  have hl3 : lv_has ls 3 [(0, .ref M), (1, .int z_v)] := hl2
  refine lv_bipush (pc := 0) (v := 24) E.1 E.2.1 dX12_types_0 (by decide +kernel) ?_
  refine lv_istore_n (pc := 2) (lv' := [(2, .int 24), (0, .ref M), (1, .int z_v)]) E.1 E.2.1 dX12_types_2 rfl hl3 (by decide) rfl (fun ls hl4 => ?_)
  refine lv_iload_n (pc := 3) E.1 E.2.1 dX12_types_3 rfl (lv_at hl4 0 rfl) ?_
  refine lv_if_lt (pc := 4) (tgt := 39) E.1 E.2.1 dX12_types_4 (by decide) (fun c_5 => absurd c_5 (mnltE (a := 24) (b := 0) (by decide +kernel) (by decide +kernel) (by omega))) (fun _ => ?_)
  refine lv_aload_n (pc := 7) E.1 E.2.1 dX12_types_7 rfl (lv_at hl4 1 rfl) ?_
  refine x_get (pc := 8) (T := TX12) (N := 70) (ci := 12) (v := .ref (mr 20)) E hw1 inX12 0 20 q_1419 rfl rfl (by decide) rfl rfl dX12_types_8 ?_
  refine lv_aload_n (pc := 11) E.1 E.2.1 dX12_types_11 rfl (lv_at hl4 1 rfl) ?_
  refine x_get (pc := 12) (T := TX12) (N := 70) (ci := 12) (v := .int (mi 21)) E hw1 inX12 0 21 q_1420 rfl rfl (by decide) rfl rfl dX12_types_12 ?_
  refine lv_iload_n (pc := 15) E.1 E.2.1 dX12_types_15 rfl (lv_at hl4 2 rfl) ?_
  refine lv_iload_n (pc := 16) E.1 E.2.1 dX12_types_16 rfl (lv_at hl4 0 rfl) ?_
  refine lv_ishr (pc := 17) E.1 E.2.1 dX12_types_17 ?_
  refine lv_topi (fun v_6 ev_6 => ?_)
  refine lv_sipush (pc := 18) (v := 255) E.1 E.2.1 dX12_types_18 (by decide +kernel) ?_
  refine lv_iand (pc := 21) E.1 E.2.1 dX12_types_21 ?_
  refine lv_topi (fun v_7 ev_7 => ?_)
  refine x_iastG (pc := 22) (f := (mf 20)) (wf := fun g => (MW cI cJ M mr mi (va_up mf 20 g) mg)) E hw1 12 rfl (inbE (a := (mi 21).toInt) rfl (by omega)) (fun _ => rfl) dX12_types_22 (fun g_8 H locs eg_8 hw9 => ?_)
  refine lv_aload_n (pc := 23) E.1 E.2.1 dX12_types_23 rfl (lv_at hl4 1 rfl) ?_
  refine lv_aload_n (pc := 24) E.1 E.2.1 dX12_types_24 rfl (lv_at hl4 1 rfl) ?_
  refine x_get (pc := 25) (T := TX12) (N := 70) (ci := 12) (v := .int (mi 21)) E hw9 inX12 0 21 q_1420 rfl rfl (by decide) rfl rfl dX12_types_25 ?_
  refine lv_iconst (pc := 28) (v := 1) E.1 E.2.1 dX12_types_28 (by decide +kernel) ?_
  refine lv_iadd (pc := 29) E.1 E.2.1 dX12_types_29 ?_
  refine lv_topi (fun v_10 ev_10 => ?_)
  have hv_10 : v_10.toInt = (mi 21).toInt + 1 := by rw [ev_10]; exact addE rfl (by decide +kernel) (by omega)
  refine x_put (pc := 30) (T := TX12) (N := 70) (ci := 12) (ws' := (MW cI cJ M mr (upd mi 21 v_10) (va_up mf 20 g_8) mg)) E hw9 inX12 tyX12_ok nmX12 0 21 q_1420 rfl rfl (by decide) rfl rfl rfl rfl (Nat.le_of_ble_eq_true rfl) rfl dX12_types_30 (fun H locs hw11 => ?_)
  refine lv_iinc (pc := 33) (v := 16) (lv' := [(2, .int 16), (0, .ref M), (1, .int z_v)]) E.1 E.2.1 dX12_types_33 hl4 (k := 0) rfl (by decide +kernel) (by decide) rfl (fun ls hl12 => ?_)
  refine lv_goto (pc := 36) (tgt := 3) E.1 E.2.1 dX12_types_36 (by decide) ?_
  refine lv_iload_n (pc := 3) E.1 E.2.1 dX12_types_3 rfl (lv_at hl12 0 rfl) ?_
  refine lv_if_lt (pc := 4) (tgt := 39) E.1 E.2.1 dX12_types_4 (by decide) (fun c_13 => absurd c_13 (mnltE (a := 16) (b := 0) (by decide +kernel) (by decide +kernel) (by omega))) (fun _ => ?_)
  refine lv_aload_n (pc := 7) E.1 E.2.1 dX12_types_7 rfl (lv_at hl12 1 rfl) ?_
  refine x_get (pc := 8) (T := TX12) (N := 70) (ci := 12) (v := .ref (mr 20)) E hw11 inX12 0 20 q_1419 rfl rfl (by decide) rfl rfl dX12_types_8 ?_
  refine lv_aload_n (pc := 11) E.1 E.2.1 dX12_types_11 rfl (lv_at hl12 1 rfl) ?_
  refine x_get (pc := 12) (T := TX12) (N := 70) (ci := 12) (v := .int v_10) E hw11 inX12 0 21 q_1420 rfl rfl (by decide) rfl rfl dX12_types_12 ?_
  refine lv_iload_n (pc := 15) E.1 E.2.1 dX12_types_15 rfl (lv_at hl12 2 rfl) ?_
  refine lv_iload_n (pc := 16) E.1 E.2.1 dX12_types_16 rfl (lv_at hl12 0 rfl) ?_
  refine lv_ishr (pc := 17) E.1 E.2.1 dX12_types_17 ?_
  refine lv_topi (fun v_14 ev_14 => ?_)
  refine lv_sipush (pc := 18) (v := 255) E.1 E.2.1 dX12_types_18 (by decide +kernel) ?_
  refine lv_iand (pc := 21) E.1 E.2.1 dX12_types_21 ?_
  refine lv_topi (fun v_15 ev_15 => ?_)
  refine x_iastG (pc := 22) (f := g_8) (wf := fun g => (MW cI cJ M mr (upd mi 21 v_10) (va_up mf 20 g) mg)) E hw11 12 rfl (inbE (a := v_10.toInt) rfl (by omega)) (fun _ => rfl) dX12_types_22 (fun g_16 H locs eg_16 hw17 => ?_)
  refine lv_aload_n (pc := 23) E.1 E.2.1 dX12_types_23 rfl (lv_at hl12 1 rfl) ?_
  refine lv_aload_n (pc := 24) E.1 E.2.1 dX12_types_24 rfl (lv_at hl12 1 rfl) ?_
  refine x_get (pc := 25) (T := TX12) (N := 70) (ci := 12) (v := .int v_10) E hw17 inX12 0 21 q_1420 rfl rfl (by decide) rfl rfl dX12_types_25 ?_
  refine lv_iconst (pc := 28) (v := 1) E.1 E.2.1 dX12_types_28 (by decide +kernel) ?_
  refine lv_iadd (pc := 29) E.1 E.2.1 dX12_types_29 ?_
  refine lv_topi (fun v_18 ev_18 => ?_)
  have hv_18 : v_18.toInt = v_10.toInt + 1 := by rw [ev_18]; exact addE rfl (by decide +kernel) (by omega)
  refine x_put (pc := 30) (T := TX12) (N := 70) (ci := 12) (ws' := (MW cI cJ M mr (upd mi 21 v_18) (va_up mf 20 g_16) mg)) E hw17 inX12 tyX12_ok nmX12 0 21 q_1420 rfl rfl (by decide) rfl rfl rfl rfl (Nat.le_of_ble_eq_true rfl) rfl dX12_types_30 (fun H locs hw19 => ?_)
  refine lv_iinc (pc := 33) (v := 8) (lv' := [(2, .int 8), (0, .ref M), (1, .int z_v)]) E.1 E.2.1 dX12_types_33 hl12 (k := 0) rfl (by decide +kernel) (by decide) rfl (fun ls hl20 => ?_)
  refine lv_goto (pc := 36) (tgt := 3) E.1 E.2.1 dX12_types_36 (by decide) ?_
  refine lv_iload_n (pc := 3) E.1 E.2.1 dX12_types_3 rfl (lv_at hl20 0 rfl) ?_
  refine lv_if_lt (pc := 4) (tgt := 39) E.1 E.2.1 dX12_types_4 (by decide) (fun c_21 => absurd c_21 (mnltE (a := 8) (b := 0) (by decide +kernel) (by decide +kernel) (by omega))) (fun _ => ?_)
  refine lv_aload_n (pc := 7) E.1 E.2.1 dX12_types_7 rfl (lv_at hl20 1 rfl) ?_
  refine x_get (pc := 8) (T := TX12) (N := 70) (ci := 12) (v := .ref (mr 20)) E hw19 inX12 0 20 q_1419 rfl rfl (by decide) rfl rfl dX12_types_8 ?_
  refine lv_aload_n (pc := 11) E.1 E.2.1 dX12_types_11 rfl (lv_at hl20 1 rfl) ?_
  refine x_get (pc := 12) (T := TX12) (N := 70) (ci := 12) (v := .int v_18) E hw19 inX12 0 21 q_1420 rfl rfl (by decide) rfl rfl dX12_types_12 ?_
  refine lv_iload_n (pc := 15) E.1 E.2.1 dX12_types_15 rfl (lv_at hl20 2 rfl) ?_
  refine lv_iload_n (pc := 16) E.1 E.2.1 dX12_types_16 rfl (lv_at hl20 0 rfl) ?_
  refine lv_ishr (pc := 17) E.1 E.2.1 dX12_types_17 ?_
  refine lv_topi (fun v_22 ev_22 => ?_)
  refine lv_sipush (pc := 18) (v := 255) E.1 E.2.1 dX12_types_18 (by decide +kernel) ?_
  refine lv_iand (pc := 21) E.1 E.2.1 dX12_types_21 ?_
  refine lv_topi (fun v_23 ev_23 => ?_)
  refine x_iastG (pc := 22) (f := g_16) (wf := fun g => (MW cI cJ M mr (upd mi 21 v_18) (va_up mf 20 g) mg)) E hw19 12 rfl (inbE (a := v_18.toInt) rfl (by omega)) (fun _ => rfl) dX12_types_22 (fun g_24 H locs eg_24 hw25 => ?_)
  refine lv_aload_n (pc := 23) E.1 E.2.1 dX12_types_23 rfl (lv_at hl20 1 rfl) ?_
  refine lv_aload_n (pc := 24) E.1 E.2.1 dX12_types_24 rfl (lv_at hl20 1 rfl) ?_
  refine x_get (pc := 25) (T := TX12) (N := 70) (ci := 12) (v := .int v_18) E hw25 inX12 0 21 q_1420 rfl rfl (by decide) rfl rfl dX12_types_25 ?_
  refine lv_iconst (pc := 28) (v := 1) E.1 E.2.1 dX12_types_28 (by decide +kernel) ?_
  refine lv_iadd (pc := 29) E.1 E.2.1 dX12_types_29 ?_
  refine lv_topi (fun v_26 ev_26 => ?_)
  have hv_26 : v_26.toInt = v_18.toInt + 1 := by rw [ev_26]; exact addE rfl (by decide +kernel) (by omega)
  refine x_put (pc := 30) (T := TX12) (N := 70) (ci := 12) (ws' := (MW cI cJ M mr (upd mi 21 v_26) (va_up mf 20 g_24) mg)) E hw25 inX12 tyX12_ok nmX12 0 21 q_1420 rfl rfl (by decide) rfl rfl rfl rfl (Nat.le_of_ble_eq_true rfl) rfl dX12_types_30 (fun H locs hw27 => ?_)
  refine lv_iinc (pc := 33) (v := 0) (lv' := [(2, .int 0), (0, .ref M), (1, .int z_v)]) E.1 E.2.1 dX12_types_33 hl20 (k := 0) rfl (by decide +kernel) (by decide) rfl (fun ls hl28 => ?_)
  refine lv_goto (pc := 36) (tgt := 3) E.1 E.2.1 dX12_types_36 (by decide) ?_
  refine lv_iload_n (pc := 3) E.1 E.2.1 dX12_types_3 rfl (lv_at hl28 0 rfl) ?_
  refine lv_if_lt (pc := 4) (tgt := 39) E.1 E.2.1 dX12_types_4 (by decide) (fun c_29 => absurd c_29 (mnltE (a := 0) (b := 0) (by decide +kernel) (by decide +kernel) (by omega))) (fun _ => ?_)
  refine lv_aload_n (pc := 7) E.1 E.2.1 dX12_types_7 rfl (lv_at hl28 1 rfl) ?_
  refine x_get (pc := 8) (T := TX12) (N := 70) (ci := 12) (v := .ref (mr 20)) E hw27 inX12 0 20 q_1419 rfl rfl (by decide) rfl rfl dX12_types_8 ?_
  refine lv_aload_n (pc := 11) E.1 E.2.1 dX12_types_11 rfl (lv_at hl28 1 rfl) ?_
  refine x_get (pc := 12) (T := TX12) (N := 70) (ci := 12) (v := .int v_26) E hw27 inX12 0 21 q_1420 rfl rfl (by decide) rfl rfl dX12_types_12 ?_
  refine lv_iload_n (pc := 15) E.1 E.2.1 dX12_types_15 rfl (lv_at hl28 2 rfl) ?_
  refine lv_iload_n (pc := 16) E.1 E.2.1 dX12_types_16 rfl (lv_at hl28 0 rfl) ?_
  refine lv_ishr (pc := 17) E.1 E.2.1 dX12_types_17 ?_
  refine lv_topi (fun v_30 ev_30 => ?_)
  refine lv_sipush (pc := 18) (v := 255) E.1 E.2.1 dX12_types_18 (by decide +kernel) ?_
  refine lv_iand (pc := 21) E.1 E.2.1 dX12_types_21 ?_
  refine lv_topi (fun v_31 ev_31 => ?_)
  refine x_iastG (pc := 22) (f := g_24) (wf := fun g => (MW cI cJ M mr (upd mi 21 v_26) (va_up mf 20 g) mg)) E hw27 12 rfl (inbE (a := v_26.toInt) rfl (by omega)) (fun _ => rfl) dX12_types_22 (fun g_32 H locs eg_32 hw33 => ?_)
  refine lv_aload_n (pc := 23) E.1 E.2.1 dX12_types_23 rfl (lv_at hl28 1 rfl) ?_
  refine lv_aload_n (pc := 24) E.1 E.2.1 dX12_types_24 rfl (lv_at hl28 1 rfl) ?_
  refine x_get (pc := 25) (T := TX12) (N := 70) (ci := 12) (v := .int v_26) E hw33 inX12 0 21 q_1420 rfl rfl (by decide) rfl rfl dX12_types_25 ?_
  refine lv_iconst (pc := 28) (v := 1) E.1 E.2.1 dX12_types_28 (by decide +kernel) ?_
  refine lv_iadd (pc := 29) E.1 E.2.1 dX12_types_29 ?_
  refine lv_topi (fun v_34 ev_34 => ?_)
  have hv_34 : v_34.toInt = v_26.toInt + 1 := by rw [ev_34]; exact addE rfl (by decide +kernel) (by omega)
  refine x_put (pc := 30) (T := TX12) (N := 70) (ci := 12) (ws' := (MW cI cJ M mr (upd mi 21 v_34) (va_up mf 20 g_32) mg)) E hw33 inX12 tyX12_ok nmX12 0 21 q_1420 rfl rfl (by decide) rfl rfl rfl rfl (Nat.le_of_ble_eq_true rfl) rfl dX12_types_30 (fun H locs hw35 => ?_)
  refine lv_iinc (pc := 33) (v := (-8)) (lv' := [(2, .int (-8)), (0, .ref M), (1, .int z_v)]) E.1 E.2.1 dX12_types_33 hl28 (k := 0) rfl (by decide +kernel) (by decide) rfl (fun ls hl36 => ?_)
  refine lv_goto (pc := 36) (tgt := 3) E.1 E.2.1 dX12_types_36 (by decide) ?_
  refine lv_iload_n (pc := 3) E.1 E.2.1 dX12_types_3 rfl (lv_at hl36 0 rfl) ?_
  refine lv_if_lt (pc := 4) (tgt := 39) E.1 E.2.1 dX12_types_4 (by decide) (fun _ => ?_) (fun c_37 => absurd (mltE (a := (-8)) (b := 0) (by decide +kernel) (by decide +kernel) (by omega)) c_37)
  exact em_v (w1 := (fun (u : (Nat → Int32) × Int32) => (MW cI cJ M mr (upd mi 21 u.2) (va_up mf 20 u.1) mg))) E hr hlk (g_32, v_34) hw35 (by show v_34.toInt = (mi 21).toInt + 4; omega) (Nat.le_of_ble_eq_true rfl) (Nat.le_of_ble_eq_true rfl) dX12_types_39

set_option maxHeartbeats 4000000 in
set_option maxRecDepth 100000 in
theorem s_feed (l : Launch) (D : va_G) (cI cJ : ClassId) (sz M : Nat) (mr : Nat → Nat) (mi : Nat → Int32) (mf : Nat → Nat → Int32) (mg : Nat → Nat → Int64) (z_a : Int32) (z_b : Int32) (z_c : Int32) (z_d : Int32) (z_e : Int32) (h0 : 0 ≤ (mi 21).toInt ∧ (mi 21).toInt ≤ 400) : Met l yX12_feed (Cond.code yX12_feed cX12_feed 6 (some .int) :: GW) ({ frames := 2, cells := 0, slots := 0, locals := 63 } : Room) (va_Pc [.ref M, .int z_a, .int z_b, .int z_c, .int z_d, .int z_e] (PW D cI cJ sz (MW cI cJ M mr mi mf mg) xT)) (va_Qi (fun (r : Int32) (u : Int32 × (Nat → Int32) × Int32) => (0 ≤ u.2.2.toInt ∧ u.2.2.toInt ≤ 400) ∧ ((-1) ≤ r.toInt ∧ r.toInt ≤ 400)) (fun u => QW D cI cJ (va_A (MW cI cJ M mr mi mf mg) sz) ((fun (u : Int32 × (Nat → Int32) × Int32) => (MW cI cJ M mr (upd (upd mi 0 u.1) 21 u.2.2) (va_up mf 20 u.2.1) mg)) u)) (va_A (MW cI cJ M mr mi mf mg) sz)) 0 0 (va_A (MW cI cJ M mr mi mf mg) sz) := by
  refine mk_met (y := yX12_feed) (bytes := cX12_feed) (maxL := 6) (avs := [.ref M, .int z_a, .int z_b, .int z_c, .int z_d, .int z_e]) (WS := (MW cI cJ M mr mi mf mg)) (Qf := fun A => va_Qi (fun (r : Int32) (u : Int32 × (Nat → Int32) × Int32) => (0 ≤ u.2.2.toInt ∧ u.2.2.toInt ≤ 400) ∧ ((-1) ≤ r.toInt ∧ r.toInt ≤ 400)) (fun u => QW D cI cJ A ((fun (u : Int32 × (Nat → Int32) × Int32) => (MW cI cJ M mr (upd (upd mi 0 u.1) 21 u.2.2) (va_up mf 20 u.2.1) mg)) u)) A) (by decide) (Nat.le_of_ble_eq_true rfl) ?_
  intro p e s m below meth c A ls E hr hlk hnm hX hw1 hl2
  have hl3 : lv_has ls 6 [(0, .ref M), (1, .int z_a), (2, .int z_b), (3, .int z_c), (4, .int z_d), (5, .int z_e)] := hl2
  refine lv_aload_n (pc := 0) E.1 E.2.1 dX12_feed_0 rfl (lv_at hl3 0 rfl) ?_
  refine lv_iconst (pc := 1) (v := 0) E.1 E.2.1 dX12_feed_1 (by decide +kernel) ?_
  refine x_put (pc := 2) (T := TX12) (N := 70) (ci := 12) (ws' := (MW cI cJ M mr (upd mi 0 0) mf mg)) E hw1 inX12 tyX12_ok nmX12 0 0 q_1399 rfl rfl (by decide) rfl rfl rfl rfl (Nat.le_of_ble_eq_true rfl) rfl dX12_feed_2 (fun H locs hw4 => ?_)
  refine lv_aload_n (pc := 5) E.1 E.2.1 dX12_feed_5 rfl (lv_at hl3 0 rfl) ?_
  refine x_get (pc := 6) (T := TX12) (N := 70) (ci := 12) (v := .int (mi 21)) E hw4 inX12 0 21 q_1420 rfl rfl (by decide) rfl rfl dX12_feed_6 ?_
  refine lv_sipush (pc := 9) (v := 380) E.1 E.2.1 dX12_feed_9 (by decide +kernel) ?_
  refine lv_icmp_le (pc := 12) (tgt := 17) E.1 E.2.1 dX12_feed_12 (by decide) (fun c_5 => ?_) (fun c_5 => ?_)
  · skip
    have hc_5 := leE (a := (mi 21).toInt) (b := 380) rfl (by decide +kernel) c_5
    refine lv_aload_n (pc := 17) E.1 E.2.1 dX12_feed_17 rfl (lv_at hl3 0 rfl) ?_
    refine lv_iload_n (pc := 18) E.1 E.2.1 dX12_feed_18 rfl (lv_at hl3 1 rfl) ?_
    refine cm_v (pc := 19) hw4 (rn_M (As := [.int z_a]) (rest := []) E hw4 (s_types l D cI cJ _ M mr (upd mi 0 0) mf mg z_a (by show 0 ≤ (mi 21).toInt ∧ (mi 21).toInt ≤ 396; omega)) (gdV q_1650 q_1652 q_50 q_162 q_1653) hdV_X12_types ⟨rfl, rfl⟩ ⟨(Nat.le_of_ble_eq_true rfl), (Nat.le_of_ble_eq_true rfl)⟩ ⟨(Nat.le_of_ble_eq_true rfl), (Nat.le_of_ble_eq_true rfl)⟩ 12 rfl rfl rfl rfl hl3.1 rfl (Nat.le_of_ble_eq_true rfl) dX12_feed_19) (fun u_6 H1 locs hp hw8 => ?_)
    obtain ⟨gtape_9, ntaped_10⟩ := u_6
    generalize H1 = H at hw8 ⊢
    have hw11 : WD D A s.heap (MW cI cJ M mr (upd (upd mi 0 0) 21 ntaped_10) (va_up mf 20 gtape_9) mg) H locs := hw8
    have hp_12 := hp
    have hp_12 : ntaped_10.toInt = (mi 21).toInt + 4 := hp_12
    refine lv_aload_n (pc := 22) E.1 E.2.1 dX12_feed_22 rfl (lv_at hl3 0 rfl) ?_
    refine lv_iload_n (pc := 23) E.1 E.2.1 dX12_feed_23 rfl (lv_at hl3 2 rfl) ?_
    refine cm_v (pc := 24) hw11 (rn_M (As := [.int z_b]) (rest := []) E hw11 (s_types l D cI cJ _ M mr (upd (upd mi 0 0) 21 ntaped_10) (va_up mf 20 gtape_9) mg z_b (by show 0 ≤ ntaped_10.toInt ∧ ntaped_10.toInt ≤ 396; omega)) (gdV q_1650 q_1652 q_50 q_162 q_1653) hdV_X12_types ⟨rfl, rfl⟩ ⟨(Nat.le_of_ble_eq_true rfl), (Nat.le_of_ble_eq_true rfl)⟩ ⟨(Nat.le_of_ble_eq_true rfl), (Nat.le_of_ble_eq_true rfl)⟩ 12 rfl rfl rfl rfl hl3.1 rfl (Nat.le_of_ble_eq_true rfl) dX12_feed_24) (fun u_13 H1 locs hp hw15 => ?_)
    obtain ⟨gtape_16, ntaped_17⟩ := u_13
    generalize H1 = H at hw15 ⊢
    have hw18 : WD D A s.heap (MW cI cJ M mr (upd (upd mi 0 0) 21 ntaped_17) (va_up mf 20 gtape_16) mg) H locs := hw15
    have hp_19 := hp
    have hp_19 : ntaped_17.toInt = ntaped_10.toInt + 4 := hp_19
    refine lv_aload_n (pc := 27) E.1 E.2.1 dX12_feed_27 rfl (lv_at hl3 0 rfl) ?_
    refine lv_iload_n (pc := 28) E.1 E.2.1 dX12_feed_28 rfl (lv_at hl3 3 rfl) ?_
    refine cm_v (pc := 29) hw18 (rn_M (As := [.int z_c]) (rest := []) E hw18 (s_types l D cI cJ _ M mr (upd (upd mi 0 0) 21 ntaped_17) (va_up mf 20 gtape_16) mg z_c (by show 0 ≤ ntaped_17.toInt ∧ ntaped_17.toInt ≤ 396; omega)) (gdV q_1650 q_1652 q_50 q_162 q_1653) hdV_X12_types ⟨rfl, rfl⟩ ⟨(Nat.le_of_ble_eq_true rfl), (Nat.le_of_ble_eq_true rfl)⟩ ⟨(Nat.le_of_ble_eq_true rfl), (Nat.le_of_ble_eq_true rfl)⟩ 12 rfl rfl rfl rfl hl3.1 rfl (Nat.le_of_ble_eq_true rfl) dX12_feed_29) (fun u_20 H1 locs hp hw22 => ?_)
    obtain ⟨gtape_23, ntaped_24⟩ := u_20
    generalize H1 = H at hw22 ⊢
    have hw25 : WD D A s.heap (MW cI cJ M mr (upd (upd mi 0 0) 21 ntaped_24) (va_up mf 20 gtape_23) mg) H locs := hw22
    have hp_26 := hp
    have hp_26 : ntaped_24.toInt = ntaped_17.toInt + 4 := hp_26
    refine lv_aload_n (pc := 32) E.1 E.2.1 dX12_feed_32 rfl (lv_at hl3 0 rfl) ?_
    refine lv_iload (pc := 33) E.1 E.2.1 dX12_feed_33 (lv_at hl3 4 rfl) ?_
    refine cm_v (pc := 35) hw25 (rn_M (As := [.int z_d]) (rest := []) E hw25 (s_types l D cI cJ _ M mr (upd (upd mi 0 0) 21 ntaped_24) (va_up mf 20 gtape_23) mg z_d (by show 0 ≤ ntaped_24.toInt ∧ ntaped_24.toInt ≤ 396; omega)) (gdV q_1650 q_1652 q_50 q_162 q_1653) hdV_X12_types ⟨rfl, rfl⟩ ⟨(Nat.le_of_ble_eq_true rfl), (Nat.le_of_ble_eq_true rfl)⟩ ⟨(Nat.le_of_ble_eq_true rfl), (Nat.le_of_ble_eq_true rfl)⟩ 12 rfl rfl rfl rfl hl3.1 rfl (Nat.le_of_ble_eq_true rfl) dX12_feed_35) (fun u_27 H1 locs hp hw29 => ?_)
    obtain ⟨gtape_30, ntaped_31⟩ := u_27
    generalize H1 = H at hw29 ⊢
    have hw32 : WD D A s.heap (MW cI cJ M mr (upd (upd mi 0 0) 21 ntaped_31) (va_up mf 20 gtape_30) mg) H locs := hw29
    have hp_33 := hp
    have hp_33 : ntaped_31.toInt = ntaped_24.toInt + 4 := hp_33
    refine lv_aload_n (pc := 38) E.1 E.2.1 dX12_feed_38 rfl (lv_at hl3 0 rfl) ?_
    refine lv_iload (pc := 39) E.1 E.2.1 dX12_feed_39 (lv_at hl3 5 rfl) ?_
    refine cm_v (pc := 41) hw32 (rn_M (As := [.int z_e]) (rest := []) E hw32 (s_types l D cI cJ _ M mr (upd (upd mi 0 0) 21 ntaped_31) (va_up mf 20 gtape_30) mg z_e (by show 0 ≤ ntaped_31.toInt ∧ ntaped_31.toInt ≤ 396; omega)) (gdV q_1650 q_1652 q_50 q_162 q_1653) hdV_X12_types ⟨rfl, rfl⟩ ⟨(Nat.le_of_ble_eq_true rfl), (Nat.le_of_ble_eq_true rfl)⟩ ⟨(Nat.le_of_ble_eq_true rfl), (Nat.le_of_ble_eq_true rfl)⟩ 12 rfl rfl rfl rfl hl3.1 rfl (Nat.le_of_ble_eq_true rfl) dX12_feed_41) (fun u_34 H1 locs hp hw36 => ?_)
    obtain ⟨gtape_37, ntaped_38⟩ := u_34
    generalize H1 = H at hw36 ⊢
    have hw39 : WD D A s.heap (MW cI cJ M mr (upd (upd mi 0 0) 21 ntaped_38) (va_up mf 20 gtape_37) mg) H locs := hw36
    have hp_40 := hp
    have hp_40 : ntaped_38.toInt = ntaped_31.toInt + 4 := hp_40
    refine lv_aload_n (pc := 44) E.1 E.2.1 dX12_feed_44 rfl (lv_at hl3 0 rfl) ?_
    refine x_get (pc := 45) (T := TX12) (N := 70) (ci := 12) (v := .int ntaped_38) E hw39 inX12 0 21 q_1420 rfl rfl (by decide) rfl rfl dX12_feed_45 ?_
    exact em_i (w1 := (fun (u : Int32 × (Nat → Int32) × Int32) => (MW cI cJ M mr (upd (upd mi 0 u.1) 21 u.2.2) (va_up mf 20 u.2.1) mg))) E hr hlk (0, gtape_37, ntaped_38) hw39 ⟨(by show 0 ≤ ntaped_38.toInt ∧ ntaped_38.toInt ≤ 400; have k_0 : (0 : Int32).toInt = 0 := (by decide +kernel); omega), (by show (-1) ≤ ntaped_38.toInt ∧ ntaped_38.toInt ≤ 400; have k_0 : (0 : Int32).toInt = 0 := (by decide +kernel); omega)⟩ (Nat.le_of_ble_eq_true rfl) (Nat.le_of_ble_eq_true rfl) dX12_feed_48
  · skip
    have hc_5 := nleE (a := (mi 21).toInt) (b := 380) rfl (by decide +kernel) c_5
    refine lv_iconst (pc := 15) (v := (-1)) E.1 E.2.1 dX12_feed_15 (by decide +kernel) ?_
    exact em_i (w1 := (fun (u : Int32 × (Nat → Int32) × Int32) => (MW cI cJ M mr (upd (upd mi 0 u.1) 21 u.2.2) (va_up mf 20 u.2.1) mg))) E hr hlk (0, (mf 20), (mi 21)) hw4 ⟨(by show 0 ≤ (mi 21).toInt ∧ (mi 21).toInt ≤ 400; have k_0 : (0 : Int32).toInt = 0 := (by decide +kernel); have k_1 : ((-1) : Int32).toInt = -1 := (by decide +kernel); omega), (by show (-1) ≤ ((-1) : Int32).toInt ∧ ((-1) : Int32).toInt ≤ 400; have k_0 : (0 : Int32).toInt = 0 := (by decide +kernel); have k_1 : ((-1) : Int32).toInt = -1 := (by decide +kernel); omega)⟩ (Nat.le_of_ble_eq_true rfl) (Nat.le_of_ble_eq_true rfl) dX12_feed_16

set_option maxHeartbeats 4000000 in
set_option maxRecDepth 100000 in
theorem s_end (l : Launch) (D : va_G) (cI cJ : ClassId) (sz M : Nat) (mr : Nat → Nat) (mi : Nat → Int32) (mf : Nat → Nat → Int32) (mg : Nat → Nat → Int64) (z_k : Int32) (h0 : 0 ≤ (mi 21).toInt ∧ (mi 21).toInt ≤ 400) : Met l yX12_end (Cond.code yX12_end cX12_end 2 (some .boolean) :: GW) ({ frames := 2, cells := 0, slots := 0, locals := 63 } : Room) (va_Pc [.ref M, .int z_k] (PW D cI cJ sz (MW cI cJ M mr mi mf mg) xT)) (va_Qi (fun (r : Int32) (u : Int32 × Int32) => (0 ≤ u.2.toInt ∧ u.2.toInt ≤ 400)) (fun u => QW D cI cJ (va_A (MW cI cJ M mr mi mf mg) sz) ((fun (u : Int32 × Int32) => (MW cI cJ M mr (upd (upd mi 0 u.1) 21 u.2) mf mg)) u)) (va_A (MW cI cJ M mr mi mf mg) sz)) 0 0 (va_A (MW cI cJ M mr mi mf mg) sz) := by
  refine mk_met (y := yX12_end) (bytes := cX12_end) (maxL := 2) (avs := [.ref M, .int z_k]) (WS := (MW cI cJ M mr mi mf mg)) (Qf := fun A => va_Qi (fun (r : Int32) (u : Int32 × Int32) => (0 ≤ u.2.toInt ∧ u.2.toInt ≤ 400)) (fun u => QW D cI cJ A ((fun (u : Int32 × Int32) => (MW cI cJ M mr (upd (upd mi 0 u.1) 21 u.2) mf mg)) u)) A) (by decide) (Nat.le_of_ble_eq_true rfl) ?_
  intro p e s m below meth c A ls E hr hlk hnm hX hw1 hl2
  have hl3 : lv_has ls 2 [(0, .ref M), (1, .int z_k)] := hl2
  refine lv_aload_n (pc := 0) E.1 E.2.1 dX12_end_0 rfl (lv_at hl3 0 rfl) ?_
  refine lv_iconst (pc := 1) (v := 0) E.1 E.2.1 dX12_end_1 (by decide +kernel) ?_
  refine x_put (pc := 2) (T := TX12) (N := 70) (ci := 12) (ws' := (MW cI cJ M mr (upd mi 0 0) mf mg)) E hw1 inX12 tyX12_ok nmX12 0 0 q_1399 rfl rfl (by decide) rfl rfl rfl rfl (Nat.le_of_ble_eq_true rfl) rfl dX12_end_2 (fun H locs hw4 => ?_)
  refine lv_aload_n (pc := 5) E.1 E.2.1 dX12_end_5 rfl (lv_at hl3 0 rfl) ?_
  refine lv_iload_n (pc := 6) E.1 E.2.1 dX12_end_6 rfl (lv_at hl3 1 rfl) ?_
  refine lv_iconst (pc := 7) (v := 0) E.1 E.2.1 dX12_end_7 (by decide +kernel) ?_
  refine lv_aload_n (pc := 8) E.1 E.2.1 dX12_end_8 rfl (lv_at hl3 0 rfl) ?_
  refine x_get (pc := 9) (T := TX12) (N := 70) (ci := 12) (v := .int (mi 21)) E hw4 inX12 0 21 q_1420 rfl rfl (by decide) rfl rfl dX12_end_9 ?_
  refine cm_i (pc := 12) hw4 (rn_M (As := [.int z_k, .int 0, .int (mi 21)]) (rest := []) E hw4 (s_isIn l D cI cJ _ M mr (upd mi 0 0) mf mg z_k 0 (mi 21)) (gdV q_1622 q_1624 q_46 q_162 q_1625) hdV_X12_isIn ⟨rfl, rfl⟩ ⟨(Nat.le_of_ble_eq_true rfl), (Nat.le_of_ble_eq_true rfl)⟩ ⟨(Nat.le_of_ble_eq_true rfl), (Nat.le_of_ble_eq_true rfl)⟩ 12 rfl rfl rfl rfl hl3.1 rfl (Nat.le_of_ble_eq_true rfl) dX12_end_12) (fun r_6 u_5 H1 locs hp hw7 => ?_)
  generalize H1 = H at hw7 ⊢
  have hw8 : WD D A s.heap (MW cI cJ M mr (upd mi 0 0) mf mg) H locs := hw7
  have hp_9 := hp
  rcases hp_9 with ⟨rfl, ha_10⟩ | ⟨rfl, ha_11⟩ | ⟨rfl, ha_12, ha_13⟩
  · skip
    have ha_10 : z_k.toInt < (0 : Int32).toInt := ha_10
    rw [show (0 : Int32).toInt = 0 from by decide +kernel] at ha_10
    refine lv_if_ne (pc := 15) (tgt := 20) E.1 E.2.1 dX12_end_15 (by decide) (fun c_14 => absurd (meqE (a := 0) (b := 0) (by decide +kernel) (by decide +kernel) (by omega)) c_14) (fun _ => ?_)
    refine lv_iconst (pc := 18) (v := 0) E.1 E.2.1 dX12_end_18 (by decide +kernel) ?_
    exact em_z (w1 := (fun (u : Int32 × Int32) => (MW cI cJ M mr (upd (upd mi 0 u.1) 21 u.2) mf mg))) E hr hlk (0, (mi 21)) hw8 (by show 0 ≤ (mi 21).toInt ∧ (mi 21).toInt ≤ 400; have k_0 : (0 : Int32).toInt = 0 := (by decide +kernel); have k_1 : (0 : Int32).toInt = 0 := (by decide +kernel); omega) (by decide +kernel) (Nat.le_of_ble_eq_true rfl) (Nat.le_of_ble_eq_true rfl) dX12_end_19
  · skip
    have ha_11 : (mi 21).toInt < z_k.toInt := ha_11
    refine lv_if_ne (pc := 15) (tgt := 20) E.1 E.2.1 dX12_end_15 (by decide) (fun c_15 => absurd (meqE (a := 0) (b := 0) (by decide +kernel) (by decide +kernel) (by omega)) c_15) (fun _ => ?_)
    refine lv_iconst (pc := 18) (v := 0) E.1 E.2.1 dX12_end_18 (by decide +kernel) ?_
    exact em_z (w1 := (fun (u : Int32 × Int32) => (MW cI cJ M mr (upd (upd mi 0 u.1) 21 u.2) mf mg))) E hr hlk (0, (mi 21)) hw8 (by show 0 ≤ (mi 21).toInt ∧ (mi 21).toInt ≤ 400; have k_0 : (0 : Int32).toInt = 0 := (by decide +kernel); have k_1 : (0 : Int32).toInt = 0 := (by decide +kernel); omega) (by decide +kernel) (Nat.le_of_ble_eq_true rfl) (Nat.le_of_ble_eq_true rfl) dX12_end_19
  · skip
    have ha_12 : (0 : Int32).toInt ≤ z_k.toInt := ha_12
    rw [show (0 : Int32).toInt = 0 from by decide +kernel] at ha_12
    have ha_13 : z_k.toInt ≤ (mi 21).toInt := ha_13
    refine lv_if_ne (pc := 15) (tgt := 20) E.1 E.2.1 dX12_end_15 (by decide) (fun _ => ?_) (fun c_16 => absurd c_16 (mneE (a := 1) (b := 0) (by decide +kernel) (by decide +kernel) (by omega)))
    refine lv_aload_n (pc := 20) E.1 E.2.1 dX12_end_20 rfl (lv_at hl3 0 rfl) ?_
    refine lv_iload_n (pc := 21) E.1 E.2.1 dX12_end_21 rfl (lv_at hl3 1 rfl) ?_
    refine x_put (pc := 22) (T := TX12) (N := 70) (ci := 12) (ws' := (MW cI cJ M mr (upd (upd mi 0 0) 21 z_k) mf mg)) E hw8 inX12 tyX12_ok nmX12 0 21 q_1420 rfl rfl (by decide) rfl rfl rfl rfl (Nat.le_of_ble_eq_true rfl) rfl dX12_end_22 (fun H locs hw17 => ?_)
    refine lv_iconst (pc := 25) (v := 1) E.1 E.2.1 dX12_end_25 (by decide +kernel) ?_
    exact em_z (w1 := (fun (u : Int32 × Int32) => (MW cI cJ M mr (upd (upd mi 0 u.1) 21 u.2) mf mg))) E hr hlk (0, z_k) hw17 (by show 0 ≤ z_k.toInt ∧ z_k.toInt ≤ 400; have k_0 : (0 : Int32).toInt = 0 := (by decide +kernel); have k_1 : (1 : Int32).toInt = 1 := (by decide +kernel); omega) (by decide +kernel) (Nat.le_of_ble_eq_true rfl) (Nat.le_of_ble_eq_true rfl) dX12_end_26

set_option maxHeartbeats 4000000 in
set_option maxRecDepth 100000 in
theorem s_thinks (l : Launch) (D : va_G) (cI cJ : ClassId) (sz M : Nat) (mr : Nat → Nat) (mi : Nat → Int32) (mf : Nat → Nat → Int32) (mg : Nat → Nat → Int64)   : Met l yX12_thinks (Cond.code yX12_thinks cX12_thinks 2 none :: GW) ({ frames := 1, cells := 0, slots := 0, locals := 40 } : Room) (va_Pc [.ref M] (PW D cI cJ sz (MW cI cJ M mr mi mf mg) xT)) (va_Qv (fun (u : (Nat → Int32) × Int32) => (u.2.toInt = 1)) (fun u => QW D cI cJ (va_A (MW cI cJ M mr mi mf mg) sz) ((fun (u : (Nat → Int32) × Int32) => (MW cI cJ M mr (upd mi 5 u.2) (va_up mf 4 u.1) mg)) u)) (va_A (MW cI cJ M mr mi mf mg) sz)) 0 0 (va_A (MW cI cJ M mr mi mf mg) sz) := by
  refine mk_met (y := yX12_thinks) (bytes := cX12_thinks) (maxL := 2) (avs := [.ref M]) (WS := (MW cI cJ M mr mi mf mg)) (Qf := fun A => va_Qv (fun (u : (Nat → Int32) × Int32) => (u.2.toInt = 1)) (fun u => QW D cI cJ A ((fun (u : (Nat → Int32) × Int32) => (MW cI cJ M mr (upd mi 5 u.2) (va_up mf 4 u.1) mg)) u)) A) (by decide) (Nat.le_of_ble_eq_true rfl) ?_
  intro p e s m below meth c A ls E hr hlk hnm hX hw1 hl2
  have hl3 : lv_has ls 2 [(0, .ref M)] := hl2
  refine lv_iconst (pc := 0) (v := 0) E.1 E.2.1 dX12_thinks_0 (by decide +kernel) ?_
  refine lv_istore_n (pc := 1) (lv' := [(1, .int 0), (0, .ref M)]) E.1 E.2.1 dX12_thinks_1 rfl hl3 (by decide) rfl (fun ls hl4 => ?_)
  have loop_5 : ∀ (k : Nat) (x_6 : Int32) (g_7 : Nat → Int32) (H : Heap) (locs : List Loc) (ls : Array Slot), (0 ≤ x_6.toInt ∧ x_6.toInt ≤ 66) → 66 - x_6.toInt < (k : Int) → WD D A s.heap (MW cI cJ M mr mi (va_up mf 4 g_7) mg) H locs → lv_has ls 2 [(1, .int x_6), (0, .ref M)] → W p l e ({ frames := 1, cells := 0, slots := 0, locals := 40 } : Room) s m ([.ref M] : List Value).toArray below meth c H locs 0 0 (MQ below (va_Qv (fun (u : (Nat → Int32) × Int32) => (u.2.toInt = 1)) (fun u => QW D cI cJ A ((fun (u : (Nat → Int32) × Int32) => (MW cI cJ M mr (upd mi 5 u.2) (va_up mf 4 u.1) mg)) u)) A) ([.ref M] : List Value).toArray s 0 0 A) (F0 m 2 ls []) := by
    intro k
    induction k with
    | zero =>
      intro x_6 g_7 _ _ _ hinv hm
      obtain hi_7_0 := hinv
      exact absurd hm (by omega)
    | succ k ih_8 =>
      intro x_6 g_7 H locs ls hinv hm hw9 hl10
      obtain hi_7_0 := hinv
      refine lv_iload_n (pc := 2) E.1 E.2.1 dX12_thinks_2 rfl (lv_at hl10 0 rfl) ?_
      refine lv_bipush (pc := 3) (v := 66) E.1 E.2.1 dX12_thinks_3 (by decide +kernel) ?_
      refine lv_icmp_ge (pc := 5) (tgt := 26) E.1 E.2.1 dX12_thinks_5 (by decide) (fun c_11 => ?_) (fun c_11 => ?_)
      · skip
        have hc_11 := leE (a := 66) (b := x_6.toInt) (by decide +kernel) rfl c_11
        refine lv_aload_n (pc := 26) E.1 E.2.1 dX12_thinks_26 rfl (lv_at hl10 1 rfl) ?_
        refine lv_iconst (pc := 27) (v := 1) E.1 E.2.1 dX12_thinks_27 (by decide +kernel) ?_
        refine x_put (pc := 28) (T := TX12) (N := 70) (ci := 12) (ws' := (MW cI cJ M mr (upd mi 5 1) (va_up mf 4 g_7) mg)) E hw9 inX12 tyX12_ok nmX12 0 5 q_1404 rfl rfl (by decide) rfl rfl rfl rfl (Nat.le_of_ble_eq_true rfl) rfl dX12_thinks_28 (fun H locs hw12 => ?_)
        exact em_v (w1 := (fun (u : (Nat → Int32) × Int32) => (MW cI cJ M mr (upd mi 5 u.2) (va_up mf 4 u.1) mg))) E hr hlk (g_7, 1) hw12 (by show (1 : Int32).toInt = 1; have k_0 : (1 : Int32).toInt = 1 := (by decide +kernel); omega) (Nat.le_of_ble_eq_true rfl) (Nat.le_of_ble_eq_true rfl) dX12_thinks_31
      · skip
        have hc_11 := nleE (a := 66) (b := x_6.toInt) (by decide +kernel) rfl c_11
        refine lv_aload_n (pc := 8) E.1 E.2.1 dX12_thinks_8 rfl (lv_at hl10 1 rfl) ?_
        refine x_get (pc := 9) (T := TX12) (N := 70) (ci := 12) (v := .ref (mr 4)) E hw9 inX12 0 4 q_1403 rfl rfl (by decide) rfl rfl dX12_thinks_9 ?_
        refine lv_iload_n (pc := 12) E.1 E.2.1 dX12_thinks_12 rfl (lv_at hl10 0 rfl) ?_
        refine lv_aload_n (pc := 13) E.1 E.2.1 dX12_thinks_13 rfl (lv_at hl10 1 rfl) ?_
        refine x_get (pc := 14) (T := TX12) (N := 70) (ci := 12) (v := .ref (mr 1)) E hw9 inX12 0 1 q_1400 rfl rfl (by decide) rfl rfl dX12_thinks_14 ?_
        refine lv_iload_n (pc := 17) E.1 E.2.1 dX12_thinks_17 rfl (lv_at hl10 0 rfl) ?_
        refine x_iald (pc := 18) (f := (mf 1)) E hw9 1 rfl (inbE (a := x_6.toInt) rfl (by omega)) dX12_thinks_18 ?_
        refine lv_topi (fun v_13 ev_13 => ?_)
        refine x_iastG (pc := 19) (f := g_7) (wf := fun g => (MW cI cJ M mr mi (va_up mf 4 g) mg)) E hw9 3 rfl (inbE (a := x_6.toInt) rfl (by omega)) (fun _ => rfl) dX12_thinks_19 (fun g_14 H locs eg_14 hw15 => ?_)
        obtain ⟨v_16, ev_16⟩ : ∃ z : Int32, x_6 + Int32.ofInt (1) = z := ⟨_, rfl⟩
        have hv_16 : v_16.toInt = x_6.toInt + (1) := by rw [← ev_16]; exact incE rfl (by decide) (by omega)
        refine lv_iinc (pc := 20) (v := v_16) (lv' := [(1, .int v_16), (0, .ref M)]) E.1 E.2.1 dX12_thinks_20 hl10 (k := 0) rfl ev_16 (by decide) rfl (fun ls hl17 => ?_)
        refine lv_goto (pc := 23) (tgt := 2) E.1 E.2.1 dX12_thinks_23 (by decide) ?_
        exact ih_8 v_16 g_14 _ _ _ (by show 0 ≤ v_16.toInt ∧ v_16.toInt ≤ 66; omega) (by omega) hw15 (lv_sub hl17 [0, 1] rfl)
  exact loop_5 (Int.toNat (66 - 0) + 1) 0 (mf 4) _ _ _ (by show 0 ≤ (0 : Int32).toInt ∧ (0 : Int32).toInt ≤ 66; have k_0 : (0 : Int32).toInt = 0 := (by decide +kernel); omega) (by have k_0 : (0 : Int32).toInt = 0 := (by decide +kernel); omega) hw1 (lv_sub hl4 [0, 1] rfl)

set_option maxHeartbeats 4000000 in
set_option maxRecDepth 100000 in
theorem s_endsThought (l : Launch) (D : va_G) (cI cJ : ClassId) (sz M : Nat) (mr : Nat → Nat) (mi : Nat → Int32) (mf : Nat → Nat → Int32) (mg : Nat → Nat → Int64)   : Met l yX12_endsThought (Cond.code yX12_endsThought cX12_endsThought 2 none :: GW) ({ frames := 1, cells := 0, slots := 0, locals := 40 } : Room) (va_Pc [.ref M] (PW D cI cJ sz (MW cI cJ M mr mi mf mg) xT)) (va_Qv (fun (u : (Nat → Int32) × Int32) => (u.2.toInt = 0)) (fun u => QW D cI cJ (va_A (MW cI cJ M mr mi mf mg) sz) ((fun (u : (Nat → Int32) × Int32) => (MW cI cJ M mr (upd mi 5 u.2) (va_up mf 1 u.1) mg)) u)) (va_A (MW cI cJ M mr mi mf mg) sz)) 0 0 (va_A (MW cI cJ M mr mi mf mg) sz) := by
  refine mk_met (y := yX12_endsThought) (bytes := cX12_endsThought) (maxL := 2) (avs := [.ref M]) (WS := (MW cI cJ M mr mi mf mg)) (Qf := fun A => va_Qv (fun (u : (Nat → Int32) × Int32) => (u.2.toInt = 0)) (fun u => QW D cI cJ A ((fun (u : (Nat → Int32) × Int32) => (MW cI cJ M mr (upd mi 5 u.2) (va_up mf 1 u.1) mg)) u)) A) (by decide) (Nat.le_of_ble_eq_true rfl) ?_
  intro p e s m below meth c A ls E hr hlk hnm hX hw1 hl2
  have hl3 : lv_has ls 2 [(0, .ref M)] := hl2
  refine lv_iconst (pc := 0) (v := 0) E.1 E.2.1 dX12_endsThought_0 (by decide +kernel) ?_
  refine lv_istore_n (pc := 1) (lv' := [(1, .int 0), (0, .ref M)]) E.1 E.2.1 dX12_endsThought_1 rfl hl3 (by decide) rfl (fun ls hl4 => ?_)
  have loop_5 : ∀ (k : Nat) (x_6 : Int32) (g_7 : Nat → Int32) (H : Heap) (locs : List Loc) (ls : Array Slot), (0 ≤ x_6.toInt ∧ x_6.toInt ≤ 66) → 66 - x_6.toInt < (k : Int) → WD D A s.heap (MW cI cJ M mr mi (va_up mf 1 g_7) mg) H locs → lv_has ls 2 [(1, .int x_6), (0, .ref M)] → W p l e ({ frames := 1, cells := 0, slots := 0, locals := 40 } : Room) s m ([.ref M] : List Value).toArray below meth c H locs 0 0 (MQ below (va_Qv (fun (u : (Nat → Int32) × Int32) => (u.2.toInt = 0)) (fun u => QW D cI cJ A ((fun (u : (Nat → Int32) × Int32) => (MW cI cJ M mr (upd mi 5 u.2) (va_up mf 1 u.1) mg)) u)) A) ([.ref M] : List Value).toArray s 0 0 A) (F0 m 2 ls []) := by
    intro k
    induction k with
    | zero =>
      intro x_6 g_7 _ _ _ hinv hm
      obtain hi_7_0 := hinv
      exact absurd hm (by omega)
    | succ k ih_8 =>
      intro x_6 g_7 H locs ls hinv hm hw9 hl10
      obtain hi_7_0 := hinv
      refine lv_iload_n (pc := 2) E.1 E.2.1 dX12_endsThought_2 rfl (lv_at hl10 0 rfl) ?_
      refine lv_bipush (pc := 3) (v := 66) E.1 E.2.1 dX12_endsThought_3 (by decide +kernel) ?_
      refine lv_icmp_ge (pc := 5) (tgt := 26) E.1 E.2.1 dX12_endsThought_5 (by decide) (fun c_11 => ?_) (fun c_11 => ?_)
      · skip
        have hc_11 := leE (a := 66) (b := x_6.toInt) (by decide +kernel) rfl c_11
        refine lv_aload_n (pc := 26) E.1 E.2.1 dX12_endsThought_26 rfl (lv_at hl10 1 rfl) ?_
        refine lv_iconst (pc := 27) (v := 0) E.1 E.2.1 dX12_endsThought_27 (by decide +kernel) ?_
        refine x_put (pc := 28) (T := TX12) (N := 70) (ci := 12) (ws' := (MW cI cJ M mr (upd mi 5 0) (va_up mf 1 g_7) mg)) E hw9 inX12 tyX12_ok nmX12 0 5 q_1404 rfl rfl (by decide) rfl rfl rfl rfl (Nat.le_of_ble_eq_true rfl) rfl dX12_endsThought_28 (fun H locs hw12 => ?_)
        exact em_v (w1 := (fun (u : (Nat → Int32) × Int32) => (MW cI cJ M mr (upd mi 5 u.2) (va_up mf 1 u.1) mg))) E hr hlk (g_7, 0) hw12 (by show (0 : Int32).toInt = 0; have k_0 : (0 : Int32).toInt = 0 := (by decide +kernel); omega) (Nat.le_of_ble_eq_true rfl) (Nat.le_of_ble_eq_true rfl) dX12_endsThought_31
      · skip
        have hc_11 := nleE (a := 66) (b := x_6.toInt) (by decide +kernel) rfl c_11
        refine lv_aload_n (pc := 8) E.1 E.2.1 dX12_endsThought_8 rfl (lv_at hl10 1 rfl) ?_
        refine x_get (pc := 9) (T := TX12) (N := 70) (ci := 12) (v := .ref (mr 1)) E hw9 inX12 0 1 q_1400 rfl rfl (by decide) rfl rfl dX12_endsThought_9 ?_
        refine lv_iload_n (pc := 12) E.1 E.2.1 dX12_endsThought_12 rfl (lv_at hl10 0 rfl) ?_
        refine lv_aload_n (pc := 13) E.1 E.2.1 dX12_endsThought_13 rfl (lv_at hl10 1 rfl) ?_
        refine x_get (pc := 14) (T := TX12) (N := 70) (ci := 12) (v := .ref (mr 4)) E hw9 inX12 0 4 q_1403 rfl rfl (by decide) rfl rfl dX12_endsThought_14 ?_
        refine lv_iload_n (pc := 17) E.1 E.2.1 dX12_endsThought_17 rfl (lv_at hl10 0 rfl) ?_
        refine x_iald (pc := 18) (f := (mf 4)) E hw9 3 rfl (inbE (a := x_6.toInt) rfl (by omega)) dX12_endsThought_18 ?_
        refine lv_topi (fun v_13 ev_13 => ?_)
        refine x_iastG (pc := 19) (f := g_7) (wf := fun g => (MW cI cJ M mr mi (va_up mf 1 g) mg)) E hw9 1 rfl (inbE (a := x_6.toInt) rfl (by omega)) (fun _ => rfl) dX12_endsThought_19 (fun g_14 H locs eg_14 hw15 => ?_)
        obtain ⟨v_16, ev_16⟩ : ∃ z : Int32, x_6 + Int32.ofInt (1) = z := ⟨_, rfl⟩
        have hv_16 : v_16.toInt = x_6.toInt + (1) := by rw [← ev_16]; exact incE rfl (by decide) (by omega)
        refine lv_iinc (pc := 20) (v := v_16) (lv' := [(1, .int v_16), (0, .ref M)]) E.1 E.2.1 dX12_endsThought_20 hl10 (k := 0) rfl ev_16 (by decide) rfl (fun ls hl17 => ?_)
        refine lv_goto (pc := 23) (tgt := 2) E.1 E.2.1 dX12_endsThought_23 (by decide) ?_
        exact ih_8 v_16 g_14 _ _ _ (by show 0 ≤ v_16.toInt ∧ v_16.toInt ≤ 66; omega) (by omega) hw15 (lv_sub hl17 [0, 1] rfl)
  exact loop_5 (Int.toNat (66 - 0) + 1) 0 (mf 1) _ _ _ (by show 0 ≤ (0 : Int32).toInt ∧ (0 : Int32).toInt ≤ 66; have k_0 : (0 : Int32).toInt = 0 := (by decide +kernel); omega) (by have k_0 : (0 : Int32).toInt = 0 := (by decide +kernel); omega) hw1 (lv_sub hl4 [0, 1] rfl)
