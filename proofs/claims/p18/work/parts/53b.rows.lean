set_option maxHeartbeats 4000000 in
set_option maxRecDepth 100000 in
theorem t_waited (l : Launch) (D : va_G) (cI cJ : ClassId) (sz : Nat) (mr : Nat → Nat) (mi : Nat → Int32) (mf : Nat → Nat → Int32) (mg : Nat → Nat → Int64) (z_h : Int32) (h0 : 0 ≤ z_h.toInt ∧ z_h.toInt ≤ 9) : Met l yX4_waited (Cond.code yX4_waited cX4_waited 2 (some .int) :: GW) ({ frames := 1, cells := 0, slots := 0, locals := 40 } : Room) (va_Pc [.ref (mr 0), .int z_h] (PW D cI cJ sz (WZ_Now cI cJ mr mi mf mg) xT)) (va_Qi (fun (r : Int32) (u : Unit) => True) (fun u => QW D cI cJ (va_A (WZ_Now cI cJ mr mi mf mg) sz) ((fun (u : Unit) => (WZ_Now cI cJ mr mi mf mg)) u)) (va_A (WZ_Now cI cJ mr mi mf mg) sz)) 0 0 (va_A (WZ_Now cI cJ mr mi mf mg) sz) := by
  refine mk_met (y := yX4_waited) (bytes := cX4_waited) (maxL := 2) (avs := [.ref (mr 0), .int z_h]) (WS := (WZ_Now cI cJ mr mi mf mg)) (Qf := fun A => va_Qi (fun (r : Int32) (u : Unit) => True) (fun u => QW D cI cJ A ((fun (u : Unit) => (WZ_Now cI cJ mr mi mf mg)) u)) A) (by decide) (Nat.le_of_ble_eq_true rfl) ?_
  intro p e s m below meth c A ls E hr hlk hnm hX hw1 hl2
  have hl3 : lv_has ls 2 [(0, .ref (mr 0)), (1, .int z_h)] := hl2
  refine lv_aload_n (pc := 0) E.1 E.2.1 dX4_waited_0 rfl (lv_at hl3 0 rfl) ?_
  refine x_get (pc := 1) (T := TX4) (N := 12) (ci := 4) (v := .int (mi 8)) E hw1 inX4 0 7 q_217 rfl rfl (by decide) rfl rfl dX4_waited_1 ?_
  refine lv_aload_n (pc := 4) E.1 E.2.1 dX4_waited_4 rfl (lv_at hl3 0 rfl) ?_
  refine x_get (pc := 5) (T := TX4) (N := 12) (ci := 4) (v := .ref (mr 4)) E hw1 inX4 0 3 q_200 rfl rfl (by decide) rfl rfl dX4_waited_5 ?_
  refine lv_iload_n (pc := 8) E.1 E.2.1 dX4_waited_8 rfl (lv_at hl3 1 rfl) ?_
  refine x_iald (pc := 9) (f := (mf 4)) E hw1 4 rfl (inbE (a := z_h.toInt) rfl (by omega)) dX4_waited_9 ?_
  refine lv_topi (fun v_4 ev_4 => ?_)
  refine lv_isub (pc := 10) E.1 E.2.1 dX4_waited_10 ?_
  refine lv_topi (fun v_5 ev_5 => ?_)
  exact em_i (w1 := (fun (u : Unit) => (WZ_Now cI cJ mr mi mf mg))) E hr hlk () hw1 trivial (Nat.le_of_ble_eq_true rfl) (Nat.le_of_ble_eq_true rfl) dX4_waited_11
set_option maxHeartbeats 4000000 in
set_option maxRecDepth 100000 in
theorem t_wasLitAhead (l : Launch) (D : va_G) (cI cJ : ClassId) (sz : Nat) (mr : Nat → Nat) (mi : Nat → Int32) (mf : Nat → Nat → Int32) (mg : Nat → Nat → Int64) (z_h : Int32) (h0 : 0 ≤ z_h.toInt ∧ z_h.toInt ≤ 9) : Met l yX4_wasLitAhead (Cond.code yX4_wasLitAhead cX4_wasLitAhead 2 (some .boolean) :: GW) ({ frames := 1, cells := 0, slots := 0, locals := 40 } : Room) (va_Pc [.ref (mr 0), .int z_h] (PW D cI cJ sz (WZ_Now cI cJ mr mi mf mg) xT)) (va_Qi (fun (r : Int32) (u : Unit) => (0 ≤ r.toInt) ∧ (r.toInt ≤ 1)) (fun u => QW D cI cJ (va_A (WZ_Now cI cJ mr mi mf mg) sz) ((fun (u : Unit) => (WZ_Now cI cJ mr mi mf mg)) u)) (va_A (WZ_Now cI cJ mr mi mf mg) sz)) 0 0 (va_A (WZ_Now cI cJ mr mi mf mg) sz) := by
  refine mk_met (y := yX4_wasLitAhead) (bytes := cX4_wasLitAhead) (maxL := 2) (avs := [.ref (mr 0), .int z_h]) (WS := (WZ_Now cI cJ mr mi mf mg)) (Qf := fun A => va_Qi (fun (r : Int32) (u : Unit) => (0 ≤ r.toInt) ∧ (r.toInt ≤ 1)) (fun u => QW D cI cJ A ((fun (u : Unit) => (WZ_Now cI cJ mr mi mf mg)) u)) A) (by decide) (Nat.le_of_ble_eq_true rfl) ?_
  intro p e s m below meth c A ls E hr hlk hnm hX hw1 hl2
  have hl3 : lv_has ls 2 [(0, .ref (mr 0)), (1, .int z_h)] := hl2
  refine lv_aload_n (pc := 0) E.1 E.2.1 dX4_wasLitAhead_0 rfl (lv_at hl3 0 rfl) ?_
  refine x_get (pc := 1) (T := TX4) (N := 12) (ci := 4) (v := .ref (mr 4)) E hw1 inX4 0 3 q_200 rfl rfl (by decide) rfl rfl dX4_wasLitAhead_1 ?_
  refine lv_iload_n (pc := 4) E.1 E.2.1 dX4_wasLitAhead_4 rfl (lv_at hl3 1 rfl) ?_
  refine x_iald (pc := 5) (f := (mf 4)) E hw1 4 rfl (inbE (a := z_h.toInt) rfl (by omega)) dX4_wasLitAhead_5 ?_
  refine lv_topi (fun v_4 ev_4 => ?_)
  refine lv_iconst (pc := 6) (v := (-1)) E.1 E.2.1 dX4_wasLitAhead_6 (by decide +kernel) ?_
  refine lv_icmp_eq (pc := 7) (tgt := 29) E.1 E.2.1 dX4_wasLitAhead_7 (by decide) (fun c_5 => ?_) (fun c_5 => ?_)
  · skip
    have hc_5 := eqE (a := v_4.toInt) (b := (-1)) rfl (by decide +kernel) c_5
    refine lv_iconst (pc := 29) (v := 0) E.1 E.2.1 dX4_wasLitAhead_29 (by decide +kernel) ?_
    exact em_z (w1 := (fun (u : Unit) => (WZ_Now cI cJ mr mi mf mg))) E hr hlk () hw1 ⟨(by show 0 ≤ (0 : Int32).toInt; have k_0 : (0 : Int32).toInt = 0 := (by decide +kernel); omega), (by show (0 : Int32).toInt ≤ 1; have k_0 : (0 : Int32).toInt = 0 := (by decide +kernel); omega)⟩ (by decide +kernel) (Nat.le_of_ble_eq_true rfl) (Nat.le_of_ble_eq_true rfl) dX4_wasLitAhead_30
  · skip
    have hc_5 := neE (a := v_4.toInt) (b := (-1)) rfl (by decide +kernel) c_5
    refine lv_aload_n (pc := 10) E.1 E.2.1 dX4_wasLitAhead_10 rfl (lv_at hl3 0 rfl) ?_
    refine x_get (pc := 11) (T := TX4) (N := 12) (ci := 4) (v := .ref (mr 4)) E hw1 inX4 0 3 q_200 rfl rfl (by decide) rfl rfl dX4_wasLitAhead_11 ?_
    refine lv_iload_n (pc := 14) E.1 E.2.1 dX4_wasLitAhead_14 rfl (lv_at hl3 1 rfl) ?_
    refine x_iald (pc := 15) (f := (mf 4)) E hw1 4 rfl (inbE (a := z_h.toInt) rfl (by omega)) dX4_wasLitAhead_15 ?_
    refine lv_topi (fun v_6 ev_6 => ?_)
    have hsv_6 : v_6.toInt = v_4.toInt := by rw [ev_6, ev_4]
    refine lv_aload_n (pc := 16) E.1 E.2.1 dX4_wasLitAhead_16 rfl (lv_at hl3 0 rfl) ?_
    refine x_get (pc := 17) (T := TX4) (N := 12) (ci := 4) (v := .int (mi 8)) E hw1 inX4 0 7 q_217 rfl rfl (by decide) rfl rfl dX4_wasLitAhead_17 ?_
    refine lv_iconst (pc := 20) (v := 1) E.1 E.2.1 dX4_wasLitAhead_20 (by decide +kernel) ?_
    refine lv_isub (pc := 21) E.1 E.2.1 dX4_wasLitAhead_21 ?_
    refine lv_topi (fun v_7 ev_7 => ?_)
    refine lv_icmp_ne (pc := 22) (tgt := 29) E.1 E.2.1 dX4_wasLitAhead_22 (by decide) (fun c_8 => ?_) (fun c_8 => ?_)
    · skip
      have hc_8 := neE (a := v_6.toInt) (b := v_7.toInt) rfl rfl c_8
      refine lv_iconst (pc := 29) (v := 0) E.1 E.2.1 dX4_wasLitAhead_29 (by decide +kernel) ?_
      exact em_z (w1 := (fun (u : Unit) => (WZ_Now cI cJ mr mi mf mg))) E hr hlk () hw1 ⟨(by show 0 ≤ (0 : Int32).toInt; have k_0 : (0 : Int32).toInt = 0 := (by decide +kernel); omega), (by show (0 : Int32).toInt ≤ 1; have k_0 : (0 : Int32).toInt = 0 := (by decide +kernel); omega)⟩ (by decide +kernel) (Nat.le_of_ble_eq_true rfl) (Nat.le_of_ble_eq_true rfl) dX4_wasLitAhead_30
    · skip
      have hc_8 := eqE (a := v_6.toInt) (b := v_7.toInt) rfl rfl c_8
      refine lv_iconst (pc := 25) (v := 1) E.1 E.2.1 dX4_wasLitAhead_25 (by decide +kernel) ?_
      refine lv_goto (pc := 26) (tgt := 30) E.1 E.2.1 dX4_wasLitAhead_26 (by decide) ?_
      exact em_z (w1 := (fun (u : Unit) => (WZ_Now cI cJ mr mi mf mg))) E hr hlk () hw1 ⟨(by show 0 ≤ (1 : Int32).toInt; have k_0 : (1 : Int32).toInt = 1 := (by decide +kernel); omega), (by show (1 : Int32).toInt ≤ 1; have k_0 : (1 : Int32).toInt = 1 := (by decide +kernel); omega)⟩ (by decide +kernel) (Nat.le_of_ble_eq_true rfl) (Nat.le_of_ble_eq_true rfl) dX4_wasLitAhead_30
set_option maxHeartbeats 4000000 in
set_option maxRecDepth 100000 in
theorem t_draw (l : Launch) (D : va_G) (cI cJ : ClassId) (sz : Nat) (mr : Nat → Nat) (mi : Nat → Int32) (mf : Nat → Nat → Int32) (mg : Nat → Nat → Int64) (z_m : Int32)  : Met l yX4_draw (Cond.code yX4_draw cX4_draw 2 (some .int) :: GW) ({ frames := 1, cells := 0, slots := 0, locals := 40 } : Room) (va_Pc [.ref (mr 0), .int z_m] (PW D cI cJ sz (WZ_Now cI cJ mr mi mf mg) xT)) (va_Qi (fun (r : Int32) (u : Int32) => True) (fun u => QW D cI cJ (va_A (WZ_Now cI cJ mr mi mf mg) sz) ((fun (u : Int32) => (WZ_Now cI cJ mr (upd mi 10 u) mf mg)) u)) (va_A (WZ_Now cI cJ mr mi mf mg) sz)) 0 0 (va_A (WZ_Now cI cJ mr mi mf mg) sz) := by
  refine mk_met (y := yX4_draw) (bytes := cX4_draw) (maxL := 2) (avs := [.ref (mr 0), .int z_m]) (WS := (WZ_Now cI cJ mr mi mf mg)) (Qf := fun A => va_Qi (fun (r : Int32) (u : Int32) => True) (fun u => QW D cI cJ A ((fun (u : Int32) => (WZ_Now cI cJ mr (upd mi 10 u) mf mg)) u)) A) (by decide) (Nat.le_of_ble_eq_true rfl) ?_
  intro p e s m below meth c A ls E hr hlk hnm hX hw1 hl2
  have hl3 : lv_has ls 2 [(0, .ref (mr 0)), (1, .int z_m)] := hl2
  refine lv_aload_n (pc := 0) E.1 E.2.1 dX4_draw_0 rfl (lv_at hl3 0 rfl) ?_
  refine lv_ldc (pc := 1) (v := 1664525) E.1 E.2.1 E.2.2.2.1 (E.2.2.2.2.1 _ q_1098) dX4_draw_1 ?_
  refine lv_aload_n (pc := 3) E.1 E.2.1 dX4_draw_3 rfl (lv_at hl3 0 rfl) ?_
  refine x_get (pc := 4) (T := TX4) (N := 12) (ci := 4) (v := .int (mi 10)) E hw1 inX4 0 9 q_227 rfl rfl (by decide) rfl rfl dX4_draw_4 ?_
  refine lv_imul (pc := 7) E.1 E.2.1 dX4_draw_7 ?_
  refine lv_topi (fun v_4 ev_4 => ?_)
  refine lv_ldc (pc := 8) (v := 1013904223) E.1 E.2.1 E.2.2.2.1 (E.2.2.2.2.1 _ q_1099) dX4_draw_8 ?_
  refine lv_iadd (pc := 10) E.1 E.2.1 dX4_draw_10 ?_
  refine lv_topi (fun v_5 ev_5 => ?_)
  refine x_put (pc := 11) (T := TX4) (N := 12) (ci := 4) (ws' := (WZ_Now cI cJ mr (upd mi 10 v_5) mf mg)) E hw1 inX4 tyX4_ok nmX4 0 9 q_227 rfl rfl (by decide) rfl rfl rfl rfl (Nat.le_of_ble_eq_true rfl) rfl dX4_draw_11 (fun H locs hw6 => ?_)
  refine lv_iload_n (pc := 14) E.1 E.2.1 dX4_draw_14 rfl (lv_at hl3 1 rfl) ?_
  refine lv_if_le (pc := 15) (tgt := 30) E.1 E.2.1 dX4_draw_15 (by decide) (fun c_7 => ?_) (fun c_7 => ?_)
  · skip
    have hc_7 := leE (a := z_m.toInt) (b := 0) rfl (by decide +kernel) c_7
    refine lv_iconst (pc := 30) (v := 0) E.1 E.2.1 dX4_draw_30 (by decide +kernel) ?_
    exact em_i (w1 := (fun (u : Int32) => (WZ_Now cI cJ mr (upd mi 10 u) mf mg))) E hr hlk v_5 hw6 trivial (Nat.le_of_ble_eq_true rfl) (Nat.le_of_ble_eq_true rfl) dX4_draw_31
  · skip
    have hc_7 := nleE (a := z_m.toInt) (b := 0) rfl (by decide +kernel) c_7
    refine lv_aload_n (pc := 18) E.1 E.2.1 dX4_draw_18 rfl (lv_at hl3 0 rfl) ?_
    refine x_get (pc := 19) (T := TX4) (N := 12) (ci := 4) (v := .int v_5) E hw6 inX4 0 9 q_227 rfl rfl (by decide) rfl rfl dX4_draw_19 ?_
    refine lv_bipush (pc := 22) (v := 8) E.1 E.2.1 dX4_draw_22 (by decide +kernel) ?_
    refine lv_iushr (pc := 24) E.1 E.2.1 dX4_draw_24 rfl ?_
    refine lv_topi (fun v_8 ev_8 => ?_)
    refine lv_iload_n (pc := 25) E.1 E.2.1 dX4_draw_25 rfl (lv_at hl3 1 rfl) ?_
    refine lv_irem (pc := 26) E.1 E.2.1 dX4_draw_26 (mneE (a := z_m.toInt) (b := 0) rfl (by decide +kernel) (by omega)) ?_
    refine lv_topi (fun v_9 ev_9 => ?_)
    refine lv_goto (pc := 27) (tgt := 31) E.1 E.2.1 dX4_draw_27 (by decide) ?_
    exact em_i (w1 := (fun (u : Int32) => (WZ_Now cI cJ mr (upd mi 10 u) mf mg))) E hr hlk v_5 hw6 trivial (Nat.le_of_ble_eq_true rfl) (Nat.le_of_ble_eq_true rfl) dX4_draw_31
set_option maxHeartbeats 4000000 in
set_option maxRecDepth 100000 in
theorem t_forgetNeeds (l : Launch) (D : va_G) (cI cJ : ClassId) (sz : Nat) (mr : Nat → Nat) (mi : Nat → Int32) (mf : Nat → Nat → Int32) (mg : Nat → Nat → Int64)   : Met l yX4_forgetNeeds (Cond.code yX4_forgetNeeds cX4_forgetNeeds 2 none :: GW) ({ frames := 1, cells := 0, slots := 0, locals := 40 } : Room) (va_Pc [.ref (mr 0)] (PW D cI cJ sz (WZ_Now cI cJ mr mi mf mg) xT)) (va_Qv (fun (u : (Nat → Int32) × Int32) => True) (fun u => QW D cI cJ (va_A (WZ_Now cI cJ mr mi mf mg) sz) ((fun (u : (Nat → Int32) × Int32) => (WZ_Now cI cJ mr (upd mi 6 u.2) (va_up mf 5 u.1) mg)) u)) (va_A (WZ_Now cI cJ mr mi mf mg) sz)) 0 0 (va_A (WZ_Now cI cJ mr mi mf mg) sz) := by
  refine mk_met (y := yX4_forgetNeeds) (bytes := cX4_forgetNeeds) (maxL := 2) (avs := [.ref (mr 0)]) (WS := (WZ_Now cI cJ mr mi mf mg)) (Qf := fun A => va_Qv (fun (u : (Nat → Int32) × Int32) => True) (fun u => QW D cI cJ A ((fun (u : (Nat → Int32) × Int32) => (WZ_Now cI cJ mr (upd mi 6 u.2) (va_up mf 5 u.1) mg)) u)) A) (by decide) (Nat.le_of_ble_eq_true rfl) ?_
  intro p e s m below meth c A ls E hr hlk hnm hX hw1 hl2
  have hl3 : lv_has ls 2 [(0, .ref (mr 0))] := hl2
  refine lv_iconst (pc := 0) (v := 0) E.1 E.2.1 dX4_forgetNeeds_0 (by decide +kernel) ?_
  refine lv_istore_n (pc := 1) (lv' := [(1, .int 0), (0, .ref (mr 0))]) E.1 E.2.1 dX4_forgetNeeds_1 rfl hl3 (by decide) rfl (fun ls hl4 => ?_)
  have loop_5 : ∀ (k : Nat) (x_6 : Int32) (g_7 : Nat → Int32) (H : Heap) (locs : List Loc) (ls : Array Slot), (0 ≤ x_6.toInt) ∧ (x_6.toInt ≤ 10) → 10 - x_6.toInt < (k : Int) → WD D A s.heap (WZ_Now cI cJ mr mi (va_up mf 5 g_7) mg) H locs → lv_has ls 2 [(1, .int x_6), (0, .ref (mr 0))] → W p l e ({ frames := 1, cells := 0, slots := 0, locals := 40 } : Room) s m ([.ref (mr 0)] : List Value).toArray below meth c H locs 0 0 (MQ below (va_Qv (fun (u : (Nat → Int32) × Int32) => True) (fun u => QW D cI cJ A ((fun (u : (Nat → Int32) × Int32) => (WZ_Now cI cJ mr (upd mi 6 u.2) (va_up mf 5 u.1) mg)) u)) A) ([.ref (mr 0)] : List Value).toArray s 0 0 A) (F0 m 2 ls []) := by
    intro k
    induction k with
    | zero =>
      intro x_6 g_7 _ _ _ hinv hm
      obtain ⟨hi_7_0, hi_7_1⟩ := hinv
      exact absurd hm (by omega)
    | succ k ih_8 =>
      intro x_6 g_7 H locs ls hinv hm hw9 hl10
      obtain ⟨hi_7_0, hi_7_1⟩ := hinv
      refine lv_iload_n (pc := 2) E.1 E.2.1 dX4_forgetNeeds_2 rfl (lv_at hl10 0 rfl) ?_
      refine lv_bipush (pc := 3) (v := 10) E.1 E.2.1 dX4_forgetNeeds_3 (by decide +kernel) ?_
      refine lv_icmp_ge (pc := 5) (tgt := 21) E.1 E.2.1 dX4_forgetNeeds_5 (by decide) (fun c_11 => ?_) (fun c_11 => ?_)
      · skip
        have hc_11 := leE (a := 10) (b := x_6.toInt) (by decide +kernel) rfl c_11
        refine lv_aload_n (pc := 21) E.1 E.2.1 dX4_forgetNeeds_21 rfl (lv_at hl10 1 rfl) ?_
        refine lv_iconst (pc := 22) (v := 0) E.1 E.2.1 dX4_forgetNeeds_22 (by decide +kernel) ?_
        refine x_put (pc := 23) (T := TX4) (N := 12) (ci := 4) (ws' := (WZ_Now cI cJ mr (upd mi 6 0) (va_up mf 5 g_7) mg)) E hw9 inX4 tyX4_ok nmX4 0 5 q_208 rfl rfl (by decide) rfl rfl rfl rfl (Nat.le_of_ble_eq_true rfl) rfl dX4_forgetNeeds_23 (fun H locs hw12 => ?_)
        exact em_v (w1 := (fun (u : (Nat → Int32) × Int32) => (WZ_Now cI cJ mr (upd mi 6 u.2) (va_up mf 5 u.1) mg))) E hr hlk (g_7, 0) hw12 trivial (Nat.le_of_ble_eq_true rfl) (Nat.le_of_ble_eq_true rfl) dX4_forgetNeeds_26
      · skip
        have hc_11 := nleE (a := 10) (b := x_6.toInt) (by decide +kernel) rfl c_11
        refine lv_aload_n (pc := 8) E.1 E.2.1 dX4_forgetNeeds_8 rfl (lv_at hl10 1 rfl) ?_
        refine x_get (pc := 9) (T := TX4) (N := 12) (ci := 4) (v := .ref (mr 5)) E hw9 inX4 0 4 q_203 rfl rfl (by decide) rfl rfl dX4_forgetNeeds_9 ?_
        refine lv_iload_n (pc := 12) E.1 E.2.1 dX4_forgetNeeds_12 rfl (lv_at hl10 0 rfl) ?_
        refine lv_iconst (pc := 13) (v := (-1)) E.1 E.2.1 dX4_forgetNeeds_13 (by decide +kernel) ?_
        refine x_iastG (pc := 14) (f := g_7) (wf := fun g => (WZ_Now cI cJ mr mi (va_up mf 5 g) mg)) E hw9 5 rfl (inbE (a := x_6.toInt) rfl (by omega)) (fun _ => rfl) dX4_forgetNeeds_14 (fun g_13 H locs eg_13 hw14 => ?_)
        obtain ⟨v_15, ev_15⟩ : ∃ z : Int32, x_6 + Int32.ofInt (1) = z := ⟨_, rfl⟩
        have hv_15 : v_15.toInt = x_6.toInt + (1) := by rw [← ev_15]; exact incE rfl (by decide) (by omega)
        refine lv_iinc (pc := 15) (v := v_15) (lv' := [(1, .int v_15), (0, .ref (mr 0))]) E.1 E.2.1 dX4_forgetNeeds_15 hl10 (k := 0) rfl ev_15 (by decide) rfl (fun ls hl16 => ?_)
        refine lv_goto (pc := 18) (tgt := 2) E.1 E.2.1 dX4_forgetNeeds_18 (by decide) ?_
        exact ih_8 v_15 g_13 _ _ _ ⟨(by show 0 ≤ v_15.toInt; omega), (by show v_15.toInt ≤ 10; omega)⟩ (by omega) hw14 (lv_sub hl16 [0, 1] rfl)
  exact loop_5 (Int.toNat (10 - 0) + 1) 0 (mf 5) _ _ _ ⟨(by show 0 ≤ (0 : Int32).toInt; have k_0 : (0 : Int32).toInt = 0 := (by decide +kernel); omega), (by show (0 : Int32).toInt ≤ 10; have k_0 : (0 : Int32).toInt = 0 := (by decide +kernel); omega)⟩ (by have k_0 : (0 : Int32).toInt = 0 := (by decide +kernel); omega) hw1 (lv_sub hl4 [0, 1] rfl)
set_option maxHeartbeats 4000000 in
set_option maxRecDepth 100000 in
theorem t_nowTake (l : Launch) (D : va_G) (cI cJ : ClassId) (sz : Nat) (mr : Nat → Nat) (mi : Nat → Int32) (mf : Nat → Nat → Int32) (mg : Nat → Nat → Int64)   : Met l yX4_take (Cond.code yX4_take cX4_take 2 none :: GW) ({ frames := 1, cells := 0, slots := 0, locals := 60 } : Room) (va_Pc [.ref (mr 0), .ref (mr 13)] (PW D cI cJ sz (WZ_Now2 cI cJ mr mi mf mg) xT)) (va_Qv (fun (u : (Nat → Int32) × (Nat → Int32) × (Nat → Int32) × (Nat → Int32) × (Nat → Int32) × Int32 × Int32 × Int32 × Int32 × Int32 × Int32 × Int32) => (u.2.2.2.2.2.1.toInt = (mi 19).toInt) ∧ (u.2.2.2.2.2.2.1.toInt = (mi 20).toInt) ∧ (u.2.2.2.2.2.2.2.1.toInt = (mi 21).toInt) ∧ (u.2.2.2.2.2.2.2.2.1.toInt = (mi 22).toInt) ∧ (u.2.2.2.2.2.2.2.2.2.1.toInt = (mi 23).toInt) ∧ (u.2.2.2.2.2.2.2.2.2.2.1.toInt = (mi 24).toInt) ∧ (u.2.2.2.2.2.2.2.2.2.2.2.toInt = (mi 25).toInt)) (fun u => QW D cI cJ (va_A (WZ_Now2 cI cJ mr mi mf mg) sz) ((fun (u : (Nat → Int32) × (Nat → Int32) × (Nat → Int32) × (Nat → Int32) × (Nat → Int32) × Int32 × Int32 × Int32 × Int32 × Int32 × Int32 × Int32) => (WZ_Now2 cI cJ mr (upd (upd (upd (upd (upd (upd (upd mi 6 u.2.2.2.2.2.1) 7 u.2.2.2.2.2.2.1) 8 u.2.2.2.2.2.2.2.1) 9 u.2.2.2.2.2.2.2.2.1) 10 u.2.2.2.2.2.2.2.2.2.1) 11 u.2.2.2.2.2.2.2.2.2.2.1) 12 u.2.2.2.2.2.2.2.2.2.2.2) (va_up (va_up (va_up (va_up (va_up mf 1 u.1) 2 u.2.1) 3 u.2.2.1) 4 u.2.2.2.1) 5 u.2.2.2.2.1) mg)) u)) (va_A (WZ_Now2 cI cJ mr mi mf mg) sz)) 0 0 (va_A (WZ_Now2 cI cJ mr mi mf mg) sz) := by
  refine mk_met (y := yX4_take) (bytes := cX4_take) (maxL := 2) (avs := [.ref (mr 0), .ref (mr 13)]) (WS := (WZ_Now2 cI cJ mr mi mf mg)) (Qf := fun A => va_Qv (fun (u : (Nat → Int32) × (Nat → Int32) × (Nat → Int32) × (Nat → Int32) × (Nat → Int32) × Int32 × Int32 × Int32 × Int32 × Int32 × Int32 × Int32) => (u.2.2.2.2.2.1.toInt = (mi 19).toInt) ∧ (u.2.2.2.2.2.2.1.toInt = (mi 20).toInt) ∧ (u.2.2.2.2.2.2.2.1.toInt = (mi 21).toInt) ∧ (u.2.2.2.2.2.2.2.2.1.toInt = (mi 22).toInt) ∧ (u.2.2.2.2.2.2.2.2.2.1.toInt = (mi 23).toInt) ∧ (u.2.2.2.2.2.2.2.2.2.2.1.toInt = (mi 24).toInt) ∧ (u.2.2.2.2.2.2.2.2.2.2.2.toInt = (mi 25).toInt)) (fun u => QW D cI cJ A ((fun (u : (Nat → Int32) × (Nat → Int32) × (Nat → Int32) × (Nat → Int32) × (Nat → Int32) × Int32 × Int32 × Int32 × Int32 × Int32 × Int32 × Int32) => (WZ_Now2 cI cJ mr (upd (upd (upd (upd (upd (upd (upd mi 6 u.2.2.2.2.2.1) 7 u.2.2.2.2.2.2.1) 8 u.2.2.2.2.2.2.2.1) 9 u.2.2.2.2.2.2.2.2.1) 10 u.2.2.2.2.2.2.2.2.2.1) 11 u.2.2.2.2.2.2.2.2.2.2.1) 12 u.2.2.2.2.2.2.2.2.2.2.2) (va_up (va_up (va_up (va_up (va_up mf 1 u.1) 2 u.2.1) 3 u.2.2.1) 4 u.2.2.2.1) 5 u.2.2.2.2.1) mg)) u)) A) (by decide) (Nat.le_of_ble_eq_true rfl) ?_
  intro p e s m below meth c A ls E hr hlk hnm hX hw1 hl2
  have hl3 : lv_has ls 2 [(0, .ref (mr 0)), (1, .ref (mr 13))] := hl2
  refine lv_aload_n (pc := 0) E.1 E.2.1 dX4_take_0 rfl (lv_at hl3 1 rfl) ?_
  refine x_get (pc := 1) (T := TX4) (N := 12) (ci := 4) (v := .ref (mr 14)) E hw1 inX4 6 0 q_191 rfl rfl (by decide) rfl rfl dX4_take_1 ?_
  refine lv_iconst (pc := 4) (v := 0) E.1 E.2.1 dX4_take_4 (by decide +kernel) ?_
  refine lv_aload_n (pc := 5) E.1 E.2.1 dX4_take_5 rfl (lv_at hl3 0 rfl) ?_
  refine x_get (pc := 6) (T := TX4) (N := 12) (ci := 4) (v := .ref (mr 1)) E hw1 inX4 0 0 q_191 rfl rfl (by decide) rfl rfl dX4_take_6 ?_
  refine lv_iconst (pc := 9) (v := 0) E.1 E.2.1 dX4_take_9 (by decide +kernel) ?_
  refine lv_bipush (pc := 10) (v := 10) E.1 E.2.1 dX4_take_10 (by decide +kernel) ?_
  refine x_copyG (pc := 12) (N := 10) (wf := fun g => (WZ_Now2 cI cJ mr mi (va_up mf 1 g) mg)) E hw1 hl3.1 q_1003 q_967 q_966 q_169 7 1 rfl rfl (by decide +kernel) (by decide +kernel) (Nat.le_of_ble_eq_true rfl) (Nat.le_of_ble_eq_true rfl) (fun _ => rfl) (Nat.le_of_ble_eq_true rfl) (Nat.le_of_ble_eq_true rfl) dX4_take_12 (fun g_4 H locs eg_4 hw5 => ?_)
  refine lv_aload_n (pc := 15) E.1 E.2.1 dX4_take_15 rfl (lv_at hl3 1 rfl) ?_
  refine x_get (pc := 16) (T := TX4) (N := 12) (ci := 4) (v := .ref (mr 15)) E hw5 inX4 6 1 q_194 rfl rfl (by decide) rfl rfl dX4_take_16 ?_
  refine lv_iconst (pc := 19) (v := 0) E.1 E.2.1 dX4_take_19 (by decide +kernel) ?_
  refine lv_aload_n (pc := 20) E.1 E.2.1 dX4_take_20 rfl (lv_at hl3 0 rfl) ?_
  refine x_get (pc := 21) (T := TX4) (N := 12) (ci := 4) (v := .ref (mr 2)) E hw5 inX4 0 1 q_194 rfl rfl (by decide) rfl rfl dX4_take_21 ?_
  refine lv_iconst (pc := 24) (v := 0) E.1 E.2.1 dX4_take_24 (by decide +kernel) ?_
  refine lv_bipush (pc := 25) (v := 10) E.1 E.2.1 dX4_take_25 (by decide +kernel) ?_
  refine x_copyG (pc := 27) (N := 10) (wf := fun g => (WZ_Now2 cI cJ mr mi (va_up (va_up mf 1 g_4) 2 g) mg)) E hw5 hl3.1 q_1003 q_967 q_966 q_169 8 2 rfl rfl (by decide +kernel) (by decide +kernel) (Nat.le_of_ble_eq_true rfl) (Nat.le_of_ble_eq_true rfl) (fun _ => rfl) (Nat.le_of_ble_eq_true rfl) (Nat.le_of_ble_eq_true rfl) dX4_take_27 (fun g_6 H locs eg_6 hw7 => ?_)
  refine lv_aload_n (pc := 30) E.1 E.2.1 dX4_take_30 rfl (lv_at hl3 1 rfl) ?_
  refine x_get (pc := 31) (T := TX4) (N := 12) (ci := 4) (v := .ref (mr 16)) E hw7 inX4 6 2 q_197 rfl rfl (by decide) rfl rfl dX4_take_31 ?_
  refine lv_iconst (pc := 34) (v := 0) E.1 E.2.1 dX4_take_34 (by decide +kernel) ?_
  refine lv_aload_n (pc := 35) E.1 E.2.1 dX4_take_35 rfl (lv_at hl3 0 rfl) ?_
  refine x_get (pc := 36) (T := TX4) (N := 12) (ci := 4) (v := .ref (mr 3)) E hw7 inX4 0 2 q_197 rfl rfl (by decide) rfl rfl dX4_take_36 ?_
  refine lv_iconst (pc := 39) (v := 0) E.1 E.2.1 dX4_take_39 (by decide +kernel) ?_
  refine lv_bipush (pc := 40) (v := 10) E.1 E.2.1 dX4_take_40 (by decide +kernel) ?_
  refine x_copyG (pc := 42) (N := 10) (wf := fun g => (WZ_Now2 cI cJ mr mi (va_up (va_up (va_up mf 1 g_4) 2 g_6) 3 g) mg)) E hw7 hl3.1 q_1003 q_967 q_966 q_169 9 3 rfl rfl (by decide +kernel) (by decide +kernel) (Nat.le_of_ble_eq_true rfl) (Nat.le_of_ble_eq_true rfl) (fun _ => rfl) (Nat.le_of_ble_eq_true rfl) (Nat.le_of_ble_eq_true rfl) dX4_take_42 (fun g_8 H locs eg_8 hw9 => ?_)
  refine lv_aload_n (pc := 45) E.1 E.2.1 dX4_take_45 rfl (lv_at hl3 1 rfl) ?_
  refine x_get (pc := 46) (T := TX4) (N := 12) (ci := 4) (v := .ref (mr 17)) E hw9 inX4 6 3 q_200 rfl rfl (by decide) rfl rfl dX4_take_46 ?_
  refine lv_iconst (pc := 49) (v := 0) E.1 E.2.1 dX4_take_49 (by decide +kernel) ?_
  refine lv_aload_n (pc := 50) E.1 E.2.1 dX4_take_50 rfl (lv_at hl3 0 rfl) ?_
  refine x_get (pc := 51) (T := TX4) (N := 12) (ci := 4) (v := .ref (mr 4)) E hw9 inX4 0 3 q_200 rfl rfl (by decide) rfl rfl dX4_take_51 ?_
  refine lv_iconst (pc := 54) (v := 0) E.1 E.2.1 dX4_take_54 (by decide +kernel) ?_
  refine lv_bipush (pc := 55) (v := 10) E.1 E.2.1 dX4_take_55 (by decide +kernel) ?_
  refine x_copyG (pc := 57) (N := 10) (wf := fun g => (WZ_Now2 cI cJ mr mi (va_up (va_up (va_up (va_up mf 1 g_4) 2 g_6) 3 g_8) 4 g) mg)) E hw9 hl3.1 q_1003 q_967 q_966 q_169 10 4 rfl rfl (by decide +kernel) (by decide +kernel) (Nat.le_of_ble_eq_true rfl) (Nat.le_of_ble_eq_true rfl) (fun _ => rfl) (Nat.le_of_ble_eq_true rfl) (Nat.le_of_ble_eq_true rfl) dX4_take_57 (fun g_10 H locs eg_10 hw11 => ?_)
  refine lv_aload_n (pc := 60) E.1 E.2.1 dX4_take_60 rfl (lv_at hl3 1 rfl) ?_
  refine x_get (pc := 61) (T := TX4) (N := 12) (ci := 4) (v := .ref (mr 18)) E hw11 inX4 6 4 q_203 rfl rfl (by decide) rfl rfl dX4_take_61 ?_
  refine lv_iconst (pc := 64) (v := 0) E.1 E.2.1 dX4_take_64 (by decide +kernel) ?_
  refine lv_aload_n (pc := 65) E.1 E.2.1 dX4_take_65 rfl (lv_at hl3 0 rfl) ?_
  refine x_get (pc := 66) (T := TX4) (N := 12) (ci := 4) (v := .ref (mr 5)) E hw11 inX4 0 4 q_203 rfl rfl (by decide) rfl rfl dX4_take_66 ?_
  refine lv_iconst (pc := 69) (v := 0) E.1 E.2.1 dX4_take_69 (by decide +kernel) ?_
  refine lv_bipush (pc := 70) (v := 10) E.1 E.2.1 dX4_take_70 (by decide +kernel) ?_
  refine x_copyG (pc := 72) (N := 10) (wf := fun g => (WZ_Now2 cI cJ mr mi (va_up (va_up (va_up (va_up (va_up mf 1 g_4) 2 g_6) 3 g_8) 4 g_10) 5 g) mg)) E hw11 hl3.1 q_1003 q_967 q_966 q_169 11 5 rfl rfl (by decide +kernel) (by decide +kernel) (Nat.le_of_ble_eq_true rfl) (Nat.le_of_ble_eq_true rfl) (fun _ => rfl) (Nat.le_of_ble_eq_true rfl) (Nat.le_of_ble_eq_true rfl) dX4_take_72 (fun g_12 H locs eg_12 hw13 => ?_)
  refine lv_aload_n (pc := 75) E.1 E.2.1 dX4_take_75 rfl (lv_at hl3 0 rfl) ?_
  refine lv_aload_n (pc := 76) E.1 E.2.1 dX4_take_76 rfl (lv_at hl3 1 rfl) ?_
  refine x_get (pc := 77) (T := TX4) (N := 12) (ci := 4) (v := .int (mi 19)) E hw13 inX4 6 5 q_208 rfl rfl (by decide) rfl rfl dX4_take_77 ?_
  refine x_put (pc := 80) (T := TX4) (N := 12) (ci := 4) (ws' := (WZ_Now2 cI cJ mr (upd mi 6 (mi 19)) (va_up (va_up (va_up (va_up (va_up mf 1 g_4) 2 g_6) 3 g_8) 4 g_10) 5 g_12) mg)) E hw13 inX4 tyX4_ok nmX4 0 5 q_208 rfl rfl (by decide) rfl rfl rfl rfl (Nat.le_of_ble_eq_true rfl) rfl dX4_take_80 (fun H locs hw14 => ?_)
  refine lv_aload_n (pc := 83) E.1 E.2.1 dX4_take_83 rfl (lv_at hl3 0 rfl) ?_
  refine lv_aload_n (pc := 84) E.1 E.2.1 dX4_take_84 rfl (lv_at hl3 1 rfl) ?_
  refine x_get (pc := 85) (T := TX4) (N := 12) (ci := 4) (v := .int (mi 20)) E hw14 inX4 6 6 q_213 rfl rfl (by decide) rfl rfl dX4_take_85 ?_
  refine x_put (pc := 88) (T := TX4) (N := 12) (ci := 4) (ws' := (WZ_Now2 cI cJ mr (upd (upd mi 6 (mi 19)) 7 (mi 20)) (va_up (va_up (va_up (va_up (va_up mf 1 g_4) 2 g_6) 3 g_8) 4 g_10) 5 g_12) mg)) E hw14 inX4 tyX4_ok nmX4 0 6 q_213 rfl rfl (by decide) rfl rfl rfl rfl (Nat.le_of_ble_eq_true rfl) rfl dX4_take_88 (fun H locs hw15 => ?_)
  refine lv_aload_n (pc := 91) E.1 E.2.1 dX4_take_91 rfl (lv_at hl3 0 rfl) ?_
  refine lv_aload_n (pc := 92) E.1 E.2.1 dX4_take_92 rfl (lv_at hl3 1 rfl) ?_
  refine x_get (pc := 93) (T := TX4) (N := 12) (ci := 4) (v := .int (mi 21)) E hw15 inX4 6 7 q_217 rfl rfl (by decide) rfl rfl dX4_take_93 ?_
  refine x_put (pc := 96) (T := TX4) (N := 12) (ci := 4) (ws' := (WZ_Now2 cI cJ mr (upd (upd (upd mi 6 (mi 19)) 7 (mi 20)) 8 (mi 21)) (va_up (va_up (va_up (va_up (va_up mf 1 g_4) 2 g_6) 3 g_8) 4 g_10) 5 g_12) mg)) E hw15 inX4 tyX4_ok nmX4 0 7 q_217 rfl rfl (by decide) rfl rfl rfl rfl (Nat.le_of_ble_eq_true rfl) rfl dX4_take_96 (fun H locs hw16 => ?_)
  refine lv_aload_n (pc := 99) E.1 E.2.1 dX4_take_99 rfl (lv_at hl3 0 rfl) ?_
  refine lv_aload_n (pc := 100) E.1 E.2.1 dX4_take_100 rfl (lv_at hl3 1 rfl) ?_
  refine x_get (pc := 101) (T := TX4) (N := 12) (ci := 4) (v := .int (mi 22)) E hw16 inX4 6 8 q_222 rfl rfl (by decide) rfl rfl dX4_take_101 ?_
  refine x_put (pc := 104) (T := TX4) (N := 12) (ci := 4) (ws' := (WZ_Now2 cI cJ mr (upd (upd (upd (upd mi 6 (mi 19)) 7 (mi 20)) 8 (mi 21)) 9 (mi 22)) (va_up (va_up (va_up (va_up (va_up mf 1 g_4) 2 g_6) 3 g_8) 4 g_10) 5 g_12) mg)) E hw16 inX4 tyX4_ok nmX4 0 8 q_222 rfl rfl (by decide) rfl rfl rfl rfl (Nat.le_of_ble_eq_true rfl) rfl dX4_take_104 (fun H locs hw17 => ?_)
  refine lv_aload_n (pc := 107) E.1 E.2.1 dX4_take_107 rfl (lv_at hl3 0 rfl) ?_
  refine lv_aload_n (pc := 108) E.1 E.2.1 dX4_take_108 rfl (lv_at hl3 1 rfl) ?_
  refine x_get (pc := 109) (T := TX4) (N := 12) (ci := 4) (v := .int (mi 23)) E hw17 inX4 6 9 q_227 rfl rfl (by decide) rfl rfl dX4_take_109 ?_
  refine x_put (pc := 112) (T := TX4) (N := 12) (ci := 4) (ws' := (WZ_Now2 cI cJ mr (upd (upd (upd (upd (upd mi 6 (mi 19)) 7 (mi 20)) 8 (mi 21)) 9 (mi 22)) 10 (mi 23)) (va_up (va_up (va_up (va_up (va_up mf 1 g_4) 2 g_6) 3 g_8) 4 g_10) 5 g_12) mg)) E hw17 inX4 tyX4_ok nmX4 0 9 q_227 rfl rfl (by decide) rfl rfl rfl rfl (Nat.le_of_ble_eq_true rfl) rfl dX4_take_112 (fun H locs hw18 => ?_)
  refine lv_aload_n (pc := 115) E.1 E.2.1 dX4_take_115 rfl (lv_at hl3 0 rfl) ?_
  refine lv_aload_n (pc := 116) E.1 E.2.1 dX4_take_116 rfl (lv_at hl3 1 rfl) ?_
  refine x_get (pc := 117) (T := TX4) (N := 12) (ci := 4) (v := .int (mi 24)) E hw18 inX4 6 10 q_228 rfl rfl (by decide) rfl rfl dX4_take_117 ?_
  refine x_put (pc := 120) (T := TX4) (N := 12) (ci := 4) (ws' := (WZ_Now2 cI cJ mr (upd (upd (upd (upd (upd (upd mi 6 (mi 19)) 7 (mi 20)) 8 (mi 21)) 9 (mi 22)) 10 (mi 23)) 11 (mi 24)) (va_up (va_up (va_up (va_up (va_up mf 1 g_4) 2 g_6) 3 g_8) 4 g_10) 5 g_12) mg)) E hw18 inX4 tyX4_ok nmX4 0 10 q_228 rfl rfl (by decide) rfl rfl rfl rfl (Nat.le_of_ble_eq_true rfl) rfl dX4_take_120 (fun H locs hw19 => ?_)
  refine lv_aload_n (pc := 123) E.1 E.2.1 dX4_take_123 rfl (lv_at hl3 0 rfl) ?_
  refine lv_aload_n (pc := 124) E.1 E.2.1 dX4_take_124 rfl (lv_at hl3 1 rfl) ?_
  refine x_get (pc := 125) (T := TX4) (N := 12) (ci := 4) (v := .int (mi 25)) E hw19 inX4 6 11 q_231 rfl rfl (by decide) rfl rfl dX4_take_125 ?_
  refine x_put (pc := 128) (T := TX4) (N := 12) (ci := 4) (ws' := (WZ_Now2 cI cJ mr (upd (upd (upd (upd (upd (upd (upd mi 6 (mi 19)) 7 (mi 20)) 8 (mi 21)) 9 (mi 22)) 10 (mi 23)) 11 (mi 24)) 12 (mi 25)) (va_up (va_up (va_up (va_up (va_up mf 1 g_4) 2 g_6) 3 g_8) 4 g_10) 5 g_12) mg)) E hw19 inX4 tyX4_ok nmX4 0 11 q_231 rfl rfl (by decide) rfl rfl rfl rfl (Nat.le_of_ble_eq_true rfl) rfl dX4_take_128 (fun H locs hw20 => ?_)
  exact em_v (w1 := (fun (u : (Nat → Int32) × (Nat → Int32) × (Nat → Int32) × (Nat → Int32) × (Nat → Int32) × Int32 × Int32 × Int32 × Int32 × Int32 × Int32 × Int32) => (WZ_Now2 cI cJ mr (upd (upd (upd (upd (upd (upd (upd mi 6 u.2.2.2.2.2.1) 7 u.2.2.2.2.2.2.1) 8 u.2.2.2.2.2.2.2.1) 9 u.2.2.2.2.2.2.2.2.1) 10 u.2.2.2.2.2.2.2.2.2.1) 11 u.2.2.2.2.2.2.2.2.2.2.1) 12 u.2.2.2.2.2.2.2.2.2.2.2) (va_up (va_up (va_up (va_up (va_up mf 1 u.1) 2 u.2.1) 3 u.2.2.1) 4 u.2.2.2.1) 5 u.2.2.2.2.1) mg))) E hr hlk (g_4, g_6, g_8, g_10, g_12, (mi 19), (mi 20), (mi 21), (mi 22), (mi 23), (mi 24), (mi 25)) hw20 ⟨rfl, rfl, rfl, rfl, rfl, rfl, rfl⟩ (Nat.le_of_ble_eq_true rfl) (Nat.le_of_ble_eq_true rfl) dX4_take_131
set_option maxHeartbeats 4000000 in
set_option maxRecDepth 100000 in
theorem t_cluesTake (l : Launch) (D : va_G) (cI cJ : ClassId) (sz : Nat) (mr : Nat → Nat) (mi : Nat → Int32) (mf : Nat → Nat → Int32) (mg : Nat → Nat → Int64)   : Met l yX0_take (Cond.code yX0_take cX0_take 2 none :: GW) ({ frames := 1, cells := 0, slots := 0, locals := 60 } : Room) (va_Pc [.ref (mr 0), .ref (mr 4)] (PW D cI cJ sz (WZ_Clues2 cI cJ mr mi mf mg) xT)) (va_Qv (fun (u : (Nat → Int32) × (Nat → Int32) × Int32) => (u.2.2.toInt = (mi 7).toInt)) (fun u => QW D cI cJ (va_A (WZ_Clues2 cI cJ mr mi mf mg) sz) ((fun (u : (Nat → Int32) × (Nat → Int32) × Int32) => (WZ_Clues2 cI cJ mr (upd mi 3 u.2.2) (va_up (va_up mf 1 u.1) 2 u.2.1) mg)) u)) (va_A (WZ_Clues2 cI cJ mr mi mf mg) sz)) 0 0 (va_A (WZ_Clues2 cI cJ mr mi mf mg) sz) := by
  refine mk_met (y := yX0_take) (bytes := cX0_take) (maxL := 2) (avs := [.ref (mr 0), .ref (mr 4)]) (WS := (WZ_Clues2 cI cJ mr mi mf mg)) (Qf := fun A => va_Qv (fun (u : (Nat → Int32) × (Nat → Int32) × Int32) => (u.2.2.toInt = (mi 7).toInt)) (fun u => QW D cI cJ A ((fun (u : (Nat → Int32) × (Nat → Int32) × Int32) => (WZ_Clues2 cI cJ mr (upd mi 3 u.2.2) (va_up (va_up mf 1 u.1) 2 u.2.1) mg)) u)) A) (by decide) (Nat.le_of_ble_eq_true rfl) ?_
  intro p e s m below meth c A ls E hr hlk hnm hX hw1 hl2
  have hl3 : lv_has ls 2 [(0, .ref (mr 0)), (1, .ref (mr 4))] := hl2
  refine lv_aload_n (pc := 0) E.1 E.2.1 dX0_take_0 rfl (lv_at hl3 1 rfl) ?_
  refine x_get (pc := 1) (T := TX0) (N := 3) (ci := 0) (v := .ref (mr 5)) E hw1 inX0 3 0 q_444 rfl rfl (by decide) rfl rfl dX0_take_1 ?_
  refine lv_iconst (pc := 4) (v := 0) E.1 E.2.1 dX0_take_4 (by decide +kernel) ?_
  refine lv_aload_n (pc := 5) E.1 E.2.1 dX0_take_5 rfl (lv_at hl3 0 rfl) ?_
  refine x_get (pc := 6) (T := TX0) (N := 3) (ci := 0) (v := .ref (mr 1)) E hw1 inX0 0 0 q_444 rfl rfl (by decide) rfl rfl dX0_take_6 ?_
  refine lv_iconst (pc := 9) (v := 0) E.1 E.2.1 dX0_take_9 (by decide +kernel) ?_
  refine lv_bipush (pc := 10) (v := 8) E.1 E.2.1 dX0_take_10 (by decide +kernel) ?_
  refine x_copyG (pc := 12) (N := 8) (wf := fun g => (WZ_Clues2 cI cJ mr mi (va_up mf 1 g) mg)) E hw1 hl3.1 q_1387 q_967 q_966 q_169 4 1 rfl rfl (by decide +kernel) (by decide +kernel) (Nat.le_of_ble_eq_true rfl) (Nat.le_of_ble_eq_true rfl) (fun _ => rfl) (Nat.le_of_ble_eq_true rfl) (Nat.le_of_ble_eq_true rfl) dX0_take_12 (fun g_4 H locs eg_4 hw5 => ?_)
  refine lv_aload_n (pc := 15) E.1 E.2.1 dX0_take_15 rfl (lv_at hl3 1 rfl) ?_
  refine x_get (pc := 16) (T := TX0) (N := 3) (ci := 0) (v := .ref (mr 6)) E hw5 inX0 3 1 q_446 rfl rfl (by decide) rfl rfl dX0_take_16 ?_
  refine lv_iconst (pc := 19) (v := 0) E.1 E.2.1 dX0_take_19 (by decide +kernel) ?_
  refine lv_aload_n (pc := 20) E.1 E.2.1 dX0_take_20 rfl (lv_at hl3 0 rfl) ?_
  refine x_get (pc := 21) (T := TX0) (N := 3) (ci := 0) (v := .ref (mr 2)) E hw5 inX0 0 1 q_446 rfl rfl (by decide) rfl rfl dX0_take_21 ?_
  refine lv_iconst (pc := 24) (v := 0) E.1 E.2.1 dX0_take_24 (by decide +kernel) ?_
  refine lv_bipush (pc := 25) (v := 8) E.1 E.2.1 dX0_take_25 (by decide +kernel) ?_
  refine x_copyG (pc := 27) (N := 8) (wf := fun g => (WZ_Clues2 cI cJ mr mi (va_up (va_up mf 1 g_4) 2 g) mg)) E hw5 hl3.1 q_1387 q_967 q_966 q_169 5 2 rfl rfl (by decide +kernel) (by decide +kernel) (Nat.le_of_ble_eq_true rfl) (Nat.le_of_ble_eq_true rfl) (fun _ => rfl) (Nat.le_of_ble_eq_true rfl) (Nat.le_of_ble_eq_true rfl) dX0_take_27 (fun g_6 H locs eg_6 hw7 => ?_)
  refine lv_aload_n (pc := 30) E.1 E.2.1 dX0_take_30 rfl (lv_at hl3 0 rfl) ?_
  refine lv_aload_n (pc := 31) E.1 E.2.1 dX0_take_31 rfl (lv_at hl3 1 rfl) ?_
  refine x_get (pc := 32) (T := TX0) (N := 3) (ci := 0) (v := .int (mi 7)) E hw7 inX0 3 2 q_448 rfl rfl (by decide) rfl rfl dX0_take_32 ?_
  refine x_put (pc := 35) (T := TX0) (N := 3) (ci := 0) (ws' := (WZ_Clues2 cI cJ mr (upd mi 3 (mi 7)) (va_up (va_up mf 1 g_4) 2 g_6) mg)) E hw7 inX0 tyX0_ok nmX0 0 2 q_448 rfl rfl (by decide) rfl rfl rfl rfl (Nat.le_of_ble_eq_true rfl) rfl dX0_take_35 (fun H locs hw8 => ?_)
  exact em_v (w1 := (fun (u : (Nat → Int32) × (Nat → Int32) × Int32) => (WZ_Clues2 cI cJ mr (upd mi 3 u.2.2) (va_up (va_up mf 1 u.1) 2 u.2.1) mg))) E hr hlk (g_4, g_6, (mi 7)) hw8 rfl (Nat.le_of_ble_eq_true rfl) (Nat.le_of_ble_eq_true rfl) dX0_take_38
set_option maxHeartbeats 4000000 in
set_option maxRecDepth 100000 in
theorem t_left (l : Launch) (D : va_G) (cI cJ : ClassId) (sz : Nat) (mr : Nat → Nat) (mi : Nat → Int32) (mf : Nat → Nat → Int32) (mg : Nat → Nat → Int64) (z_when : Int32) (z_all : Int32) (h0 : 0 ≤ (mi 3).toInt ∧ (mi 3).toInt ≤ 8) : Met l yX0_left (Cond.code yX0_left cX0_left 5 (some .int) :: GW) ({ frames := 1, cells := 0, slots := 0, locals := 40 } : Room) (va_Pc [.ref (mr 0), .int z_when, .int z_all] (PW D cI cJ sz (WZ_Clues cI cJ mr mi mf mg) xT)) (va_Qi (fun (r : Int32) (u : Unit) => True) (fun u => QW D cI cJ (va_A (WZ_Clues cI cJ mr mi mf mg) sz) ((fun (u : Unit) => (WZ_Clues cI cJ mr mi mf mg)) u)) (va_A (WZ_Clues cI cJ mr mi mf mg) sz)) 0 0 (va_A (WZ_Clues cI cJ mr mi mf mg) sz) := by
  refine mk_met (y := yX0_left) (bytes := cX0_left) (maxL := 5) (avs := [.ref (mr 0), .int z_when, .int z_all]) (WS := (WZ_Clues cI cJ mr mi mf mg)) (Qf := fun A => va_Qi (fun (r : Int32) (u : Unit) => True) (fun u => QW D cI cJ A ((fun (u : Unit) => (WZ_Clues cI cJ mr mi mf mg)) u)) A) (by decide) (Nat.le_of_ble_eq_true rfl) ?_
  intro p e s m below meth c A ls E hr hlk hnm hX hw1 hl2
  have hl3 : lv_has ls 5 [(0, .ref (mr 0)), (1, .int z_when), (2, .int z_all)] := hl2
  refine lv_iload_n (pc := 0) E.1 E.2.1 dX0_left_0 rfl (lv_at hl3 2 rfl) ?_
  refine lv_istore_n (pc := 1) (lv' := [(3, .int z_all), (0, .ref (mr 0)), (1, .int z_when), (2, .int z_all)]) E.1 E.2.1 dX0_left_1 rfl hl3 (by decide) rfl (fun ls hl4 => ?_)
  refine lv_iconst (pc := 2) (v := 0) E.1 E.2.1 dX0_left_2 (by decide +kernel) ?_
  refine lv_istore (pc := 3) (lv' := [(4, .int 0), (3, .int z_all), (0, .ref (mr 0)), (1, .int z_when), (2, .int z_all)]) E.1 E.2.1 dX0_left_3 hl4 (by decide) rfl (fun ls hl5 => ?_)
  have loop_6 : ∀ (k : Nat) (x_7 : Int32) (x_8 : Int32) (H : Heap) (locs : List Loc) (ls : Array Slot), (0 ≤ x_7.toInt) ∧ (x_7.toInt ≤ (mi 3).toInt) → (mi 3).toInt - x_7.toInt < (k : Int) → WD D A s.heap (WZ_Clues cI cJ mr mi mf mg) H locs → lv_has ls 5 [(4, .int x_7), (3, .int x_8), (0, .ref (mr 0)), (1, .int z_when), (2, .int z_all)] → W p l e ({ frames := 1, cells := 0, slots := 0, locals := 40 } : Room) s m ([.ref (mr 0), .int z_when, .int z_all] : List Value).toArray below meth c H locs 0 0 (MQ below (va_Qi (fun (r : Int32) (u : Unit) => True) (fun u => QW D cI cJ A ((fun (u : Unit) => (WZ_Clues cI cJ mr mi mf mg)) u)) A) ([.ref (mr 0), .int z_when, .int z_all] : List Value).toArray s 0 0 A) (F0 m 5 ls []) := by
    intro k
    induction k with
    | zero =>
      intro x_7 x_8 _ _ _ hinv hm
      obtain ⟨hi_8_0, hi_8_1⟩ := hinv
      exact absurd hm (by omega)
    | succ k ih_9 =>
      intro x_7 x_8 H locs ls hinv hm hw10 hl11
      obtain ⟨hi_8_0, hi_8_1⟩ := hinv
      refine lv_iload (pc := 5) E.1 E.2.1 dX0_left_5 (lv_at hl11 0 rfl) ?_
      refine lv_aload_n (pc := 7) E.1 E.2.1 dX0_left_7 rfl (lv_at hl11 2 rfl) ?_
      refine x_get (pc := 8) (T := TX0) (N := 3) (ci := 0) (v := .int (mi 3)) E hw10 inX0 0 2 q_448 rfl rfl (by decide) rfl rfl dX0_left_8 ?_
      refine lv_icmp_ge (pc := 11) (tgt := 48) E.1 E.2.1 dX0_left_11 (by decide) (fun c_12 => ?_) (fun c_12 => ?_)
      · skip
        have hc_12 := leE (a := (mi 3).toInt) (b := x_7.toInt) rfl rfl c_12
        refine lv_iload_n (pc := 48) E.1 E.2.1 dX0_left_48 rfl (lv_at hl11 1 rfl) ?_
        exact em_i (w1 := (fun (u : Unit) => (WZ_Clues cI cJ mr mi mf mg))) E hr hlk () hw10 trivial (Nat.le_of_ble_eq_true rfl) (Nat.le_of_ble_eq_true rfl) dX0_left_49
      · skip
        have hc_12 := nleE (a := (mi 3).toInt) (b := x_7.toInt) rfl rfl c_12
        refine lv_iload (pc := 14) E.1 E.2.1 dX0_left_14 (lv_at hl11 0 rfl) ?_
        refine lv_bipush (pc := 16) (v := 8) E.1 E.2.1 dX0_left_16 (by decide +kernel) ?_
        refine lv_icmp_ge (pc := 18) (tgt := 48) E.1 E.2.1 dX0_left_18 (by decide) (fun c_13 => absurd c_13 (mnleE (a := 8) (b := x_7.toInt) (by decide +kernel) rfl (by omega))) (fun _ => ?_)
        refine lv_aload_n (pc := 21) E.1 E.2.1 dX0_left_21 rfl (lv_at hl11 2 rfl) ?_
        refine x_get (pc := 22) (T := TX0) (N := 3) (ci := 0) (v := .ref (mr 1)) E hw10 inX0 0 0 q_444 rfl rfl (by decide) rfl rfl dX0_left_22 ?_
        refine lv_iload (pc := 25) E.1 E.2.1 dX0_left_25 (lv_at hl11 0 rfl) ?_
        refine x_iald (pc := 27) (f := (mf 1)) E hw10 1 rfl (inbE (a := x_7.toInt) rfl (by omega)) dX0_left_27 ?_
        refine lv_topi (fun v_14 ev_14 => ?_)
        refine lv_iload_n (pc := 28) E.1 E.2.1 dX0_left_28 rfl (lv_at hl11 3 rfl) ?_
        refine lv_icmp_ne (pc := 29) (tgt := 42) E.1 E.2.1 dX0_left_29 (by decide) (fun c_15 => ?_) (fun c_15 => ?_)
        · skip
          have hc_15 := neE (a := v_14.toInt) (b := z_when.toInt) rfl rfl c_15
          obtain ⟨v_16, ev_16⟩ : ∃ z : Int32, x_7 + Int32.ofInt (1) = z := ⟨_, rfl⟩
          have hv_16 : v_16.toInt = x_7.toInt + (1) := by rw [← ev_16]; exact incE rfl (by decide) (by omega)
          refine lv_iinc (pc := 42) (v := v_16) (lv' := [(4, .int v_16), (3, .int x_8), (0, .ref (mr 0)), (1, .int z_when), (2, .int z_all)]) E.1 E.2.1 dX0_left_42 hl11 (k := 0) rfl ev_16 (by decide) rfl (fun ls hl17 => ?_)
          refine lv_goto (pc := 45) (tgt := 5) E.1 E.2.1 dX0_left_45 (by decide) ?_
          exact ih_9 v_16 x_8 _ _ _ ⟨(by show 0 ≤ v_16.toInt; omega), (by show v_16.toInt ≤ (mi 3).toInt; omega)⟩ (by omega) hw10 (lv_sub hl17 [0, 1, 2, 3, 4] rfl)
        · skip
          have hc_15 := eqE (a := v_14.toInt) (b := z_when.toInt) rfl rfl c_15
          refine lv_iload_n (pc := 32) E.1 E.2.1 dX0_left_32 rfl (lv_at hl11 1 rfl) ?_
          refine lv_aload_n (pc := 33) E.1 E.2.1 dX0_left_33 rfl (lv_at hl11 2 rfl) ?_
          refine x_get (pc := 34) (T := TX0) (N := 3) (ci := 0) (v := .ref (mr 2)) E hw10 inX0 0 1 q_446 rfl rfl (by decide) rfl rfl dX0_left_34 ?_
          refine lv_iload (pc := 37) E.1 E.2.1 dX0_left_37 (lv_at hl11 0 rfl) ?_
          refine x_iald (pc := 39) (f := (mf 2)) E hw10 2 rfl (inbE (a := x_7.toInt) rfl (by omega)) dX0_left_39 ?_
          refine lv_topi (fun v_18 ev_18 => ?_)
          refine lv_iand (pc := 40) E.1 E.2.1 dX0_left_40 ?_
          refine lv_topi (fun v_19 ev_19 => ?_)
          refine lv_istore_n (pc := 41) (lv' := [(3, .int v_19), (4, .int x_7), (0, .ref (mr 0)), (1, .int z_when), (2, .int z_all)]) E.1 E.2.1 dX0_left_41 rfl hl11 (by decide) rfl (fun ls hl20 => ?_)
          obtain ⟨v_21, ev_21⟩ : ∃ z : Int32, x_7 + Int32.ofInt (1) = z := ⟨_, rfl⟩
          have hv_21 : v_21.toInt = x_7.toInt + (1) := by rw [← ev_21]; exact incE rfl (by decide) (by omega)
          refine lv_iinc (pc := 42) (v := v_21) (lv' := [(4, .int v_21), (3, .int v_19), (0, .ref (mr 0)), (1, .int z_when), (2, .int z_all)]) E.1 E.2.1 dX0_left_42 hl20 (k := 1) rfl ev_21 (by decide) rfl (fun ls hl22 => ?_)
          refine lv_goto (pc := 45) (tgt := 5) E.1 E.2.1 dX0_left_45 (by decide) ?_
          exact ih_9 v_21 v_19 _ _ _ ⟨(by show 0 ≤ v_21.toInt; omega), (by show v_21.toInt ≤ (mi 3).toInt; omega)⟩ (by omega) hw10 (lv_sub hl22 [0, 1, 2, 3, 4] rfl)
  exact loop_6 (Int.toNat ((mi 3).toInt - 0) + 1) 0 z_all _ _ _ ⟨(by show 0 ≤ (0 : Int32).toInt; have k_0 : (0 : Int32).toInt = 0 := (by decide +kernel); omega), (by show (0 : Int32).toInt ≤ (mi 3).toInt; have k_0 : (0 : Int32).toInt = 0 := (by decide +kernel); omega)⟩ (by have k_0 : (0 : Int32).toInt = 0 := (by decide +kernel); omega) hw1 (lv_sub hl5 [0, 1, 2, 3, 4] rfl)
set_option maxHeartbeats 4000000 in
set_option maxRecDepth 100000 in
theorem t_needsTake (l : Launch) (D : va_G) (cI cJ : ClassId) (sz : Nat) (mr : Nat → Nat) (mi : Nat → Int32) (mf : Nat → Nat → Int32) (mg : Nat → Nat → Int64)   : Met l yX3_take (Cond.code yX3_take cX3_take 2 none :: GW) ({ frames := 1, cells := 0, slots := 0, locals := 60 } : Room) (va_Pc [.ref (mr 0), .ref (mr 7)] (PW D cI cJ sz (WZ_Needs2 cI cJ mr mi mf mg) xT)) (va_Qv (fun (u : (Nat → Int32) × (Nat → Int32) × (Nat → Int32) × (Nat → Int32) × (Nat → Int32) × Int32) => (u.2.2.2.2.2.toInt = (mi 13).toInt)) (fun u => QW D cI cJ (va_A (WZ_Needs2 cI cJ mr mi mf mg) sz) ((fun (u : (Nat → Int32) × (Nat → Int32) × (Nat → Int32) × (Nat → Int32) × (Nat → Int32) × Int32) => (WZ_Needs2 cI cJ mr (upd mi 6 u.2.2.2.2.2) (va_up (va_up (va_up (va_up (va_up mf 1 u.1) 2 u.2.1) 3 u.2.2.1) 4 u.2.2.2.1) 5 u.2.2.2.2.1) mg)) u)) (va_A (WZ_Needs2 cI cJ mr mi mf mg) sz)) 0 0 (va_A (WZ_Needs2 cI cJ mr mi mf mg) sz) := by
  refine mk_met (y := yX3_take) (bytes := cX3_take) (maxL := 2) (avs := [.ref (mr 0), .ref (mr 7)]) (WS := (WZ_Needs2 cI cJ mr mi mf mg)) (Qf := fun A => va_Qv (fun (u : (Nat → Int32) × (Nat → Int32) × (Nat → Int32) × (Nat → Int32) × (Nat → Int32) × Int32) => (u.2.2.2.2.2.toInt = (mi 13).toInt)) (fun u => QW D cI cJ A ((fun (u : (Nat → Int32) × (Nat → Int32) × (Nat → Int32) × (Nat → Int32) × (Nat → Int32) × Int32) => (WZ_Needs2 cI cJ mr (upd mi 6 u.2.2.2.2.2) (va_up (va_up (va_up (va_up (va_up mf 1 u.1) 2 u.2.1) 3 u.2.2.1) 4 u.2.2.2.1) 5 u.2.2.2.2.1) mg)) u)) A) (by decide) (Nat.le_of_ble_eq_true rfl) ?_
  intro p e s m below meth c A ls E hr hlk hnm hX hw1 hl2
  have hl3 : lv_has ls 2 [(0, .ref (mr 0)), (1, .ref (mr 7))] := hl2
  refine lv_aload_n (pc := 0) E.1 E.2.1 dX3_take_0 rfl (lv_at hl3 1 rfl) ?_
  refine x_get (pc := 1) (T := TX3) (N := 6) (ci := 3) (v := .ref (mr 8)) E hw1 inX3 6 0 q_343 rfl rfl (by decide) rfl rfl dX3_take_1 ?_
  refine lv_iconst (pc := 4) (v := 0) E.1 E.2.1 dX3_take_4 (by decide +kernel) ?_
  refine lv_aload_n (pc := 5) E.1 E.2.1 dX3_take_5 rfl (lv_at hl3 0 rfl) ?_
  refine x_get (pc := 6) (T := TX3) (N := 6) (ci := 3) (v := .ref (mr 1)) E hw1 inX3 0 0 q_343 rfl rfl (by decide) rfl rfl dX3_take_6 ?_
  refine lv_iconst (pc := 9) (v := 0) E.1 E.2.1 dX3_take_9 (by decide +kernel) ?_
  refine lv_bipush (pc := 10) (v := 10) E.1 E.2.1 dX3_take_10 (by decide +kernel) ?_
  refine x_copyG (pc := 12) (N := 10) (wf := fun g => (WZ_Needs2 cI cJ mr mi (va_up mf 1 g) mg)) E hw1 hl3.1 q_977 q_967 q_966 q_169 7 1 rfl rfl (by decide +kernel) (by decide +kernel) (Nat.le_of_ble_eq_true rfl) (Nat.le_of_ble_eq_true rfl) (fun _ => rfl) (Nat.le_of_ble_eq_true rfl) (Nat.le_of_ble_eq_true rfl) dX3_take_12 (fun g_4 H locs eg_4 hw5 => ?_)
  refine lv_aload_n (pc := 15) E.1 E.2.1 dX3_take_15 rfl (lv_at hl3 1 rfl) ?_
  refine x_get (pc := 16) (T := TX3) (N := 6) (ci := 3) (v := .ref (mr 9)) E hw5 inX3 6 1 q_347 rfl rfl (by decide) rfl rfl dX3_take_16 ?_
  refine lv_iconst (pc := 19) (v := 0) E.1 E.2.1 dX3_take_19 (by decide +kernel) ?_
  refine lv_aload_n (pc := 20) E.1 E.2.1 dX3_take_20 rfl (lv_at hl3 0 rfl) ?_
  refine x_get (pc := 21) (T := TX3) (N := 6) (ci := 3) (v := .ref (mr 2)) E hw5 inX3 0 1 q_347 rfl rfl (by decide) rfl rfl dX3_take_21 ?_
  refine lv_iconst (pc := 24) (v := 0) E.1 E.2.1 dX3_take_24 (by decide +kernel) ?_
  refine lv_bipush (pc := 25) (v := 10) E.1 E.2.1 dX3_take_25 (by decide +kernel) ?_
  refine x_copyG (pc := 27) (N := 10) (wf := fun g => (WZ_Needs2 cI cJ mr mi (va_up (va_up mf 1 g_4) 2 g) mg)) E hw5 hl3.1 q_977 q_967 q_966 q_169 8 2 rfl rfl (by decide +kernel) (by decide +kernel) (Nat.le_of_ble_eq_true rfl) (Nat.le_of_ble_eq_true rfl) (fun _ => rfl) (Nat.le_of_ble_eq_true rfl) (Nat.le_of_ble_eq_true rfl) dX3_take_27 (fun g_6 H locs eg_6 hw7 => ?_)
  refine lv_aload_n (pc := 30) E.1 E.2.1 dX3_take_30 rfl (lv_at hl3 1 rfl) ?_
  refine x_get (pc := 31) (T := TX3) (N := 6) (ci := 3) (v := .ref (mr 10)) E hw7 inX3 6 2 q_351 rfl rfl (by decide) rfl rfl dX3_take_31 ?_
  refine lv_iconst (pc := 34) (v := 0) E.1 E.2.1 dX3_take_34 (by decide +kernel) ?_
  refine lv_aload_n (pc := 35) E.1 E.2.1 dX3_take_35 rfl (lv_at hl3 0 rfl) ?_
  refine x_get (pc := 36) (T := TX3) (N := 6) (ci := 3) (v := .ref (mr 3)) E hw7 inX3 0 2 q_351 rfl rfl (by decide) rfl rfl dX3_take_36 ?_
  refine lv_iconst (pc := 39) (v := 0) E.1 E.2.1 dX3_take_39 (by decide +kernel) ?_
  refine lv_bipush (pc := 40) (v := 10) E.1 E.2.1 dX3_take_40 (by decide +kernel) ?_
  refine x_copyG (pc := 42) (N := 10) (wf := fun g => (WZ_Needs2 cI cJ mr mi (va_up (va_up (va_up mf 1 g_4) 2 g_6) 3 g) mg)) E hw7 hl3.1 q_977 q_967 q_966 q_169 9 3 rfl rfl (by decide +kernel) (by decide +kernel) (Nat.le_of_ble_eq_true rfl) (Nat.le_of_ble_eq_true rfl) (fun _ => rfl) (Nat.le_of_ble_eq_true rfl) (Nat.le_of_ble_eq_true rfl) dX3_take_42 (fun g_8 H locs eg_8 hw9 => ?_)
  refine lv_aload_n (pc := 45) E.1 E.2.1 dX3_take_45 rfl (lv_at hl3 1 rfl) ?_
  refine x_get (pc := 46) (T := TX3) (N := 6) (ci := 3) (v := .ref (mr 11)) E hw9 inX3 6 3 q_354 rfl rfl (by decide) rfl rfl dX3_take_46 ?_
  refine lv_iconst (pc := 49) (v := 0) E.1 E.2.1 dX3_take_49 (by decide +kernel) ?_
  refine lv_aload_n (pc := 50) E.1 E.2.1 dX3_take_50 rfl (lv_at hl3 0 rfl) ?_
  refine x_get (pc := 51) (T := TX3) (N := 6) (ci := 3) (v := .ref (mr 4)) E hw9 inX3 0 3 q_354 rfl rfl (by decide) rfl rfl dX3_take_51 ?_
  refine lv_iconst (pc := 54) (v := 0) E.1 E.2.1 dX3_take_54 (by decide +kernel) ?_
  refine lv_bipush (pc := 55) (v := 10) E.1 E.2.1 dX3_take_55 (by decide +kernel) ?_
  refine x_copyG (pc := 57) (N := 10) (wf := fun g => (WZ_Needs2 cI cJ mr mi (va_up (va_up (va_up (va_up mf 1 g_4) 2 g_6) 3 g_8) 4 g) mg)) E hw9 hl3.1 q_977 q_967 q_966 q_169 10 4 rfl rfl (by decide +kernel) (by decide +kernel) (Nat.le_of_ble_eq_true rfl) (Nat.le_of_ble_eq_true rfl) (fun _ => rfl) (Nat.le_of_ble_eq_true rfl) (Nat.le_of_ble_eq_true rfl) dX3_take_57 (fun g_10 H locs eg_10 hw11 => ?_)
  refine lv_aload_n (pc := 60) E.1 E.2.1 dX3_take_60 rfl (lv_at hl3 1 rfl) ?_
  refine x_get (pc := 61) (T := TX3) (N := 6) (ci := 3) (v := .ref (mr 12)) E hw11 inX3 6 4 q_358 rfl rfl (by decide) rfl rfl dX3_take_61 ?_
  refine lv_iconst (pc := 64) (v := 0) E.1 E.2.1 dX3_take_64 (by decide +kernel) ?_
  refine lv_aload_n (pc := 65) E.1 E.2.1 dX3_take_65 rfl (lv_at hl3 0 rfl) ?_
  refine x_get (pc := 66) (T := TX3) (N := 6) (ci := 3) (v := .ref (mr 5)) E hw11 inX3 0 4 q_358 rfl rfl (by decide) rfl rfl dX3_take_66 ?_
  refine lv_iconst (pc := 69) (v := 0) E.1 E.2.1 dX3_take_69 (by decide +kernel) ?_
  refine lv_bipush (pc := 70) (v := 10) E.1 E.2.1 dX3_take_70 (by decide +kernel) ?_
  refine x_copyG (pc := 72) (N := 10) (wf := fun g => (WZ_Needs2 cI cJ mr mi (va_up (va_up (va_up (va_up (va_up mf 1 g_4) 2 g_6) 3 g_8) 4 g_10) 5 g) mg)) E hw11 hl3.1 q_977 q_967 q_966 q_169 11 5 rfl rfl (by decide +kernel) (by decide +kernel) (Nat.le_of_ble_eq_true rfl) (Nat.le_of_ble_eq_true rfl) (fun _ => rfl) (Nat.le_of_ble_eq_true rfl) (Nat.le_of_ble_eq_true rfl) dX3_take_72 (fun g_12 H locs eg_12 hw13 => ?_)
  refine lv_aload_n (pc := 75) E.1 E.2.1 dX3_take_75 rfl (lv_at hl3 0 rfl) ?_
  refine lv_aload_n (pc := 76) E.1 E.2.1 dX3_take_76 rfl (lv_at hl3 1 rfl) ?_
  refine x_get (pc := 77) (T := TX3) (N := 6) (ci := 3) (v := .int (mi 13)) E hw13 inX3 6 5 q_361 rfl rfl (by decide) rfl rfl dX3_take_77 ?_
  refine x_put (pc := 80) (T := TX3) (N := 6) (ci := 3) (ws' := (WZ_Needs2 cI cJ mr (upd mi 6 (mi 13)) (va_up (va_up (va_up (va_up (va_up mf 1 g_4) 2 g_6) 3 g_8) 4 g_10) 5 g_12) mg)) E hw13 inX3 tyX3_ok nmX3 0 5 q_361 rfl rfl (by decide) rfl rfl rfl rfl (Nat.le_of_ble_eq_true rfl) rfl dX3_take_80 (fun H locs hw14 => ?_)
  exact em_v (w1 := (fun (u : (Nat → Int32) × (Nat → Int32) × (Nat → Int32) × (Nat → Int32) × (Nat → Int32) × Int32) => (WZ_Needs2 cI cJ mr (upd mi 6 u.2.2.2.2.2) (va_up (va_up (va_up (va_up (va_up mf 1 u.1) 2 u.2.1) 3 u.2.2.1) 4 u.2.2.2.1) 5 u.2.2.2.2.1) mg))) E hr hlk (g_4, g_6, g_8, g_10, g_12, (mi 13)) hw14 rfl (Nat.le_of_ble_eq_true rfl) (Nat.le_of_ble_eq_true rfl) dX3_take_83
set_option maxHeartbeats 4000000 in
set_option maxRecDepth 100000 in
theorem t_isOpen (l : Launch) (D : va_G) (cI cJ : ClassId) (sz : Nat) (mr : Nat → Nat) (mi : Nat → Int32) (mf : Nat → Nat → Int32) (mg : Nat → Nat → Int64) (z_i : Int32) (h0 : 0 ≤ z_i.toInt ∧ z_i.toInt ≤ 9) : Met l yX3_isOpen (Cond.code yX3_isOpen cX3_isOpen 4 (some .boolean) :: GW) ({ frames := 1, cells := 0, slots := 0, locals := 40 } : Room) (va_Pc [.ref (mr 0), .int z_i, .ref (mr 7)] (PW D cI cJ sz (WZ_NeedsNow cI cJ mr mi mf mg) xT)) (va_Qi (fun (r : Int32) (u : Unit) => (0 ≤ r.toInt) ∧ (r.toInt ≤ 1)) (fun u => QW D cI cJ (va_A (WZ_NeedsNow cI cJ mr mi mf mg) sz) ((fun (u : Unit) => (WZ_NeedsNow cI cJ mr mi mf mg)) u)) (va_A (WZ_NeedsNow cI cJ mr mi mf mg) sz)) 0 0 (va_A (WZ_NeedsNow cI cJ mr mi mf mg) sz) := by
  refine mk_met (y := yX3_isOpen) (bytes := cX3_isOpen) (maxL := 4) (avs := [.ref (mr 0), .int z_i, .ref (mr 7)]) (WS := (WZ_NeedsNow cI cJ mr mi mf mg)) (Qf := fun A => va_Qi (fun (r : Int32) (u : Unit) => (0 ≤ r.toInt) ∧ (r.toInt ≤ 1)) (fun u => QW D cI cJ A ((fun (u : Unit) => (WZ_NeedsNow cI cJ mr mi mf mg)) u)) A) (by decide) (Nat.le_of_ble_eq_true rfl) ?_
  intro p e s m below meth c A ls E hr hlk hnm hX hw1 hl2
  have hl3 : lv_has ls 4 [(0, .ref (mr 0)), (1, .int z_i), (2, .ref (mr 7))] := hl2
  refine lv_aload_n (pc := 0) E.1 E.2.1 dX3_isOpen_0 rfl (lv_at hl3 2 rfl) ?_
  refine x_get (pc := 1) (T := TX4) (N := 12) (ci := 4) (v := .ref (mr 12)) E hw1 inX4 6 4 q_205 rfl rfl (by decide) rfl rfl dX3_isOpen_1 ?_
  refine lv_iload_n (pc := 4) E.1 E.2.1 dX3_isOpen_4 rfl (lv_at hl3 1 rfl) ?_
  refine x_iald (pc := 5) (f := (mf 12)) E hw1 11 rfl (inbE (a := z_i.toInt) rfl (by omega)) dX3_isOpen_5 ?_
  refine lv_topi (fun v_4 ev_4 => ?_)
  refine lv_iconst (pc := 6) (v := (-1)) E.1 E.2.1 dX3_isOpen_6 (by decide +kernel) ?_
  refine lv_icmp_ne (pc := 7) (tgt := 22) E.1 E.2.1 dX3_isOpen_7 (by decide) (fun c_5 => ?_) (fun c_5 => ?_)
  · skip
    have hc_5 := neE (a := v_4.toInt) (b := (-1)) rfl (by decide +kernel) c_5
    refine lv_iconst (pc := 22) (v := 1) E.1 E.2.1 dX3_isOpen_22 (by decide +kernel) ?_
    refine lv_goto (pc := 23) (tgt := 27) E.1 E.2.1 dX3_isOpen_23 (by decide) ?_
    refine lv_istore_n (pc := 27) (lv' := [(3, .int 1), (0, .ref (mr 0)), (1, .int z_i), (2, .ref (mr 7))]) E.1 E.2.1 dX3_isOpen_27 rfl hl3 (by decide) rfl (fun ls hl6 => ?_)
    refine lv_iload_n (pc := 28) E.1 E.2.1 dX3_isOpen_28 rfl (lv_at hl6 0 rfl) ?_
    refine lv_if_ne (pc := 29) (tgt := 62) E.1 E.2.1 dX3_isOpen_29 (by decide) (fun _ => ?_) (fun c_7 => absurd c_7 (mneE (a := 1) (b := 0) (by decide +kernel) (by decide +kernel) (by omega)))
    refine lv_iconst (pc := 62) (v := 0) E.1 E.2.1 dX3_isOpen_62 (by decide +kernel) ?_
    exact em_z (w1 := (fun (u : Unit) => (WZ_NeedsNow cI cJ mr mi mf mg))) E hr hlk () hw1 ⟨(by show 0 ≤ (0 : Int32).toInt; have k_0 : (0 : Int32).toInt = 0 := (by decide +kernel); omega), (by show (0 : Int32).toInt ≤ 1; have k_0 : (0 : Int32).toInt = 0 := (by decide +kernel); omega)⟩ (by decide +kernel) (Nat.le_of_ble_eq_true rfl) (Nat.le_of_ble_eq_true rfl) dX3_isOpen_63
  · skip
    have hc_5 := eqE (a := v_4.toInt) (b := (-1)) rfl (by decide +kernel) c_5
    refine lv_aload_n (pc := 10) E.1 E.2.1 dX3_isOpen_10 rfl (lv_at hl3 2 rfl) ?_
    refine x_get (pc := 11) (T := TX4) (N := 12) (ci := 4) (v := .int (mi 13)) E hw1 inX4 6 5 q_210 rfl rfl (by decide) rfl rfl dX3_isOpen_11 ?_
    refine lv_iload_n (pc := 14) E.1 E.2.1 dX3_isOpen_14 rfl (lv_at hl3 1 rfl) ?_
    refine lv_ishr (pc := 15) E.1 E.2.1 dX3_isOpen_15 ?_
    refine lv_topi (fun v_8 ev_8 => ?_)
    refine lv_iconst (pc := 16) (v := 1) E.1 E.2.1 dX3_isOpen_16 (by decide +kernel) ?_
    refine lv_iand (pc := 17) E.1 E.2.1 dX3_isOpen_17 ?_
    refine lv_topi (fun v_9 ev_9 => ?_)
    refine lv_iconst (pc := 18) (v := 1) E.1 E.2.1 dX3_isOpen_18 (by decide +kernel) ?_
    refine lv_icmp_ne (pc := 19) (tgt := 26) E.1 E.2.1 dX3_isOpen_19 (by decide) (fun c_10 => ?_) (fun c_10 => ?_)
    · skip
      have hc_10 := neE (a := v_9.toInt) (b := 1) rfl (by decide +kernel) c_10
      refine lv_iconst (pc := 26) (v := 0) E.1 E.2.1 dX3_isOpen_26 (by decide +kernel) ?_
      refine lv_istore_n (pc := 27) (lv' := [(3, .int 0), (0, .ref (mr 0)), (1, .int z_i), (2, .ref (mr 7))]) E.1 E.2.1 dX3_isOpen_27 rfl hl3 (by decide) rfl (fun ls hl11 => ?_)
      refine lv_iload_n (pc := 28) E.1 E.2.1 dX3_isOpen_28 rfl (lv_at hl11 0 rfl) ?_
      refine lv_if_ne (pc := 29) (tgt := 62) E.1 E.2.1 dX3_isOpen_29 (by decide) (fun c_12 => absurd (meqE (a := 0) (b := 0) (by decide +kernel) (by decide +kernel) (by omega)) c_12) (fun _ => ?_)
      refine lv_aload_n (pc := 32) E.1 E.2.1 dX3_isOpen_32 rfl (lv_at hl11 3 rfl) ?_
      refine x_get (pc := 33) (T := TX4) (N := 12) (ci := 4) (v := .int (mi 15)) E hw1 inX4 6 7 q_219 rfl rfl (by decide) rfl rfl dX3_isOpen_33 ?_
      refine lv_aload_n (pc := 36) E.1 E.2.1 dX3_isOpen_36 rfl (lv_at hl11 1 rfl) ?_
      refine x_get (pc := 37) (T := TX3) (N := 6) (ci := 3) (v := .ref (mr 3)) E hw1 inX3 0 2 q_351 rfl rfl (by decide) rfl rfl dX3_isOpen_37 ?_
      refine lv_iload_n (pc := 40) E.1 E.2.1 dX3_isOpen_40 rfl (lv_at hl11 2 rfl) ?_
      refine x_iald (pc := 41) (f := (mf 3)) E hw1 3 rfl (inbE (a := z_i.toInt) rfl (by omega)) dX3_isOpen_41 ?_
      refine lv_topi (fun v_13 ev_13 => ?_)
      refine lv_icmp_lt (pc := 42) (tgt := 62) E.1 E.2.1 dX3_isOpen_42 (by decide) (fun c_14 => ?_) (fun c_14 => ?_)
      · skip
        have hc_14 := ltE (a := (mi 15).toInt) (b := v_13.toInt) rfl rfl c_14
        refine lv_iconst (pc := 62) (v := 0) E.1 E.2.1 dX3_isOpen_62 (by decide +kernel) ?_
        exact em_z (w1 := (fun (u : Unit) => (WZ_NeedsNow cI cJ mr mi mf mg))) E hr hlk () hw1 ⟨(by show 0 ≤ (0 : Int32).toInt; have k_0 : (0 : Int32).toInt = 0 := (by decide +kernel); omega), (by show (0 : Int32).toInt ≤ 1; have k_0 : (0 : Int32).toInt = 0 := (by decide +kernel); omega)⟩ (by decide +kernel) (Nat.le_of_ble_eq_true rfl) (Nat.le_of_ble_eq_true rfl) dX3_isOpen_63
      · skip
        have hc_14 := nltE (a := (mi 15).toInt) (b := v_13.toInt) rfl rfl c_14
        refine lv_aload_n (pc := 45) E.1 E.2.1 dX3_isOpen_45 rfl (lv_at hl11 3 rfl) ?_
        refine x_get (pc := 46) (T := TX4) (N := 12) (ci := 4) (v := .int (mi 15)) E hw1 inX4 6 7 q_219 rfl rfl (by decide) rfl rfl dX3_isOpen_46 ?_
        refine lv_aload_n (pc := 49) E.1 E.2.1 dX3_isOpen_49 rfl (lv_at hl11 1 rfl) ?_
        refine x_get (pc := 50) (T := TX3) (N := 6) (ci := 3) (v := .ref (mr 4)) E hw1 inX3 0 3 q_354 rfl rfl (by decide) rfl rfl dX3_isOpen_50 ?_
        refine lv_iload_n (pc := 53) E.1 E.2.1 dX3_isOpen_53 rfl (lv_at hl11 2 rfl) ?_
        refine x_iald (pc := 54) (f := (mf 4)) E hw1 4 rfl (inbE (a := z_i.toInt) rfl (by omega)) dX3_isOpen_54 ?_
        refine lv_topi (fun v_15 ev_15 => ?_)
        refine lv_icmp_gt (pc := 55) (tgt := 62) E.1 E.2.1 dX3_isOpen_55 (by decide) (fun c_16 => ?_) (fun c_16 => ?_)
        · skip
          have hc_16 := ltE (a := v_15.toInt) (b := (mi 15).toInt) rfl rfl c_16
          refine lv_iconst (pc := 62) (v := 0) E.1 E.2.1 dX3_isOpen_62 (by decide +kernel) ?_
          exact em_z (w1 := (fun (u : Unit) => (WZ_NeedsNow cI cJ mr mi mf mg))) E hr hlk () hw1 ⟨(by show 0 ≤ (0 : Int32).toInt; have k_0 : (0 : Int32).toInt = 0 := (by decide +kernel); omega), (by show (0 : Int32).toInt ≤ 1; have k_0 : (0 : Int32).toInt = 0 := (by decide +kernel); omega)⟩ (by decide +kernel) (Nat.le_of_ble_eq_true rfl) (Nat.le_of_ble_eq_true rfl) dX3_isOpen_63
        · skip
          have hc_16 := nltE (a := v_15.toInt) (b := (mi 15).toInt) rfl rfl c_16
          refine lv_iconst (pc := 58) (v := 1) E.1 E.2.1 dX3_isOpen_58 (by decide +kernel) ?_
          refine lv_goto (pc := 59) (tgt := 63) E.1 E.2.1 dX3_isOpen_59 (by decide) ?_
          exact em_z (w1 := (fun (u : Unit) => (WZ_NeedsNow cI cJ mr mi mf mg))) E hr hlk () hw1 ⟨(by show 0 ≤ (1 : Int32).toInt; have k_0 : (1 : Int32).toInt = 1 := (by decide +kernel); omega), (by show (1 : Int32).toInt ≤ 1; have k_0 : (1 : Int32).toInt = 1 := (by decide +kernel); omega)⟩ (by decide +kernel) (Nat.le_of_ble_eq_true rfl) (Nat.le_of_ble_eq_true rfl) dX3_isOpen_63
    · skip
      have hc_10 := eqE (a := v_9.toInt) (b := 1) rfl (by decide +kernel) c_10
      refine lv_iconst (pc := 22) (v := 1) E.1 E.2.1 dX3_isOpen_22 (by decide +kernel) ?_
      refine lv_goto (pc := 23) (tgt := 27) E.1 E.2.1 dX3_isOpen_23 (by decide) ?_
      refine lv_istore_n (pc := 27) (lv' := [(3, .int 1), (0, .ref (mr 0)), (1, .int z_i), (2, .ref (mr 7))]) E.1 E.2.1 dX3_isOpen_27 rfl hl3 (by decide) rfl (fun ls hl17 => ?_)
      refine lv_iload_n (pc := 28) E.1 E.2.1 dX3_isOpen_28 rfl (lv_at hl17 0 rfl) ?_
      refine lv_if_ne (pc := 29) (tgt := 62) E.1 E.2.1 dX3_isOpen_29 (by decide) (fun _ => ?_) (fun c_18 => absurd c_18 (mneE (a := 1) (b := 0) (by decide +kernel) (by decide +kernel) (by omega)))
      refine lv_iconst (pc := 62) (v := 0) E.1 E.2.1 dX3_isOpen_62 (by decide +kernel) ?_
      exact em_z (w1 := (fun (u : Unit) => (WZ_NeedsNow cI cJ mr mi mf mg))) E hr hlk () hw1 ⟨(by show 0 ≤ (0 : Int32).toInt; have k_0 : (0 : Int32).toInt = 0 := (by decide +kernel); omega), (by show (0 : Int32).toInt ≤ 1; have k_0 : (0 : Int32).toInt = 0 := (by decide +kernel); omega)⟩ (by decide +kernel) (Nat.le_of_ble_eq_true rfl) (Nat.le_of_ble_eq_true rfl) dX3_isOpen_63
set_option maxHeartbeats 4000000 in
set_option maxRecDepth 100000 in
theorem t_openWorth (l : Launch) (D : va_G) (cI cJ : ClassId) (sz : Nat) (mr : Nat → Nat) (mi : Nat → Int32) (mf : Nat → Nat → Int32) (mg : Nat → Nat → Int64) (z_house : Int32) (h0 : 0 ≤ (mi 6).toInt ∧ (mi 6).toInt ≤ 10) : Met l yX3_openWorth (Cond.code yX3_openWorth cX3_openWorth 5 (some .int) :: GW) ({ frames := 2, cells := 0, slots := 0, locals := 63 } : Room) (va_Pc [.ref (mr 0), .int z_house, .ref (mr 7)] (PW D cI cJ sz (WZ_NeedsNow cI cJ mr mi mf mg) xT)) (va_Qi (fun (r : Int32) (u : Unit) => True) (fun u => QW D cI cJ (va_A (WZ_NeedsNow cI cJ mr mi mf mg) sz) ((fun (u : Unit) => (WZ_NeedsNow cI cJ mr mi mf mg)) u)) (va_A (WZ_NeedsNow cI cJ mr mi mf mg) sz)) 0 0 (va_A (WZ_NeedsNow cI cJ mr mi mf mg) sz) := by
  refine mk_met (y := yX3_openWorth) (bytes := cX3_openWorth) (maxL := 5) (avs := [.ref (mr 0), .int z_house, .ref (mr 7)]) (WS := (WZ_NeedsNow cI cJ mr mi mf mg)) (Qf := fun A => va_Qi (fun (r : Int32) (u : Unit) => True) (fun u => QW D cI cJ A ((fun (u : Unit) => (WZ_NeedsNow cI cJ mr mi mf mg)) u)) A) (by decide) (Nat.le_of_ble_eq_true rfl) ?_
  intro p e s m below meth c A ls E hr hlk hnm hX hw1 hl2
  have hl3 : lv_has ls 5 [(0, .ref (mr 0)), (1, .int z_house), (2, .ref (mr 7))] := hl2
  refine lv_iconst (pc := 0) (v := 0) E.1 E.2.1 dX3_openWorth_0 (by decide +kernel) ?_
  refine lv_istore_n (pc := 1) (lv' := [(3, .int 0), (0, .ref (mr 0)), (1, .int z_house), (2, .ref (mr 7))]) E.1 E.2.1 dX3_openWorth_1 rfl hl3 (by decide) rfl (fun ls hl4 => ?_)
  refine lv_iconst (pc := 2) (v := 0) E.1 E.2.1 dX3_openWorth_2 (by decide +kernel) ?_
  refine lv_istore (pc := 3) (lv' := [(4, .int 0), (3, .int 0), (0, .ref (mr 0)), (1, .int z_house), (2, .ref (mr 7))]) E.1 E.2.1 dX3_openWorth_3 hl4 (by decide) rfl (fun ls hl5 => ?_)
  have loop_6 : ∀ (k : Nat) (x_7 : Int32) (x_8 : Int32) (H : Heap) (locs : List Loc) (ls : Array Slot), (0 ≤ x_7.toInt) ∧ (x_7.toInt ≤ (mi 6).toInt) → (mi 6).toInt - x_7.toInt < (k : Int) → WD D A s.heap (WZ_NeedsNow cI cJ mr mi mf mg) H locs → lv_has ls 5 [(4, .int x_7), (3, .int x_8), (0, .ref (mr 0)), (1, .int z_house), (2, .ref (mr 7))] → W p l e ({ frames := 2, cells := 0, slots := 0, locals := 63 } : Room) s m ([.ref (mr 0), .int z_house, .ref (mr 7)] : List Value).toArray below meth c H locs 0 0 (MQ below (va_Qi (fun (r : Int32) (u : Unit) => True) (fun u => QW D cI cJ A ((fun (u : Unit) => (WZ_NeedsNow cI cJ mr mi mf mg)) u)) A) ([.ref (mr 0), .int z_house, .ref (mr 7)] : List Value).toArray s 0 0 A) (F0 m 5 ls []) := by
    intro k
    induction k with
    | zero =>
      intro x_7 x_8 _ _ _ hinv hm
      obtain ⟨hi_8_0, hi_8_1⟩ := hinv
      exact absurd hm (by omega)
    | succ k ih_9 =>
      intro x_7 x_8 H locs ls hinv hm hw10 hl11
      obtain ⟨hi_8_0, hi_8_1⟩ := hinv
      refine lv_iload (pc := 5) E.1 E.2.1 dX3_openWorth_5 (lv_at hl11 0 rfl) ?_
      refine lv_aload_n (pc := 7) E.1 E.2.1 dX3_openWorth_7 rfl (lv_at hl11 2 rfl) ?_
      refine x_get (pc := 8) (T := TX3) (N := 6) (ci := 3) (v := .int (mi 6)) E hw10 inX3 0 5 q_361 rfl rfl (by decide) rfl rfl dX3_openWorth_8 ?_
      refine lv_icmp_ge (pc := 11) (tgt := 51) E.1 E.2.1 dX3_openWorth_11 (by decide) (fun c_12 => ?_) (fun c_12 => ?_)
      · skip
        have hc_12 := leE (a := (mi 6).toInt) (b := x_7.toInt) rfl rfl c_12
        refine lv_iload_n (pc := 51) E.1 E.2.1 dX3_openWorth_51 rfl (lv_at hl11 1 rfl) ?_
        exact em_i (w1 := (fun (u : Unit) => (WZ_NeedsNow cI cJ mr mi mf mg))) E hr hlk () hw10 trivial (Nat.le_of_ble_eq_true rfl) (Nat.le_of_ble_eq_true rfl) dX3_openWorth_52
      · skip
        have hc_12 := nleE (a := (mi 6).toInt) (b := x_7.toInt) rfl rfl c_12
        refine lv_aload_n (pc := 14) E.1 E.2.1 dX3_openWorth_14 rfl (lv_at hl11 2 rfl) ?_
        refine x_get (pc := 15) (T := TX3) (N := 6) (ci := 3) (v := .ref (mr 2)) E hw10 inX3 0 1 q_347 rfl rfl (by decide) rfl rfl dX3_openWorth_15 ?_
        refine lv_iload (pc := 18) E.1 E.2.1 dX3_openWorth_18 (lv_at hl11 0 rfl) ?_
        refine x_iald (pc := 20) (f := (mf 2)) E hw10 2 rfl (inbE (a := x_7.toInt) rfl (by omega)) dX3_openWorth_20 ?_
        refine lv_topi (fun v_13 ev_13 => ?_)
        refine lv_iload_n (pc := 21) E.1 E.2.1 dX3_openWorth_21 rfl (lv_at hl11 3 rfl) ?_
        refine lv_icmp_ne (pc := 22) (tgt := 45) E.1 E.2.1 dX3_openWorth_22 (by decide) (fun c_14 => ?_) (fun c_14 => ?_)
        · skip
          have hc_14 := neE (a := v_13.toInt) (b := z_house.toInt) rfl rfl c_14
          obtain ⟨v_15, ev_15⟩ : ∃ z : Int32, x_7 + Int32.ofInt (1) = z := ⟨_, rfl⟩
          have hv_15 : v_15.toInt = x_7.toInt + (1) := by rw [← ev_15]; exact incE rfl (by decide) (by omega)
          refine lv_iinc (pc := 45) (v := v_15) (lv' := [(4, .int v_15), (3, .int x_8), (0, .ref (mr 0)), (1, .int z_house), (2, .ref (mr 7))]) E.1 E.2.1 dX3_openWorth_45 hl11 (k := 0) rfl ev_15 (by decide) rfl (fun ls hl16 => ?_)
          refine lv_goto (pc := 48) (tgt := 5) E.1 E.2.1 dX3_openWorth_48 (by decide) ?_
          exact ih_9 v_15 x_8 _ _ _ ⟨(by show 0 ≤ v_15.toInt; omega), (by show v_15.toInt ≤ (mi 6).toInt; omega)⟩ (by omega) hw10 (lv_sub hl16 [0, 1, 2, 3, 4] rfl)
        · skip
          have hc_14 := eqE (a := v_13.toInt) (b := z_house.toInt) rfl rfl c_14
          refine lv_aload_n (pc := 25) E.1 E.2.1 dX3_openWorth_25 rfl (lv_at hl11 2 rfl) ?_
          refine lv_iload (pc := 26) E.1 E.2.1 dX3_openWorth_26 (lv_at hl11 0 rfl) ?_
          refine lv_aload_n (pc := 28) E.1 E.2.1 dX3_openWorth_28 rfl (lv_at hl11 4 rfl) ?_
          refine ck_i (pc := 29) (ws' := (fun (u : Unit) => (WZ_NeedsNow cI cJ mr mi mf mg))) [true, true, true, true, true, true, true, true, true, true, true, true] hw10 rfl (fun hC_ => (rn_V (As := [.int x_7, .ref (mr 7)]) (rest := []) E hw10 (t_isOpen l D cI cJ _ mr mi mf mg x_7 (by show 0 ≤ x_7.toInt ∧ x_7.toInt ≤ 9; omega)) (gdV q_1044 q_1045 q_1046 q_156 q_1047) hdV_X3_isOpen ⟨rfl, rfl⟩ ⟨(Nat.le_of_ble_eq_true rfl), (Nat.le_of_ble_eq_true rfl)⟩ ⟨(Nat.le_of_ble_eq_true rfl), (Nat.le_of_ble_eq_true rfl)⟩ xT_b xT_at 0 3 rfl rfl rfl _ hC_ (nd_T _ 0) rfl hl11.1 rfl (Nat.le_of_ble_eq_true rfl) dX3_openWorth_29)) rfl (fun _ => rfl) (fun _ => rfl) (fun r_18 u_17 H1 locs hp hw19 => ?_)
          generalize H1 = H at hw19 ⊢
          have hw20 : WD D A s.heap (WZ_NeedsNow cI cJ mr mi mf mg) H locs := hw19
          obtain ⟨hp_21, hp_22⟩ := hp
          have hp_21 : 0 ≤ r_18.toInt := hp_21
          have hp_22 : r_18.toInt ≤ 1 := hp_22
          refine lv_if_eq (pc := 32) (tgt := 45) E.1 E.2.1 dX3_openWorth_32 (by decide) (fun c_23 => ?_) (fun c_23 => ?_)
          · skip
            have hc_23 := eqE (a := r_18.toInt) (b := 0) rfl (by decide +kernel) c_23
            obtain ⟨v_24, ev_24⟩ : ∃ z : Int32, x_7 + Int32.ofInt (1) = z := ⟨_, rfl⟩
            have hv_24 : v_24.toInt = x_7.toInt + (1) := by rw [← ev_24]; exact incE rfl (by decide) (by omega)
            refine lv_iinc (pc := 45) (v := v_24) (lv' := [(4, .int v_24), (3, .int x_8), (0, .ref (mr 0)), (1, .int z_house), (2, .ref (mr 7))]) E.1 E.2.1 dX3_openWorth_45 hl11 (k := 0) rfl ev_24 (by decide) rfl (fun ls hl25 => ?_)
            refine lv_goto (pc := 48) (tgt := 5) E.1 E.2.1 dX3_openWorth_48 (by decide) ?_
            exact ih_9 v_24 x_8 _ _ _ ⟨(by show 0 ≤ v_24.toInt; omega), (by show v_24.toInt ≤ (mi 6).toInt; omega)⟩ (by omega) hw20 (lv_sub hl25 [0, 1, 2, 3, 4] rfl)
          · skip
            have hc_23 := neE (a := r_18.toInt) (b := 0) rfl (by decide +kernel) c_23
            refine lv_iload_n (pc := 35) E.1 E.2.1 dX3_openWorth_35 rfl (lv_at hl11 1 rfl) ?_
            refine lv_aload_n (pc := 36) E.1 E.2.1 dX3_openWorth_36 rfl (lv_at hl11 2 rfl) ?_
            refine x_get (pc := 37) (T := TX3) (N := 6) (ci := 3) (v := .ref (mr 5)) E hw20 inX3 0 4 q_358 rfl rfl (by decide) rfl rfl dX3_openWorth_37 ?_
            refine lv_iload (pc := 40) E.1 E.2.1 dX3_openWorth_40 (lv_at hl11 0 rfl) ?_
            refine x_iald (pc := 42) (f := (mf 5)) E hw20 5 rfl (inbE (a := x_7.toInt) rfl (by omega)) dX3_openWorth_42 ?_
            refine lv_topi (fun v_26 ev_26 => ?_)
            refine lv_iadd (pc := 43) E.1 E.2.1 dX3_openWorth_43 ?_
            refine lv_topi (fun v_27 ev_27 => ?_)
            refine lv_istore_n (pc := 44) (lv' := [(3, .int v_27), (4, .int x_7), (0, .ref (mr 0)), (1, .int z_house), (2, .ref (mr 7))]) E.1 E.2.1 dX3_openWorth_44 rfl hl11 (by decide) rfl (fun ls hl28 => ?_)
            obtain ⟨v_29, ev_29⟩ : ∃ z : Int32, x_7 + Int32.ofInt (1) = z := ⟨_, rfl⟩
            have hv_29 : v_29.toInt = x_7.toInt + (1) := by rw [← ev_29]; exact incE rfl (by decide) (by omega)
            refine lv_iinc (pc := 45) (v := v_29) (lv' := [(4, .int v_29), (3, .int v_27), (0, .ref (mr 0)), (1, .int z_house), (2, .ref (mr 7))]) E.1 E.2.1 dX3_openWorth_45 hl28 (k := 1) rfl ev_29 (by decide) rfl (fun ls hl30 => ?_)
            refine lv_goto (pc := 48) (tgt := 5) E.1 E.2.1 dX3_openWorth_48 (by decide) ?_
            exact ih_9 v_29 v_27 _ _ _ ⟨(by show 0 ≤ v_29.toInt; omega), (by show v_29.toInt ≤ (mi 6).toInt; omega)⟩ (by omega) hw20 (lv_sub hl30 [0, 1, 2, 3, 4] rfl)
  exact loop_6 (Int.toNat ((mi 6).toInt - 0) + 1) 0 0 _ _ _ ⟨(by show 0 ≤ (0 : Int32).toInt; have k_0 : (0 : Int32).toInt = 0 := (by decide +kernel); omega), (by show (0 : Int32).toInt ≤ (mi 6).toInt; have k_0 : (0 : Int32).toInt = 0 := (by decide +kernel); omega)⟩ (by have k_0 : (0 : Int32).toInt = 0 := (by decide +kernel); have k_1 : (0 : Int32).toInt = 0 := (by decide +kernel); omega) hw1 (lv_sub hl5 [0, 1, 2, 3, 4] rfl)
