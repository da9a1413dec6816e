set_option maxHeartbeats 4000000 in
set_option maxRecDepth 100000 in
theorem t_power (l : Launch) (D : va_G) (cI cJ : ClassId) (sz : Nat) (mr : Nat → Nat) (mi : Nat → Int32) (mf : Nat → Nat → Int32) (mg : Nat → Nat → Int64) (z_n : Int32) (h0 : 0 ≤ z_n.toInt ∧ z_n.toInt ≤ 9) : Met l yX6_power (Cond.code yX6_power cX6_power 4 (some .long) :: GW) ({ frames := 1, cells := 0, slots := 0, locals := 40 } : Room) (va_Pc [.int z_n] (PW D cI cJ sz (WZ_Ep cI cJ mr mi mf mg) xT)) (va_Ql (fun (r : Int64) (u : Unit) => (¬ r = 0)) (fun u => QW D cI cJ (va_A (WZ_Ep cI cJ mr mi mf mg) sz) ((fun (u : Unit) => (WZ_Ep cI cJ mr mi mf mg)) u)) (va_A (WZ_Ep cI cJ mr mi mf mg) sz)) 0 0 (va_A (WZ_Ep cI cJ mr mi mf mg) sz) := by
  refine mk_met (y := yX6_power) (bytes := cX6_power) (maxL := 4) (avs := [.int z_n]) (WS := (WZ_Ep cI cJ mr mi mf mg)) (Qf := fun A => va_Ql (fun (r : Int64) (u : Unit) => (¬ r = 0)) (fun u => QW D cI cJ A ((fun (u : Unit) => (WZ_Ep cI cJ mr mi mf mg)) u)) A) (by decide) (Nat.le_of_ble_eq_true rfl) ?_
  intro p e s m below meth c A ls E hr hlk hnm hX hw1 hl2
  have hl3 : lv_has ls 4 [(0, .int z_n)] := hl2
  refine lv_lconst (pc := 0) (v := 1) E.1 E.2.1 dX6_power_0 (by decide +kernel) ?_
  refine lv_lstore_n (pc := 1) (lv' := [(1, .long 1), (0, .int z_n)]) E.1 E.2.1 dX6_power_1 rfl hl3 (by decide) rfl (fun ls hl4 => ?_)
  refine lv_iconst (pc := 2) (v := 0) E.1 E.2.1 dX6_power_2 (by decide +kernel) ?_
  refine lv_istore_n (pc := 3) (lv' := [(3, .int 0), (1, .long 1), (0, .int z_n)]) E.1 E.2.1 dX6_power_3 rfl hl4 (by decide) rfl (fun ls hl5 => ?_)
  have loop_6 : ∀ (k : Nat) (x_7 : Int32) (w_8 : Int64) (H : Heap) (locs : List Loc) (ls : Array Slot), (0 ≤ x_7.toInt) ∧ (x_7.toInt ≤ z_n.toInt) ∧ (P10 (w_8 : Int64) x_7.toInt) → z_n.toInt - x_7.toInt < (k : Int) → WD D A s.heap (WZ_Ep cI cJ mr mi mf mg) H locs → lv_has ls 4 [(3, .int x_7), (1, .long w_8), (0, .int z_n)] → W p l e ({ frames := 1, cells := 0, slots := 0, locals := 40 } : Room) s m ([.int z_n] : List Value).toArray below meth c H locs 0 0 (MQ below (va_Ql (fun (r : Int64) (u : Unit) => (¬ r = 0)) (fun u => QW D cI cJ A ((fun (u : Unit) => (WZ_Ep cI cJ mr mi mf mg)) u)) A) ([.int z_n] : List Value).toArray s 0 0 A) (F0 m 4 ls []) := by
    intro k
    induction k with
    | zero =>
      intro x_7 w_8 _ _ _ hinv hm
      obtain ⟨hi_8_0, hi_8_1, hi_8_2⟩ := hinv
      exact absurd hm (by omega)
    | succ k ih_9 =>
      intro x_7 w_8 H locs ls hinv hm hw10 hl11
      obtain ⟨hi_8_0, hi_8_1, hi_8_2⟩ := hinv
      refine lv_iload_n (pc := 4) E.1 E.2.1 dX6_power_4 rfl (lv_at hl11 0 rfl) ?_
      refine lv_iload_n (pc := 5) E.1 E.2.1 dX6_power_5 rfl (lv_at hl11 2 rfl) ?_
      refine lv_icmp_ge (pc := 6) (tgt := 21) E.1 E.2.1 dX6_power_6 (by decide) (fun c_12 => ?_) (fun c_12 => ?_)
      · skip
        have hc_12 := leE (a := z_n.toInt) (b := x_7.toInt) rfl rfl c_12
        refine lv_lload_n (pc := 21) E.1 E.2.1 dX6_power_21 rfl (lv_at hl11 1 rfl) ?_
        exact em_l (w1 := (fun (u : Unit) => (WZ_Ep cI cJ mr mi mf mg))) E hr hlk () hw10 (show ¬ w_8 = 0 from (P10_ne hi_8_2 (by omega))) (Nat.le_of_ble_eq_true rfl) (Nat.le_of_ble_eq_true rfl) dX6_power_22
      · skip
        have hc_12 := nleE (a := z_n.toInt) (b := x_7.toInt) rfl rfl c_12
        refine lv_lload_n (pc := 9) E.1 E.2.1 dX6_power_9 rfl (lv_at hl11 1 rfl) ?_
        refine lv_ldc2 (pc := 10) (v := 10) E.1 E.2.1 E.2.2.2.1 (E.2.2.2.2.1 _ q_1211) dX6_power_10 ?_
        refine lv_lmul (pc := 13) E.1 E.2.1 dX6_power_13 ?_
        refine lv_topl (fun w_13 ew_13 => ?_)
        refine lv_lstore_n (pc := 14) (lv' := [(1, .long w_13), (3, .int x_7), (0, .int z_n)]) E.1 E.2.1 dX6_power_14 rfl hl11 (by decide) rfl (fun ls hl14 => ?_)
        obtain ⟨v_15, ev_15⟩ : ∃ z : Int32, x_7 + Int32.ofInt (1) = z := ⟨_, rfl⟩
        have hv_15 : v_15.toInt = x_7.toInt + (1) := by rw [← ev_15]; exact incE rfl (by decide) (by omega)
        refine lv_iinc (pc := 15) (v := v_15) (lv' := [(3, .int v_15), (1, .long w_13), (0, .int z_n)]) E.1 E.2.1 dX6_power_15 hl14 (k := 1) rfl ev_15 (by decide) rfl (fun ls hl16 => ?_)
        refine lv_goto (pc := 18) (tgt := 4) E.1 E.2.1 dX6_power_18 (by decide) ?_
        exact ih_9 v_15 w_13 _ _ _ ⟨(by show 0 ≤ v_15.toInt; omega), (by show v_15.toInt ≤ z_n.toInt; omega), (P10_step hi_8_2 ew_13 (by omega) (by omega))⟩ (by omega) hw10 (lv_sub hl16 [0, 1, 2] rfl)
  exact loop_6 (Int.toNat (z_n.toInt - 0) + 1) 0 1 _ _ _ ⟨(by show 0 ≤ (0 : Int32).toInt; have k_0 : (0 : Int32).toInt = 0 := (by decide +kernel); omega), (by show (0 : Int32).toInt ≤ z_n.toInt; have k_0 : (0 : Int32).toInt = 0 := (by decide +kernel); omega), (P10_0 (by decide +kernel))⟩ (by have k_0 : (0 : Int32).toInt = 0 := (by decide +kernel); omega) hw1 (lv_sub hl5 [0, 1, 2] rfl)
set_option maxHeartbeats 4000000 in
set_option maxRecDepth 100000 in
theorem t_way (l : Launch) (D : va_G) (cI cJ : ClassId) (sz : Nat) (mr : Nat → Nat) (mi : Nat → Int32) (mf : Nat → Nat → Int32) (mg : Nat → Nat → Int64)   : Met l yX6_way (Cond.code yX6_way cX6_way 1 (some .int) :: GW) ({ frames := 1, cells := 0, slots := 0, locals := 40 } : Room) (va_Pc [.ref (mr 0)] (PW D cI cJ sz (WZ_Plan cI cJ mr mi mf mg) xT)) (va_Qi (fun (r : Int32) (u : Unit) => True) (fun u => QW D cI cJ (va_A (WZ_Plan cI cJ mr mi mf mg) sz) ((fun (u : Unit) => (WZ_Plan cI cJ mr mi mf mg)) u)) (va_A (WZ_Plan cI cJ mr mi mf mg) sz)) 0 0 (va_A (WZ_Plan cI cJ mr mi mf mg) sz) := by
  refine mk_met (y := yX6_way) (bytes := cX6_way) (maxL := 1) (avs := [.ref (mr 0)]) (WS := (WZ_Plan cI cJ mr mi mf mg)) (Qf := fun A => va_Qi (fun (r : Int32) (u : Unit) => True) (fun u => QW D cI cJ A ((fun (u : Unit) => (WZ_Plan cI cJ mr mi mf mg)) u)) A) (by decide) (Nat.le_of_ble_eq_true rfl) ?_
  intro p e s m below meth c A ls E hr hlk hnm hX hw1 hl2
  have hl3 : lv_has ls 1 [(0, .ref (mr 0))] := hl2
  refine lv_aload_n (pc := 0) E.1 E.2.1 dX6_way_0 rfl (lv_at hl3 0 rfl) ?_
  refine x_get (pc := 1) (T := TX6) (N := 10) (ci := 6) (v := .long ((mg 3) 0)) E hw1 inX6 0 2 q_1164 rfl rfl (by decide) rfl rfl dX6_way_1 ?_
  refine lv_ldc2 (pc := 4) (v := 10000000000) E.1 E.2.1 E.2.2.2.1 (E.2.2.2.2.1 _ q_1229) dX6_way_4 ?_
  refine lv_ldiv (pc := 7) E.1 E.2.1 dX6_way_7 (by decide +kernel) ?_
  refine lv_topl (fun w_4 ew_4 => ?_)
  refine lv_l2i (pc := 8) E.1 E.2.1 dX6_way_8 rfl ?_
  refine lv_topi (fun v_5 ev_5 => ?_)
  exact em_i (w1 := (fun (u : Unit) => (WZ_Plan cI cJ mr mi mf mg))) E hr hlk () hw1 trivial (Nat.le_of_ble_eq_true rfl) (Nat.le_of_ble_eq_true rfl) dX6_way_9
set_option maxHeartbeats 4000000 in
set_option maxRecDepth 100000 in
theorem t_stop (l : Launch) (D : va_G) (cI cJ : ClassId) (sz : Nat) (mr : Nat → Nat) (mi : Nat → Int32) (mf : Nat → Nat → Int32) (mg : Nat → Nat → Int64) (z_k : Int32) (h0 : 0 ≤ z_k.toInt) (h1 : z_k.toInt + 1 ≤ (mi 1).toInt) (h2 : (mi 1).toInt ≤ 10) : Met l yX6_stop (Cond.code yX6_stop cX6_stop 2 (some .int) :: GW) ({ frames := 2, cells := 0, slots := 0, locals := 63 } : Room) (va_Pc [.ref (mr 0), .int z_k] (PW D cI cJ sz (WZ_Plan cI cJ mr mi mf mg) xT)) (va_Qi (fun (r : Int32) (u : Unit) => True) (fun u => QW D cI cJ (va_A (WZ_Plan cI cJ mr mi mf mg) sz) ((fun (u : Unit) => (WZ_Plan cI cJ mr mi mf mg)) u)) (va_A (WZ_Plan cI cJ mr mi mf mg) sz)) 0 0 (va_A (WZ_Plan cI cJ mr mi mf mg) sz) := by
  refine mk_met (y := yX6_stop) (bytes := cX6_stop) (maxL := 2) (avs := [.ref (mr 0), .int z_k]) (WS := (WZ_Plan cI cJ mr mi mf mg)) (Qf := fun A => va_Qi (fun (r : Int32) (u : Unit) => True) (fun u => QW D cI cJ A ((fun (u : Unit) => (WZ_Plan cI cJ mr mi mf mg)) u)) A) (by decide) (Nat.le_of_ble_eq_true rfl) ?_
  intro p e s m below meth c A ls E hr hlk hnm hX hw1 hl2
  have hl3 : lv_has ls 2 [(0, .ref (mr 0)), (1, .int z_k)] := hl2
  refine lv_aload_n (pc := 0) E.1 E.2.1 dX6_stop_0 rfl (lv_at hl3 0 rfl) ?_
  refine x_get (pc := 1) (T := TX6) (N := 10) (ci := 6) (v := .long ((mg 3) 0)) E hw1 inX6 0 2 q_1164 rfl rfl (by decide) rfl rfl dX6_stop_1 ?_
  refine lv_aload_n (pc := 4) E.1 E.2.1 dX6_stop_4 rfl (lv_at hl3 0 rfl) ?_
  refine x_get (pc := 5) (T := TX6) (N := 10) (ci := 6) (v := .int (mi 1)) E hw1 inX6 0 0 q_1160 rfl rfl (by decide) rfl rfl dX6_stop_5 ?_
  refine lv_iconst (pc := 8) (v := 1) E.1 E.2.1 dX6_stop_8 (by decide +kernel) ?_
  refine lv_isub (pc := 9) E.1 E.2.1 dX6_stop_9 ?_
  refine lv_topi (fun v_4 ev_4 => ?_)
  have hv_4 : v_4.toInt = (mi 1).toInt - 1 := by rw [ev_4]; exact subE rfl (by decide +kernel) (by omega)
  refine lv_iload_n (pc := 10) E.1 E.2.1 dX6_stop_10 rfl (lv_at hl3 1 rfl) ?_
  refine lv_isub (pc := 11) E.1 E.2.1 dX6_stop_11 ?_
  refine lv_topi (fun v_5 ev_5 => ?_)
  have hv_5 : v_5.toInt = v_4.toInt - z_k.toInt := by rw [ev_5]; exact subE rfl rfl (by omega)
  refine ck_l (pc := 12) (ws' := (fun (u : Unit) => (WZ_Plan cI cJ mr mi mf mg))) [false, false, false, false, false, false, false] hw1 rfl (fun hC_ => (rn_S (As := [.int v_5]) (rest := [.long ((mg 3) 0)]) E hw1 (t_power l D cI cJ _ mr mi mf mg v_5 (by show 0 ≤ v_5.toInt ∧ v_5.toInt ≤ 9; omega)) (gdS q_1208 q_1209 q_170 q_1210) hdV_X6_power ⟨rfl, rfl⟩ ⟨(Nat.le_of_ble_eq_true rfl), (Nat.le_of_ble_eq_true rfl)⟩ ⟨(Nat.le_of_ble_eq_true rfl), (Nat.le_of_ble_eq_true rfl)⟩ xT_b xT_at _ hC_ (nd_T _ 0) rfl hl3.1 rfl (Nat.le_of_ble_eq_true rfl) dX6_stop_12)) rfl (fun _ => rfl) (fun _ => rfl) (fun r_7 u_6 H1 locs hp hw8 => ?_)
  generalize H1 = H at hw8 ⊢
  have hw9 : WD D A s.heap (WZ_Plan cI cJ mr mi mf mg) H locs := hw8
  have hp_10 := hp
  have hp_10 : ¬ r_7 = 0 := hp_10
  refine lv_ldiv (pc := 15) E.1 E.2.1 dX6_stop_15 hp_10 ?_
  refine lv_topl (fun w_11 ew_11 => ?_)
  refine lv_ldc2 (pc := 16) (v := 10) E.1 E.2.1 E.2.2.2.1 (E.2.2.2.2.1 _ q_1211) dX6_stop_16 ?_
  refine lv_lrem (pc := 19) E.1 E.2.1 dX6_stop_19 (by decide +kernel) ?_
  refine lv_topl (fun w_12 ew_12 => ?_)
  refine lv_l2i (pc := 20) E.1 E.2.1 dX6_stop_20 rfl ?_
  refine lv_topi (fun v_13 ev_13 => ?_)
  exact em_i (w1 := (fun (u : Unit) => (WZ_Plan cI cJ mr mi mf mg))) E hr hlk () hw9 trivial (Nat.le_of_ble_eq_true rfl) (Nat.le_of_ble_eq_true rfl) dX6_stop_21
set_option maxHeartbeats 4000000 in
set_option maxRecDepth 100000 in
theorem t_lift (l : Launch) (D : va_G) (cI cJ : ClassId) (sz : Nat) (mr : Nat → Nat) (mi : Nat → Int32) (mf : Nat → Nat → Int32) (mg : Nat → Nat → Int64) (z_houses : Int32) (z_set : Int32) (h0 : 0 ≤ z_houses.toInt ∧ z_houses.toInt ≤ 10) (h1 : 0 ≤ z_set.toInt ∧ z_set.toInt ≤ 1023) : Met l yX6_lift (Cond.code yX6_lift cX6_lift 6 (some .boolean) :: GW) ({ frames := 1, cells := 0, slots := 0, locals := 40 } : Room) (va_Pc [.ref (mr 0), .int z_houses, .int z_set] (PW D cI cJ sz (WZ_Plan cI cJ mr mi mf mg) xT)) (va_Qi (fun (r : Int32) (u : (Nat → Int64) × (Nat → Int64)) => (0 ≤ r.toInt) ∧ (r.toInt ≤ 1)) (fun u => QW D cI cJ (va_A (WZ_Plan cI cJ mr mi mf mg) sz) ((fun (u : (Nat → Int64) × (Nat → Int64)) => (WZ_Plan cI cJ mr mi mf (va_up (va_up mg 4 u.1) 5 u.2))) u)) (va_A (WZ_Plan cI cJ mr mi mf mg) sz)) 0 0 (va_A (WZ_Plan cI cJ mr mi mf mg) sz) := by
  refine mk_met (y := yX6_lift) (bytes := cX6_lift) (maxL := 6) (avs := [.ref (mr 0), .int z_houses, .int z_set]) (WS := (WZ_Plan cI cJ mr mi mf mg)) (Qf := fun A => va_Qi (fun (r : Int32) (u : (Nat → Int64) × (Nat → Int64)) => (0 ≤ r.toInt) ∧ (r.toInt ≤ 1)) (fun u => QW D cI cJ A ((fun (u : (Nat → Int64) × (Nat → Int64)) => (WZ_Plan cI cJ mr mi mf (va_up (va_up mg 4 u.1) 5 u.2))) u)) A) (by decide) (Nat.le_of_ble_eq_true rfl) ?_
  intro p e s m below meth c A ls E hr hlk hnm hX hw1 hl2
  have hl3 : lv_has ls 6 [(0, .ref (mr 0)), (1, .int z_houses), (2, .int z_set)] := hl2
  refine lv_iconst (pc := 0) (v := 0) E.1 E.2.1 dX6_lift_0 (by decide +kernel) ?_
  refine lv_istore_n (pc := 1) (lv' := [(3, .int 0), (0, .ref (mr 0)), (1, .int z_houses), (2, .int z_set)]) E.1 E.2.1 dX6_lift_1 rfl hl3 (by decide) rfl (fun ls hl4 => ?_)
  refine lv_iload_n (pc := 2) E.1 E.2.1 dX6_lift_2 rfl (lv_at hl4 3 rfl) ?_
  refine lv_iload_n (pc := 3) E.1 E.2.1 dX6_lift_3 rfl (lv_at hl4 2 rfl) ?_
  refine lv_imul (pc := 4) E.1 E.2.1 dX6_lift_4 ?_
  refine lv_topi (fun v_5 ev_5 => ?_)
  have hbv_5 : 0 ≤ v_5.toInt ∧ v_5.toInt ≤ 10230 := by rw [ev_5]; exact mulB (a := 1023) (b := 10) (by omega) (by omega) (by decide)
  refine lv_istore (pc := 5) (lv' := [(4, .int v_5), (3, .int 0), (0, .ref (mr 0)), (1, .int z_houses), (2, .int z_set)]) E.1 E.2.1 dX6_lift_5 hl4 (by decide) rfl (fun ls hl6 => ?_)
  refine lv_iconst (pc := 7) (v := 0) E.1 E.2.1 dX6_lift_7 (by decide +kernel) ?_
  refine lv_istore (pc := 8) (lv' := [(5, .int 0), (4, .int v_5), (3, .int 0), (0, .ref (mr 0)), (1, .int z_houses), (2, .int z_set)]) E.1 E.2.1 dX6_lift_8 hl6 (by decide) rfl (fun ls hl7 => ?_)
  have loop_8 : ∀ (k : Nat) (x_9 : Int32) (x_10 : Int32) (g_11 : Nat → Int64) (g_12 : Nat → Int64) (H : Heap) (locs : List Loc) (ls : Array Slot), (0 ≤ x_9.toInt) ∧ (x_9.toInt ≤ z_houses.toInt) ∧ (0 ≤ x_10.toInt) ∧ (x_10.toInt ≤ 1) → z_houses.toInt - x_9.toInt < (k : Int) → WD D A s.heap (WZ_Plan cI cJ mr mi mf (va_up (va_up mg 4 g_11) 5 g_12)) H locs → lv_has ls 6 [(5, .int x_9), (4, .int v_5), (3, .int x_10), (0, .ref (mr 0)), (1, .int z_houses), (2, .int z_set)] → W p l e ({ frames := 1, cells := 0, slots := 0, locals := 40 } : Room) s m ([.ref (mr 0), .int z_houses, .int z_set] : List Value).toArray below meth c H locs 0 0 (MQ below (va_Qi (fun (r : Int32) (u : (Nat → Int64) × (Nat → Int64)) => (0 ≤ r.toInt) ∧ (r.toInt ≤ 1)) (fun u => QW D cI cJ A ((fun (u : (Nat → Int64) × (Nat → Int64)) => (WZ_Plan cI cJ mr mi mf (va_up (va_up mg 4 u.1) 5 u.2))) u)) A) ([.ref (mr 0), .int z_houses, .int z_set] : List Value).toArray s 0 0 A) (F0 m 10 ls []) := by
    intro k
    induction k with
    | zero =>
      intro x_9 x_10 g_11 g_12 _ _ _ hinv hm
      obtain ⟨hi_12_0, hi_12_1, hi_12_2, hi_12_3⟩ := hinv
      exact absurd hm (by omega)
    | succ k ih_13 =>
      intro x_9 x_10 g_11 g_12 H locs ls hinv hm hw14 hl15
      obtain ⟨hi_12_0, hi_12_1, hi_12_2, hi_12_3⟩ := hinv
      refine lv_iload (pc := 10) E.1 E.2.1 dX6_lift_10 (lv_at hl15 0 rfl) ?_
      refine lv_iload_n (pc := 12) E.1 E.2.1 dX6_lift_12 rfl (lv_at hl15 4 rfl) ?_
      refine lv_icmp_ge (pc := 13) (tgt := 76) E.1 E.2.1 dX6_lift_13 (by decide) (fun c_16 => ?_) (fun c_16 => ?_)
      · skip
        have hc_16 := leE (a := z_houses.toInt) (b := x_9.toInt) rfl rfl c_16
        refine lv_iload_n (pc := 76) E.1 E.2.1 dX6_lift_76 rfl (lv_at hl15 2 rfl) ?_
        exact em_z (w1 := (fun (u : (Nat → Int64) × (Nat → Int64)) => (WZ_Plan cI cJ mr mi mf (va_up (va_up mg 4 u.1) 5 u.2)))) E hr hlk (g_11, g_12) hw14 ⟨hi_12_2, hi_12_3⟩ (bool_nar (by omega)) (Nat.le_of_ble_eq_true rfl) (Nat.le_of_ble_eq_true rfl) dX6_lift_77
      · skip
        have hc_16 := nleE (a := z_houses.toInt) (b := x_9.toInt) rfl rfl c_16
        refine lv_aload_n (pc := 16) E.1 E.2.1 dX6_lift_16 rfl (lv_at hl15 3 rfl) ?_
        refine x_get (pc := 17) (T := TX6) (N := 10) (ci := 6) (v := .ref (mr 5)) E hw14 inX6 0 4 q_1166 rfl rfl (by decide) rfl rfl dX6_lift_17 ?_
        refine lv_iload (pc := 20) E.1 E.2.1 dX6_lift_20 (lv_at hl15 0 rfl) ?_
        refine lv_aload_n (pc := 22) E.1 E.2.1 dX6_lift_22 rfl (lv_at hl15 3 rfl) ?_
        refine x_get (pc := 23) (T := TX6) (N := 10) (ci := 6) (v := .ref (mr 4)) E hw14 inX6 0 3 q_1165 rfl rfl (by decide) rfl rfl dX6_lift_23 ?_
        refine lv_iload (pc := 26) E.1 E.2.1 dX6_lift_26 (lv_at hl15 1 rfl) ?_
        refine lv_iload (pc := 28) E.1 E.2.1 dX6_lift_28 (lv_at hl15 0 rfl) ?_
        refine lv_iadd (pc := 30) E.1 E.2.1 dX6_lift_30 ?_
        refine lv_topi (fun v_17 ev_17 => ?_)
        have hv_17 : v_17.toInt = v_5.toInt + x_9.toInt := by rw [ev_17]; exact addE rfl rfl (by omega)
        refine x_lald (pc := 31) (f := g_11) E hw14 1 rfl (inbE (a := v_17.toInt) rfl (by omega)) dX6_lift_31 (fun w_18 => ?_)
        refine x_lastO (pc := 32) (f := g_12) (wf := fun g => (WZ_Plan cI cJ mr mi mf (va_up (va_up mg 4 g_11) 5 g))) E hw14 2 rfl (inbE (a := x_9.toInt) rfl (by omega)) (fun _ => rfl) dX6_lift_32 (fun g_19 H locs hw20 => ?_)
        refine lv_aload_n (pc := 33) E.1 E.2.1 dX6_lift_33 rfl (lv_at hl15 3 rfl) ?_
        refine x_get (pc := 34) (T := TX6) (N := 10) (ci := 6) (v := .ref (mr 4)) E hw20 inX6 0 3 q_1165 rfl rfl (by decide) rfl rfl dX6_lift_34 ?_
        refine lv_iload (pc := 37) E.1 E.2.1 dX6_lift_37 (lv_at hl15 1 rfl) ?_
        refine lv_iload (pc := 39) E.1 E.2.1 dX6_lift_39 (lv_at hl15 0 rfl) ?_
        refine lv_iadd (pc := 41) E.1 E.2.1 dX6_lift_41 ?_
        refine lv_topi (fun v_21 ev_21 => ?_)
        have hv_21 : v_21.toInt = v_5.toInt + x_9.toInt := by rw [ev_21]; exact addE rfl rfl (by omega)
        refine lv_ldc2 (pc := 42) (v := (-1)) E.1 E.2.1 E.2.2.2.1 (E.2.2.2.2.1 _ q_1206) dX6_lift_42 ?_
        refine x_lastO (pc := 45) (f := g_11) (wf := fun g => (WZ_Plan cI cJ mr mi mf (va_up (va_up mg 4 g) 5 g_19))) E hw20 1 rfl (inbE (a := v_21.toInt) rfl (by omega)) (fun _ => rfl) dX6_lift_45 (fun g_22 H locs hw23 => ?_)
        refine lv_iload_n (pc := 46) E.1 E.2.1 dX6_lift_46 rfl (lv_at hl15 2 rfl) ?_
        refine lv_if_ne (pc := 47) (tgt := 64) E.1 E.2.1 dX6_lift_47 (by decide) (fun c_24 => ?_) (fun c_24 => ?_)
        · skip
          have hc_24 := neE (a := x_10.toInt) (b := 0) rfl (by decide +kernel) c_24
          refine lv_iconst (pc := 64) (v := 1) E.1 E.2.1 dX6_lift_64 (by decide +kernel) ?_
          refine lv_goto (pc := 65) (tgt := 69) E.1 E.2.1 dX6_lift_65 (by decide) ?_
          refine lv_istore_n (pc := 69) (lv' := [(3, .int 1), (5, .int x_9), (4, .int v_5), (0, .ref (mr 0)), (1, .int z_houses), (2, .int z_set)]) E.1 E.2.1 dX6_lift_69 rfl hl15 (by decide) rfl (fun ls hl25 => ?_)
          obtain ⟨v_26, ev_26⟩ : ∃ z : Int32, x_9 + Int32.ofInt (1) = z := ⟨_, rfl⟩
          have hv_26 : v_26.toInt = x_9.toInt + (1) := by rw [← ev_26]; exact incE rfl (by decide) (by omega)
          refine lv_iinc (pc := 70) (v := v_26) (lv' := [(5, .int v_26), (3, .int 1), (4, .int v_5), (0, .ref (mr 0)), (1, .int z_houses), (2, .int z_set)]) E.1 E.2.1 dX6_lift_70 hl25 (k := 1) rfl ev_26 (by decide) rfl (fun ls hl27 => ?_)
          refine lv_goto (pc := 73) (tgt := 10) E.1 E.2.1 dX6_lift_73 (by decide) ?_
          exact ih_13 v_26 1 g_22 g_19 _ _ _ ⟨(by show 0 ≤ v_26.toInt; omega), (by show v_26.toInt ≤ z_houses.toInt; omega), (by show 0 ≤ (1 : Int32).toInt; have k_0 : (1 : Int32).toInt = 1 := (by decide +kernel); omega), (by show (1 : Int32).toInt ≤ 1; have k_0 : (1 : Int32).toInt = 1 := (by decide +kernel); omega)⟩ (by have k_0 : (1 : Int32).toInt = 1 := (by decide +kernel); omega) hw23 (lv_sub hl27 [0, 2, 1, 3, 4, 5] rfl)
        · skip
          have hc_24 := eqE (a := x_10.toInt) (b := 0) rfl (by decide +kernel) c_24
          refine lv_aload_n (pc := 50) E.1 E.2.1 dX6_lift_50 rfl (lv_at hl15 3 rfl) ?_
          refine x_get (pc := 51) (T := TX6) (N := 10) (ci := 6) (v := .ref (mr 5)) E hw23 inX6 0 4 q_1166 rfl rfl (by decide) rfl rfl dX6_lift_51 ?_
          refine lv_iload (pc := 54) E.1 E.2.1 dX6_lift_54 (lv_at hl15 0 rfl) ?_
          refine x_lald (pc := 56) (f := g_19) E hw23 2 rfl (inbE (a := x_9.toInt) rfl (by omega)) dX6_lift_56 (fun w_28 => ?_)
          refine lv_ldc2 (pc := 57) (v := (-1)) E.1 E.2.1 E.2.2.2.1 (E.2.2.2.2.1 _ q_1206) dX6_lift_57 ?_
          refine W.lcmp (pc := 60) E.1 E.2.1 dX6_lift_60 ?_
          refine lv_topi (fun v_29 ev_29 => ?_)
          refine lv_if_eq (pc := 61) (tgt := 68) E.1 E.2.1 dX6_lift_61 (by decide) (fun c_30 => ?_) (fun c_30 => ?_)
          · skip
            have hc_30 := eqE (a := v_29.toInt) (b := 0) rfl (by decide +kernel) c_30
            refine lv_iconst (pc := 68) (v := 0) E.1 E.2.1 dX6_lift_68 (by decide +kernel) ?_
            refine lv_istore_n (pc := 69) (lv' := [(3, .int 0), (5, .int x_9), (4, .int v_5), (0, .ref (mr 0)), (1, .int z_houses), (2, .int z_set)]) E.1 E.2.1 dX6_lift_69 rfl hl15 (by decide) rfl (fun ls hl31 => ?_)
            obtain ⟨v_32, ev_32⟩ : ∃ z : Int32, x_9 + Int32.ofInt (1) = z := ⟨_, rfl⟩
            have hv_32 : v_32.toInt = x_9.toInt + (1) := by rw [← ev_32]; exact incE rfl (by decide) (by omega)
            refine lv_iinc (pc := 70) (v := v_32) (lv' := [(5, .int v_32), (3, .int 0), (4, .int v_5), (0, .ref (mr 0)), (1, .int z_houses), (2, .int z_set)]) E.1 E.2.1 dX6_lift_70 hl31 (k := 1) rfl ev_32 (by decide) rfl (fun ls hl33 => ?_)
            refine lv_goto (pc := 73) (tgt := 10) E.1 E.2.1 dX6_lift_73 (by decide) ?_
            exact ih_13 v_32 0 g_22 g_19 _ _ _ ⟨(by show 0 ≤ v_32.toInt; omega), (by show v_32.toInt ≤ z_houses.toInt; omega), (by show 0 ≤ (0 : Int32).toInt; have k_0 : (0 : Int32).toInt = 0 := (by decide +kernel); omega), (by show (0 : Int32).toInt ≤ 1; have k_0 : (0 : Int32).toInt = 0 := (by decide +kernel); omega)⟩ (by have k_0 : (0 : Int32).toInt = 0 := (by decide +kernel); omega) hw23 (lv_sub hl33 [0, 2, 1, 3, 4, 5] rfl)
          · skip
            have hc_30 := neE (a := v_29.toInt) (b := 0) rfl (by decide +kernel) c_30
            refine lv_iconst (pc := 64) (v := 1) E.1 E.2.1 dX6_lift_64 (by decide +kernel) ?_
            refine lv_goto (pc := 65) (tgt := 69) E.1 E.2.1 dX6_lift_65 (by decide) ?_
            refine lv_istore_n (pc := 69) (lv' := [(3, .int 1), (5, .int x_9), (4, .int v_5), (0, .ref (mr 0)), (1, .int z_houses), (2, .int z_set)]) E.1 E.2.1 dX6_lift_69 rfl hl15 (by decide) rfl (fun ls hl34 => ?_)
            obtain ⟨v_35, ev_35⟩ : ∃ z : Int32, x_9 + Int32.ofInt (1) = z := ⟨_, rfl⟩
            have hv_35 : v_35.toInt = x_9.toInt + (1) := by rw [← ev_35]; exact incE rfl (by decide) (by omega)
            refine lv_iinc (pc := 70) (v := v_35) (lv' := [(5, .int v_35), (3, .int 1), (4, .int v_5), (0, .ref (mr 0)), (1, .int z_houses), (2, .int z_set)]) E.1 E.2.1 dX6_lift_70 hl34 (k := 1) rfl ev_35 (by decide) rfl (fun ls hl36 => ?_)
            refine lv_goto (pc := 73) (tgt := 10) E.1 E.2.1 dX6_lift_73 (by decide) ?_
            exact ih_13 v_35 1 g_22 g_19 _ _ _ ⟨(by show 0 ≤ v_35.toInt; omega), (by show v_35.toInt ≤ z_houses.toInt; omega), (by show 0 ≤ (1 : Int32).toInt; have k_0 : (1 : Int32).toInt = 1 := (by decide +kernel); omega), (by show (1 : Int32).toInt ≤ 1; have k_0 : (1 : Int32).toInt = 1 := (by decide +kernel); omega)⟩ (by have k_0 : (1 : Int32).toInt = 1 := (by decide +kernel); omega) hw23 (lv_sub hl36 [0, 2, 1, 3, 4, 5] rfl)
  exact loop_8 (Int.toNat (z_houses.toInt - 0) + 1) 0 0 (mg 4) (mg 5) _ _ _ ⟨(by show 0 ≤ (0 : Int32).toInt; have k_0 : (0 : Int32).toInt = 0 := (by decide +kernel); omega), (by show (0 : Int32).toInt ≤ z_houses.toInt; have k_0 : (0 : Int32).toInt = 0 := (by decide +kernel); omega), (by show 0 ≤ (0 : Int32).toInt; have k_0 : (0 : Int32).toInt = 0 := (by decide +kernel); omega), (by show (0 : Int32).toInt ≤ 1; have k_0 : (0 : Int32).toInt = 0 := (by decide +kernel); omega)⟩ (by have k_0 : (0 : Int32).toInt = 0 := (by decide +kernel); have k_1 : (0 : Int32).toInt = 0 := (by decide +kernel); omega) hw1 (lv_sub hl7 [0, 1, 2, 3, 4, 5] rfl)
set_option maxHeartbeats 4000000 in
set_option maxRecDepth 100000 in
theorem t_goOn_n (l : Launch) (D : va_G) (cI cJ : ClassId) (sz : Nat) (mr : Nat → Nat) (mi : Nat → Int32) (mf : Nat → Nat → Int32) (mg : Nat → Nat → Int64) (z_houses : Int32) (z_set : Int32) (z_a : Int32) (z_digit : Int64) (h0 : 0 ≤ z_houses.toInt ∧ z_houses.toInt ≤ 10) (h1 : 0 ≤ z_set.toInt ∧ z_set.toInt ≤ 1023) (h2 : 0 ≤ z_a.toInt ∧ z_a.toInt ≤ 9) (a_served : s1k (mf 9)) (a_wed : s1k (mf 10)) : Met l yX6_goOn (Cond.code yX6_goOn cX6_goOn 14 none :: GW) ({ frames := 2, cells := 0, slots := 0, locals := 61 } : Room) (va_Pc [.ref (mr 0), .int z_houses, .int z_set, .int z_a, .null, .long z_digit] (PW D cI cJ sz (WZ_Plan cI cJ mr mi mf mg) xT)) (va_Qv (fun (u : (Nat → Int64)) => True) (fun u => QW D cI cJ (va_A (WZ_Plan cI cJ mr mi mf mg) sz) ((fun (u : (Nat → Int64)) => (WZ_Plan cI cJ mr mi mf (va_up mg 4 u))) u)) (va_A (WZ_Plan cI cJ mr mi mf mg) sz)) 0 0 (va_A (WZ_Plan cI cJ mr mi mf mg) sz) := by
  refine mk_met (y := yX6_goOn) (bytes := cX6_goOn) (maxL := 14) (avs := [.ref (mr 0), .int z_houses, .int z_set, .int z_a, .null, .long z_digit]) (WS := (WZ_Plan cI cJ mr mi mf mg)) (Qf := fun A => va_Qv (fun (u : (Nat → Int64)) => True) (fun u => QW D cI cJ A ((fun (u : (Nat → Int64)) => (WZ_Plan cI cJ mr mi mf (va_up mg 4 u))) u)) A) (by decide) (Nat.le_of_ble_eq_true rfl) ?_
  intro p e s m below meth c A ls E hr hlk hnm hX hw1 hl2
  have hl3 : lv_has ls 14 [(0, .ref (mr 0)), (1, .int z_houses), (2, .int z_set), (3, .int z_a), (4, .null), (5, .long z_digit)] := hl2
  refine lv_iconst (pc := 0) (v := 0) E.1 E.2.1 dX6_goOn_0 (by decide +kernel) ?_
  refine lv_istore (pc := 1) (lv' := [(7, .int 0), (0, .ref (mr 0)), (1, .int z_houses), (2, .int z_set), (3, .int z_a), (4, .null), (5, .long z_digit)]) E.1 E.2.1 dX6_goOn_1 hl3 (by decide) rfl (fun ls hl4 => ?_)
  have loop_5 : ∀ (k : Nat) (x_6 : Int32) (g_7 : Nat → Int64) (H : Heap) (locs : List Loc) (ls : Array Slot), (0 ≤ x_6.toInt) ∧ (x_6.toInt ≤ z_houses.toInt) → z_houses.toInt - x_6.toInt < (k : Int) → WD D A s.heap (WZ_Plan cI cJ mr mi mf (va_up mg 4 g_7)) H locs → lv_has ls 14 [(7, .int x_6), (0, .ref (mr 0)), (1, .int z_houses), (2, .int z_set), (3, .int z_a), (4, .null), (5, .long z_digit)] → W p l e ({ frames := 2, cells := 0, slots := 0, locals := 61 } : Room) s m ([.ref (mr 0), .int z_houses, .int z_set, .int z_a, .null, .long z_digit] : List Value).toArray below meth c H locs 0 0 (MQ below (va_Qv (fun (u : (Nat → Int64)) => True) (fun u => QW D cI cJ A ((fun (u : (Nat → Int64)) => (WZ_Plan cI cJ mr mi mf (va_up mg 4 u))) u)) A) ([.ref (mr 0), .int z_houses, .int z_set, .int z_a, .null, .long z_digit] : List Value).toArray s 0 0 A) (F0 m 3 ls []) := by
    intro k
    induction k with
    | zero =>
      intro x_6 g_7 _ _ _ hinv hm
      obtain ⟨hi_7_0, hi_7_1⟩ := hinv
      exact absurd hm (by omega)
    | succ k ih_8 =>
      intro x_6 g_7 H locs ls hinv hm hw9 hl10
      obtain ⟨hi_7_0, hi_7_1⟩ := hinv
      refine lv_iload (pc := 3) E.1 E.2.1 dX6_goOn_3 (lv_at hl10 0 rfl) ?_
      refine lv_iload_n (pc := 5) E.1 E.2.1 dX6_goOn_5 rfl (lv_at hl10 2 rfl) ?_
      refine lv_icmp_ge (pc := 6) (tgt := 157) E.1 E.2.1 dX6_goOn_6 (by decide) (fun c_11 => ?_) (fun c_11 => ?_)
      · skip
        have hc_11 := leE (a := z_houses.toInt) (b := x_6.toInt) rfl rfl c_11
        exact em_v (w1 := (fun (u : (Nat → Int64)) => (WZ_Plan cI cJ mr mi mf (va_up mg 4 u)))) E hr hlk g_7 hw9 trivial (Nat.le_of_ble_eq_true rfl) (Nat.le_of_ble_eq_true rfl) dX6_goOn_157
      · skip
        have hc_11 := nleE (a := z_houses.toInt) (b := x_6.toInt) rfl rfl c_11
        refine lv_aload_n (pc := 9) E.1 E.2.1 dX6_goOn_9 rfl (lv_at hl10 1 rfl) ?_
        refine x_get (pc := 10) (T := TX6) (N := 10) (ci := 6) (v := .ref (mr 6)) E hw9 inX6 0 5 q_1167 rfl rfl (by decide) rfl rfl dX6_goOn_10 ?_
        refine lv_iload_n (pc := 13) E.1 E.2.1 dX6_goOn_13 rfl (lv_at hl10 4 rfl) ?_
        refine lv_bipush (pc := 14) (v := 10) E.1 E.2.1 dX6_goOn_14 (by decide +kernel) ?_
        refine lv_imul (pc := 16) E.1 E.2.1 dX6_goOn_16 ?_
        refine lv_topi (fun v_12 ev_12 => ?_)
        have hv_12 : v_12.toInt = z_a.toInt * 10 := by rw [ev_12]; exact mulE rfl (by decide +kernel) (by omega)
        refine lv_iload (pc := 17) E.1 E.2.1 dX6_goOn_17 (lv_at hl10 0 rfl) ?_
        refine lv_iadd (pc := 19) E.1 E.2.1 dX6_goOn_19 ?_
        refine lv_topi (fun v_13 ev_13 => ?_)
        have hv_13 : v_13.toInt = v_12.toInt + x_6.toInt := by rw [ev_13]; exact addE rfl rfl (by omega)
        refine x_iald (pc := 20) (f := (mf 6)) E hw9 3 rfl (inbE (a := v_13.toInt) rfl (by omega)) dX6_goOn_20 ?_
        refine lv_topi (fun v_14 ev_14 => ?_)
        refine lv_istore (pc := 21) (lv' := [(8, .int v_14), (7, .int x_6), (0, .ref (mr 0)), (1, .int z_houses), (2, .int z_set), (3, .int z_a), (4, .null), (5, .long z_digit)]) E.1 E.2.1 dX6_goOn_21 hl10 (by decide) rfl (fun ls hl15 => ?_)
        refine lv_iload (pc := 23) E.1 E.2.1 dX6_goOn_23 (lv_at hl15 0 rfl) ?_
        refine lv_iconst (pc := 25) (v := (-1)) E.1 E.2.1 dX6_goOn_25 (by decide +kernel) ?_
        refine lv_icmp_eq (pc := 26) (tgt := 151) E.1 E.2.1 dX6_goOn_26 (by decide) (fun c_16 => ?_) (fun c_16 => ?_)
        · skip
          have hc_16 := eqE (a := v_14.toInt) (b := (-1)) rfl (by decide +kernel) c_16
          obtain ⟨v_17, ev_17⟩ : ∃ z : Int32, x_6 + Int32.ofInt (1) = z := ⟨_, rfl⟩
          have hv_17 : v_17.toInt = x_6.toInt + (1) := by rw [← ev_17]; exact incE rfl (by decide) (by omega)
          refine lv_iinc (pc := 151) (v := v_17) (lv' := [(7, .int v_17), (8, .int v_14), (0, .ref (mr 0)), (1, .int z_houses), (2, .int z_set), (3, .int z_a), (4, .null), (5, .long z_digit)]) E.1 E.2.1 dX6_goOn_151 hl15 (k := 1) rfl ev_17 (by decide) rfl (fun ls hl18 => ?_)
          refine lv_goto (pc := 154) (tgt := 3) E.1 E.2.1 dX6_goOn_154 (by decide) ?_
          exact ih_8 v_17 g_7 _ _ _ ⟨(by show 0 ≤ v_17.toInt; omega), (by show v_17.toInt ≤ z_houses.toInt; omega)⟩ (by omega) hw9 (lv_sub hl18 [0, 2, 3, 4, 5, 6, 7] rfl)
        · skip
          have hc_16 := neE (a := v_14.toInt) (b := (-1)) rfl (by decide +kernel) c_16
          refine lv_aloadN (pc := 29) E.1 E.2.1 dX6_goOn_29 (lv_at hl15 6 rfl) ?_
          refine lv_ifnullN (pc := 31) (tgt := 44) E.1 E.2.1 dX6_goOn_31 (by decide) ?_
          refine lv_iload_n (pc := 44) E.1 E.2.1 dX6_goOn_44 rfl (lv_at hl15 5 rfl) ?_
          refine lv_iload (pc := 45) E.1 E.2.1 dX6_goOn_45 (lv_at hl15 1 rfl) ?_
          refine lv_icmp_ne (pc := 47) (tgt := 54) E.1 E.2.1 dX6_goOn_47 (by decide) (fun c_19 => ?_) (fun c_19 => ?_)
          · skip
            have hc_19 := neE (a := z_a.toInt) (b := x_6.toInt) rfl rfl c_19
            refine lv_iconst (pc := 54) (v := 0) E.1 E.2.1 dX6_goOn_54 (by decide +kernel) ?_
            refine lv_istore (pc := 55) (lv' := [(9, .int 0), (8, .int v_14), (7, .int x_6), (0, .ref (mr 0)), (1, .int z_houses), (2, .int z_set), (3, .int z_a), (4, .null), (5, .long z_digit)]) E.1 E.2.1 dX6_goOn_55 hl15 (by decide) rfl (fun ls hl20 => ?_)
            refine lv_iload_n (pc := 57) E.1 E.2.1 dX6_goOn_57 rfl (lv_at hl20 5 rfl) ?_
            refine lv_iload (pc := 58) E.1 E.2.1 dX6_goOn_58 (lv_at hl20 0 rfl) ?_
            refine lv_if_eq (pc := 60) (tgt := 73) E.1 E.2.1 dX6_goOn_60 (by decide) (fun _ => ?_) (fun c_21 => absurd (meqE (a := 0) (b := 0) (by decide +kernel) (by decide +kernel) (by omega)) c_21)
            refine lv_aload_n (pc := 73) E.1 E.2.1 dX6_goOn_73 rfl (lv_at hl20 3 rfl) ?_
            refine x_get (pc := 74) (T := TX6) (N := 10) (ci := 6) (v := .ref (mr 9)) E hw9 inX6 0 8 q_1170 rfl rfl (by decide) rfl rfl dX6_goOn_74 ?_
            refine lv_iload (pc := 77) E.1 E.2.1 dX6_goOn_77 (lv_at hl20 2 rfl) ?_
            refine x_iald (pc := 79) (f := (mf 9)) E hw9 5 rfl (inbE (a := x_6.toInt) rfl (by omega)) dX6_goOn_79 ?_
            refine lv_topi (fun v_22 ev_22 => ?_)
            have hbv_22 := allR_at (n := 10) (lo := 0) (hi := 1023) a_served ev_22 (by show 0 ≤ x_6.toInt ∧ _; omega)
            refine lv_ior (pc := 80) E.1 E.2.1 dX6_goOn_80 ?_
            refine lv_topi (fun v_23 ev_23 => ?_)
            have hb1v_23 : 0 ≤ v_23.toInt ∧ v_23.toInt ≤ 1023 := by rw [ev_23]; exact or10 (by omega) (by omega)
            refine lv_istore (pc := 81) (lv' := [(10, .int v_23), (9, .int 0), (8, .int v_14), (7, .int x_6), (0, .ref (mr 0)), (1, .int z_houses), (2, .int z_set), (3, .int z_a), (4, .null), (5, .long z_digit)]) E.1 E.2.1 dX6_goOn_81 hl20 (by decide) rfl (fun ls hl24 => ?_)
            refine lv_iload (pc := 83) E.1 E.2.1 dX6_goOn_83 (lv_at hl24 0 rfl) ?_
            refine lv_iload_n (pc := 85) E.1 E.2.1 dX6_goOn_85 rfl (lv_at hl24 5 rfl) ?_
            refine lv_imul (pc := 86) E.1 E.2.1 dX6_goOn_86 ?_
            refine lv_topi (fun v_25 ev_25 => ?_)
            have hbv_25 : 0 ≤ v_25.toInt ∧ v_25.toInt ≤ 10230 := by rw [ev_25]; exact mulB (a := 1023) (b := 10) (by omega) (by omega) (by decide)
            refine lv_iload (pc := 87) E.1 E.2.1 dX6_goOn_87 (lv_at hl24 3 rfl) ?_
            refine lv_iadd (pc := 89) E.1 E.2.1 dX6_goOn_89 ?_
            refine lv_topi (fun v_26 ev_26 => ?_)
            have hv_26 : v_26.toInt = v_25.toInt + x_6.toInt := by rw [ev_26]; exact addE rfl rfl (by omega)
            refine lv_istore (pc := 90) (lv' := [(11, .int v_26), (10, .int v_23), (9, .int 0), (8, .int v_14), (7, .int x_6), (0, .ref (mr 0)), (1, .int z_houses), (2, .int z_set), (3, .int z_a), (4, .null), (5, .long z_digit)]) E.1 E.2.1 dX6_goOn_90 hl24 (by decide) rfl (fun ls hl27 => ?_)
            refine lv_aload_n (pc := 92) E.1 E.2.1 dX6_goOn_92 rfl (lv_at hl27 5 rfl) ?_
            refine x_get (pc := 93) (T := TX6) (N := 10) (ci := 6) (v := .ref (mr 5)) E hw9 inX6 0 4 q_1166 rfl rfl (by decide) rfl rfl dX6_goOn_93 ?_
            refine lv_iload_n (pc := 96) E.1 E.2.1 dX6_goOn_96 rfl (lv_at hl27 8 rfl) ?_
            refine x_lald (pc := 97) (f := (mg 5)) E hw9 2 rfl (inbE (a := z_a.toInt) rfl (by omega)) dX6_goOn_97 (fun w_28 => ?_)
            refine lv_iload (pc := 98) E.1 E.2.1 dX6_goOn_98 (lv_at hl27 3 rfl) ?_
            refine lv_i2l (pc := 100) E.1 E.2.1 dX6_goOn_100 rfl ?_
            refine lv_topl (fun w_29 ew_29 => ?_)
            refine lv_ldc2 (pc := 101) (v := 10000000000) E.1 E.2.1 E.2.2.2.1 (E.2.2.2.2.1 _ q_1229) dX6_goOn_101 ?_
            refine lv_lmul (pc := 104) E.1 E.2.1 dX6_goOn_104 ?_
            refine lv_topl (fun w_30 ew_30 => ?_)
            refine lv_ladd (pc := 105) E.1 E.2.1 dX6_goOn_105 ?_
            refine lv_topl (fun w_31 ew_31 => ?_)
            refine lv_iload (pc := 106) E.1 E.2.1 dX6_goOn_106 (lv_at hl27 4 rfl) ?_
            refine lv_i2l (pc := 108) E.1 E.2.1 dX6_goOn_108 rfl ?_
            refine lv_topl (fun w_32 ew_32 => ?_)
            refine lv_lload (pc := 109) E.1 E.2.1 dX6_goOn_109 (lv_at hl27 10 rfl) ?_
            refine lv_lmul (pc := 111) E.1 E.2.1 dX6_goOn_111 ?_
            refine lv_topl (fun w_33 ew_33 => ?_)
            refine lv_ladd (pc := 112) E.1 E.2.1 dX6_goOn_112 ?_
            refine lv_topl (fun w_34 ew_34 => ?_)
            refine lv_lstore (pc := 113) (lv' := [(12, .long w_34), (11, .int v_26), (10, .int v_23), (9, .int 0), (8, .int v_14), (7, .int x_6), (0, .ref (mr 0)), (1, .int z_houses), (2, .int z_set), (3, .int z_a), (4, .null), (5, .long z_digit)]) E.1 E.2.1 dX6_goOn_113 hl27 (by decide) rfl (fun ls hl35 => ?_)
            refine lv_aload_n (pc := 115) E.1 E.2.1 dX6_goOn_115 rfl (lv_at hl35 6 rfl) ?_
            refine x_get (pc := 116) (T := TX6) (N := 10) (ci := 6) (v := .ref (mr 4)) E hw9 inX6 0 3 q_1165 rfl rfl (by decide) rfl rfl dX6_goOn_116 ?_
            refine lv_iload (pc := 119) E.1 E.2.1 dX6_goOn_119 (lv_at hl35 1 rfl) ?_
            refine x_lald (pc := 121) (f := g_7) E hw9 1 rfl (inbE (a := v_26.toInt) rfl (by omega)) dX6_goOn_121 (fun w_36 => ?_)
            refine lv_ldc2 (pc := 122) (v := (-1)) E.1 E.2.1 E.2.2.2.1 (E.2.2.2.2.1 _ q_1206) dX6_goOn_122 ?_
            refine W.lcmp (pc := 125) E.1 E.2.1 dX6_goOn_125 ?_
            refine lv_topi (fun v_37 ev_37 => ?_)
            refine lv_if_eq (pc := 126) (tgt := 142) E.1 E.2.1 dX6_goOn_126 (by decide) (fun c_38 => ?_) (fun c_38 => ?_)
            · skip
              have hc_38 := eqE (a := v_37.toInt) (b := 0) rfl (by decide +kernel) c_38
              refine lv_aload_n (pc := 142) E.1 E.2.1 dX6_goOn_142 rfl (lv_at hl35 6 rfl) ?_
              refine x_get (pc := 143) (T := TX6) (N := 10) (ci := 6) (v := .ref (mr 4)) E hw9 inX6 0 3 q_1165 rfl rfl (by decide) rfl rfl dX6_goOn_143 ?_
              refine lv_iload (pc := 146) E.1 E.2.1 dX6_goOn_146 (lv_at hl35 1 rfl) ?_
              refine lv_lload (pc := 148) E.1 E.2.1 dX6_goOn_148 (lv_at hl35 0 rfl) ?_
              refine x_lastO (pc := 150) (f := g_7) (wf := fun g => (WZ_Plan cI cJ mr mi mf (va_up mg 4 g))) E hw9 1 rfl (inbE (a := v_26.toInt) rfl (by omega)) (fun _ => rfl) dX6_goOn_150 (fun g_39 H locs hw40 => ?_)
              obtain ⟨v_41, ev_41⟩ : ∃ z : Int32, x_6 + Int32.ofInt (1) = z := ⟨_, rfl⟩
              have hv_41 : v_41.toInt = x_6.toInt + (1) := by rw [← ev_41]; exact incE rfl (by decide) (by omega)
              refine lv_iinc (pc := 151) (v := v_41) (lv' := [(7, .int v_41), (12, .long w_34), (11, .int v_26), (10, .int v_23), (9, .int 0), (8, .int v_14), (0, .ref (mr 0)), (1, .int z_houses), (2, .int z_set), (3, .int z_a), (4, .null), (5, .long z_digit)]) E.1 E.2.1 dX6_goOn_151 hl35 (k := 5) rfl ev_41 (by decide) rfl (fun ls hl42 => ?_)
              refine lv_goto (pc := 154) (tgt := 3) E.1 E.2.1 dX6_goOn_154 (by decide) ?_
              exact ih_8 v_41 g_39 _ _ _ ⟨(by show 0 ≤ v_41.toInt; omega), (by show v_41.toInt ≤ z_houses.toInt; omega)⟩ (by omega) hw40 (lv_sub hl42 [0, 6, 7, 8, 9, 10, 11] rfl)
            · skip
              have hc_38 := neE (a := v_37.toInt) (b := 0) rfl (by decide +kernel) c_38
              refine lv_aload_n (pc := 129) E.1 E.2.1 dX6_goOn_129 rfl (lv_at hl35 6 rfl) ?_
              refine x_get (pc := 130) (T := TX6) (N := 10) (ci := 6) (v := .ref (mr 4)) E hw9 inX6 0 3 q_1165 rfl rfl (by decide) rfl rfl dX6_goOn_130 ?_
              refine lv_iload (pc := 133) E.1 E.2.1 dX6_goOn_133 (lv_at hl35 1 rfl) ?_
              refine x_lald (pc := 135) (f := g_7) E hw9 1 rfl (inbE (a := v_26.toInt) rfl (by omega)) dX6_goOn_135 (fun w_43 => ?_)
              refine lv_lload (pc := 136) E.1 E.2.1 dX6_goOn_136 (lv_at hl35 0 rfl) ?_
              refine W.lcmp (pc := 138) E.1 E.2.1 dX6_goOn_138 ?_
              refine lv_topi (fun v_44 ev_44 => ?_)
              refine lv_if_le (pc := 139) (tgt := 151) E.1 E.2.1 dX6_goOn_139 (by decide) (fun c_45 => ?_) (fun c_45 => ?_)
              · skip
                have hc_45 := leE (a := v_44.toInt) (b := 0) rfl (by decide +kernel) c_45
                obtain ⟨v_46, ev_46⟩ : ∃ z : Int32, x_6 + Int32.ofInt (1) = z := ⟨_, rfl⟩
                have hv_46 : v_46.toInt = x_6.toInt + (1) := by rw [← ev_46]; exact incE rfl (by decide) (by omega)
                refine lv_iinc (pc := 151) (v := v_46) (lv' := [(7, .int v_46), (12, .long w_34), (11, .int v_26), (10, .int v_23), (9, .int 0), (8, .int v_14), (0, .ref (mr 0)), (1, .int z_houses), (2, .int z_set), (3, .int z_a), (4, .null), (5, .long z_digit)]) E.1 E.2.1 dX6_goOn_151 hl35 (k := 5) rfl ev_46 (by decide) rfl (fun ls hl47 => ?_)
                refine lv_goto (pc := 154) (tgt := 3) E.1 E.2.1 dX6_goOn_154 (by decide) ?_
                exact ih_8 v_46 g_7 _ _ _ ⟨(by show 0 ≤ v_46.toInt; omega), (by show v_46.toInt ≤ z_houses.toInt; omega)⟩ (by omega) hw9 (lv_sub hl47 [0, 6, 7, 8, 9, 10, 11] rfl)
              · skip
                have hc_45 := nleE (a := v_44.toInt) (b := 0) rfl (by decide +kernel) c_45
                refine lv_aload_n (pc := 142) E.1 E.2.1 dX6_goOn_142 rfl (lv_at hl35 6 rfl) ?_
                refine x_get (pc := 143) (T := TX6) (N := 10) (ci := 6) (v := .ref (mr 4)) E hw9 inX6 0 3 q_1165 rfl rfl (by decide) rfl rfl dX6_goOn_143 ?_
                refine lv_iload (pc := 146) E.1 E.2.1 dX6_goOn_146 (lv_at hl35 1 rfl) ?_
                refine lv_lload (pc := 148) E.1 E.2.1 dX6_goOn_148 (lv_at hl35 0 rfl) ?_
                refine x_lastO (pc := 150) (f := g_7) (wf := fun g => (WZ_Plan cI cJ mr mi mf (va_up mg 4 g))) E hw9 1 rfl (inbE (a := v_26.toInt) rfl (by omega)) (fun _ => rfl) dX6_goOn_150 (fun g_48 H locs hw49 => ?_)
                obtain ⟨v_50, ev_50⟩ : ∃ z : Int32, x_6 + Int32.ofInt (1) = z := ⟨_, rfl⟩
                have hv_50 : v_50.toInt = x_6.toInt + (1) := by rw [← ev_50]; exact incE rfl (by decide) (by omega)
                refine lv_iinc (pc := 151) (v := v_50) (lv' := [(7, .int v_50), (12, .long w_34), (11, .int v_26), (10, .int v_23), (9, .int 0), (8, .int v_14), (0, .ref (mr 0)), (1, .int z_houses), (2, .int z_set), (3, .int z_a), (4, .null), (5, .long z_digit)]) E.1 E.2.1 dX6_goOn_151 hl35 (k := 5) rfl ev_50 (by decide) rfl (fun ls hl51 => ?_)
                refine lv_goto (pc := 154) (tgt := 3) E.1 E.2.1 dX6_goOn_154 (by decide) ?_
                exact ih_8 v_50 g_48 _ _ _ ⟨(by show 0 ≤ v_50.toInt; omega), (by show v_50.toInt ≤ z_houses.toInt; omega)⟩ (by omega) hw49 (lv_sub hl51 [0, 6, 7, 8, 9, 10, 11] rfl)
          · skip
            have hc_19 := eqE (a := z_a.toInt) (b := x_6.toInt) rfl rfl c_19
            refine lv_iconst (pc := 50) (v := 1) E.1 E.2.1 dX6_goOn_50 (by decide +kernel) ?_
            refine lv_goto (pc := 51) (tgt := 55) E.1 E.2.1 dX6_goOn_51 (by decide) ?_
            refine lv_istore (pc := 55) (lv' := [(9, .int 1), (8, .int v_14), (7, .int x_6), (0, .ref (mr 0)), (1, .int z_houses), (2, .int z_set), (3, .int z_a), (4, .null), (5, .long z_digit)]) E.1 E.2.1 dX6_goOn_55 hl15 (by decide) rfl (fun ls hl52 => ?_)
            refine lv_iload_n (pc := 57) E.1 E.2.1 dX6_goOn_57 rfl (lv_at hl52 5 rfl) ?_
            refine lv_iload (pc := 58) E.1 E.2.1 dX6_goOn_58 (lv_at hl52 0 rfl) ?_
            refine lv_if_eq (pc := 60) (tgt := 73) E.1 E.2.1 dX6_goOn_60 (by decide) (fun c_53 => absurd c_53 (mneE (a := 1) (b := 0) (by decide +kernel) (by decide +kernel) (by omega))) (fun _ => ?_)
            refine lv_aload_n (pc := 63) E.1 E.2.1 dX6_goOn_63 rfl (lv_at hl52 3 rfl) ?_
            refine x_get (pc := 64) (T := TX6) (N := 10) (ci := 6) (v := .ref (mr 10)) E hw9 inX6 0 9 q_1171 rfl rfl (by decide) rfl rfl dX6_goOn_64 ?_
            refine lv_iload (pc := 67) E.1 E.2.1 dX6_goOn_67 (lv_at hl52 2 rfl) ?_
            refine x_iald (pc := 69) (f := (mf 10)) E hw9 6 rfl (inbE (a := x_6.toInt) rfl (by omega)) dX6_goOn_69 ?_
            refine lv_topi (fun v_54 ev_54 => ?_)
            have hbv_54 := allR_at (n := 10) (lo := 0) (hi := 1023) a_wed ev_54 (by show 0 ≤ x_6.toInt ∧ _; omega)
            refine lv_goto (pc := 70) (tgt := 80) E.1 E.2.1 dX6_goOn_70 (by decide) ?_
            refine lv_ior (pc := 80) E.1 E.2.1 dX6_goOn_80 ?_
            refine lv_topi (fun v_55 ev_55 => ?_)
            have hb1v_55 : 0 ≤ v_55.toInt ∧ v_55.toInt ≤ 1023 := by rw [ev_55]; exact or10 (by omega) (by omega)
            refine lv_istore (pc := 81) (lv' := [(10, .int v_55), (9, .int 1), (8, .int v_14), (7, .int x_6), (0, .ref (mr 0)), (1, .int z_houses), (2, .int z_set), (3, .int z_a), (4, .null), (5, .long z_digit)]) E.1 E.2.1 dX6_goOn_81 hl52 (by decide) rfl (fun ls hl56 => ?_)
            refine lv_iload (pc := 83) E.1 E.2.1 dX6_goOn_83 (lv_at hl56 0 rfl) ?_
            refine lv_iload_n (pc := 85) E.1 E.2.1 dX6_goOn_85 rfl (lv_at hl56 5 rfl) ?_
            refine lv_imul (pc := 86) E.1 E.2.1 dX6_goOn_86 ?_
            refine lv_topi (fun v_57 ev_57 => ?_)
            have hbv_57 : 0 ≤ v_57.toInt ∧ v_57.toInt ≤ 10230 := by rw [ev_57]; exact mulB (a := 1023) (b := 10) (by omega) (by omega) (by decide)
            refine lv_iload (pc := 87) E.1 E.2.1 dX6_goOn_87 (lv_at hl56 3 rfl) ?_
            refine lv_iadd (pc := 89) E.1 E.2.1 dX6_goOn_89 ?_
            refine lv_topi (fun v_58 ev_58 => ?_)
            have hv_58 : v_58.toInt = v_57.toInt + x_6.toInt := by rw [ev_58]; exact addE rfl rfl (by omega)
            refine lv_istore (pc := 90) (lv' := [(11, .int v_58), (10, .int v_55), (9, .int 1), (8, .int v_14), (7, .int x_6), (0, .ref (mr 0)), (1, .int z_houses), (2, .int z_set), (3, .int z_a), (4, .null), (5, .long z_digit)]) E.1 E.2.1 dX6_goOn_90 hl56 (by decide) rfl (fun ls hl59 => ?_)
            refine lv_aload_n (pc := 92) E.1 E.2.1 dX6_goOn_92 rfl (lv_at hl59 5 rfl) ?_
            refine x_get (pc := 93) (T := TX6) (N := 10) (ci := 6) (v := .ref (mr 5)) E hw9 inX6 0 4 q_1166 rfl rfl (by decide) rfl rfl dX6_goOn_93 ?_
            refine lv_iload_n (pc := 96) E.1 E.2.1 dX6_goOn_96 rfl (lv_at hl59 8 rfl) ?_
            refine x_lald (pc := 97) (f := (mg 5)) E hw9 2 rfl (inbE (a := z_a.toInt) rfl (by omega)) dX6_goOn_97 (fun w_60 => ?_)
            refine lv_iload (pc := 98) E.1 E.2.1 dX6_goOn_98 (lv_at hl59 3 rfl) ?_
            refine lv_i2l (pc := 100) E.1 E.2.1 dX6_goOn_100 rfl ?_
            refine lv_topl (fun w_61 ew_61 => ?_)
            refine lv_ldc2 (pc := 101) (v := 10000000000) E.1 E.2.1 E.2.2.2.1 (E.2.2.2.2.1 _ q_1229) dX6_goOn_101 ?_
            refine lv_lmul (pc := 104) E.1 E.2.1 dX6_goOn_104 ?_
            refine lv_topl (fun w_62 ew_62 => ?_)
            refine lv_ladd (pc := 105) E.1 E.2.1 dX6_goOn_105 ?_
            refine lv_topl (fun w_63 ew_63 => ?_)
            refine lv_iload (pc := 106) E.1 E.2.1 dX6_goOn_106 (lv_at hl59 4 rfl) ?_
            refine lv_i2l (pc := 108) E.1 E.2.1 dX6_goOn_108 rfl ?_
            refine lv_topl (fun w_64 ew_64 => ?_)
            refine lv_lload (pc := 109) E.1 E.2.1 dX6_goOn_109 (lv_at hl59 10 rfl) ?_
            refine lv_lmul (pc := 111) E.1 E.2.1 dX6_goOn_111 ?_
            refine lv_topl (fun w_65 ew_65 => ?_)
            refine lv_ladd (pc := 112) E.1 E.2.1 dX6_goOn_112 ?_
            refine lv_topl (fun w_66 ew_66 => ?_)
            refine lv_lstore (pc := 113) (lv' := [(12, .long w_66), (11, .int v_58), (10, .int v_55), (9, .int 1), (8, .int v_14), (7, .int x_6), (0, .ref (mr 0)), (1, .int z_houses), (2, .int z_set), (3, .int z_a), (4, .null), (5, .long z_digit)]) E.1 E.2.1 dX6_goOn_113 hl59 (by decide) rfl (fun ls hl67 => ?_)
            refine lv_aload_n (pc := 115) E.1 E.2.1 dX6_goOn_115 rfl (lv_at hl67 6 rfl) ?_
            refine x_get (pc := 116) (T := TX6) (N := 10) (ci := 6) (v := .ref (mr 4)) E hw9 inX6 0 3 q_1165 rfl rfl (by decide) rfl rfl dX6_goOn_116 ?_
            refine lv_iload (pc := 119) E.1 E.2.1 dX6_goOn_119 (lv_at hl67 1 rfl) ?_
            refine x_lald (pc := 121) (f := g_7) E hw9 1 rfl (inbE (a := v_58.toInt) rfl (by omega)) dX6_goOn_121 (fun w_68 => ?_)
            refine lv_ldc2 (pc := 122) (v := (-1)) E.1 E.2.1 E.2.2.2.1 (E.2.2.2.2.1 _ q_1206) dX6_goOn_122 ?_
            refine W.lcmp (pc := 125) E.1 E.2.1 dX6_goOn_125 ?_
            refine lv_topi (fun v_69 ev_69 => ?_)
            refine lv_if_eq (pc := 126) (tgt := 142) E.1 E.2.1 dX6_goOn_126 (by decide) (fun c_70 => ?_) (fun c_70 => ?_)
            · skip
              have hc_70 := eqE (a := v_69.toInt) (b := 0) rfl (by decide +kernel) c_70
              refine lv_aload_n (pc := 142) E.1 E.2.1 dX6_goOn_142 rfl (lv_at hl67 6 rfl) ?_
              refine x_get (pc := 143) (T := TX6) (N := 10) (ci := 6) (v := .ref (mr 4)) E hw9 inX6 0 3 q_1165 rfl rfl (by decide) rfl rfl dX6_goOn_143 ?_
              refine lv_iload (pc := 146) E.1 E.2.1 dX6_goOn_146 (lv_at hl67 1 rfl) ?_
              refine lv_lload (pc := 148) E.1 E.2.1 dX6_goOn_148 (lv_at hl67 0 rfl) ?_
              refine x_lastO (pc := 150) (f := g_7) (wf := fun g => (WZ_Plan cI cJ mr mi mf (va_up mg 4 g))) E hw9 1 rfl (inbE (a := v_58.toInt) rfl (by omega)) (fun _ => rfl) dX6_goOn_150 (fun g_71 H locs hw72 => ?_)
              obtain ⟨v_73, ev_73⟩ : ∃ z : Int32, x_6 + Int32.ofInt (1) = z := ⟨_, rfl⟩
              have hv_73 : v_73.toInt = x_6.toInt + (1) := by rw [← ev_73]; exact incE rfl (by decide) (by omega)
              refine lv_iinc (pc := 151) (v := v_73) (lv' := [(7, .int v_73), (12, .long w_66), (11, .int v_58), (10, .int v_55), (9, .int 1), (8, .int v_14), (0, .ref (mr 0)), (1, .int z_houses), (2, .int z_set), (3, .int z_a), (4, .null), (5, .long z_digit)]) E.1 E.2.1 dX6_goOn_151 hl67 (k := 5) rfl ev_73 (by decide) rfl (fun ls hl74 => ?_)
              refine lv_goto (pc := 154) (tgt := 3) E.1 E.2.1 dX6_goOn_154 (by decide) ?_
              exact ih_8 v_73 g_71 _ _ _ ⟨(by show 0 ≤ v_73.toInt; omega), (by show v_73.toInt ≤ z_houses.toInt; omega)⟩ (by omega) hw72 (lv_sub hl74 [0, 6, 7, 8, 9, 10, 11] rfl)
            · skip
              have hc_70 := neE (a := v_69.toInt) (b := 0) rfl (by decide +kernel) c_70
              refine lv_aload_n (pc := 129) E.1 E.2.1 dX6_goOn_129 rfl (lv_at hl67 6 rfl) ?_
              refine x_get (pc := 130) (T := TX6) (N := 10) (ci := 6) (v := .ref (mr 4)) E hw9 inX6 0 3 q_1165 rfl rfl (by decide) rfl rfl dX6_goOn_130 ?_
              refine lv_iload (pc := 133) E.1 E.2.1 dX6_goOn_133 (lv_at hl67 1 rfl) ?_
              refine x_lald (pc := 135) (f := g_7) E hw9 1 rfl (inbE (a := v_58.toInt) rfl (by omega)) dX6_goOn_135 (fun w_75 => ?_)
              refine lv_lload (pc := 136) E.1 E.2.1 dX6_goOn_136 (lv_at hl67 0 rfl) ?_
              refine W.lcmp (pc := 138) E.1 E.2.1 dX6_goOn_138 ?_
              refine lv_topi (fun v_76 ev_76 => ?_)
              refine lv_if_le (pc := 139) (tgt := 151) E.1 E.2.1 dX6_goOn_139 (by decide) (fun c_77 => ?_) (fun c_77 => ?_)
              · skip
                have hc_77 := leE (a := v_76.toInt) (b := 0) rfl (by decide +kernel) c_77
                obtain ⟨v_78, ev_78⟩ : ∃ z : Int32, x_6 + Int32.ofInt (1) = z := ⟨_, rfl⟩
                have hv_78 : v_78.toInt = x_6.toInt + (1) := by rw [← ev_78]; exact incE rfl (by decide) (by omega)
                refine lv_iinc (pc := 151) (v := v_78) (lv' := [(7, .int v_78), (12, .long w_66), (11, .int v_58), (10, .int v_55), (9, .int 1), (8, .int v_14), (0, .ref (mr 0)), (1, .int z_houses), (2, .int z_set), (3, .int z_a), (4, .null), (5, .long z_digit)]) E.1 E.2.1 dX6_goOn_151 hl67 (k := 5) rfl ev_78 (by decide) rfl (fun ls hl79 => ?_)
                refine lv_goto (pc := 154) (tgt := 3) E.1 E.2.1 dX6_goOn_154 (by decide) ?_
                exact ih_8 v_78 g_7 _ _ _ ⟨(by show 0 ≤ v_78.toInt; omega), (by show v_78.toInt ≤ z_houses.toInt; omega)⟩ (by omega) hw9 (lv_sub hl79 [0, 6, 7, 8, 9, 10, 11] rfl)
              · skip
                have hc_77 := nleE (a := v_76.toInt) (b := 0) rfl (by decide +kernel) c_77
                refine lv_aload_n (pc := 142) E.1 E.2.1 dX6_goOn_142 rfl (lv_at hl67 6 rfl) ?_
                refine x_get (pc := 143) (T := TX6) (N := 10) (ci := 6) (v := .ref (mr 4)) E hw9 inX6 0 3 q_1165 rfl rfl (by decide) rfl rfl dX6_goOn_143 ?_
                refine lv_iload (pc := 146) E.1 E.2.1 dX6_goOn_146 (lv_at hl67 1 rfl) ?_
                refine lv_lload (pc := 148) E.1 E.2.1 dX6_goOn_148 (lv_at hl67 0 rfl) ?_
                refine x_lastO (pc := 150) (f := g_7) (wf := fun g => (WZ_Plan cI cJ mr mi mf (va_up mg 4 g))) E hw9 1 rfl (inbE (a := v_58.toInt) rfl (by omega)) (fun _ => rfl) dX6_goOn_150 (fun g_80 H locs hw81 => ?_)
                obtain ⟨v_82, ev_82⟩ : ∃ z : Int32, x_6 + Int32.ofInt (1) = z := ⟨_, rfl⟩
                have hv_82 : v_82.toInt = x_6.toInt + (1) := by rw [← ev_82]; exact incE rfl (by decide) (by omega)
                refine lv_iinc (pc := 151) (v := v_82) (lv' := [(7, .int v_82), (12, .long w_66), (11, .int v_58), (10, .int v_55), (9, .int 1), (8, .int v_14), (0, .ref (mr 0)), (1, .int z_houses), (2, .int z_set), (3, .int z_a), (4, .null), (5, .long z_digit)]) E.1 E.2.1 dX6_goOn_151 hl67 (k := 5) rfl ev_82 (by decide) rfl (fun ls hl83 => ?_)
                refine lv_goto (pc := 154) (tgt := 3) E.1 E.2.1 dX6_goOn_154 (by decide) ?_
                exact ih_8 v_82 g_80 _ _ _ ⟨(by show 0 ≤ v_82.toInt; omega), (by show v_82.toInt ≤ z_houses.toInt; omega)⟩ (by omega) hw81 (lv_sub hl83 [0, 6, 7, 8, 9, 10, 11] rfl)
  exact loop_5 (Int.toNat (z_houses.toInt - 0) + 1) 0 (mg 4) _ _ _ ⟨(by show 0 ≤ (0 : Int32).toInt; have k_0 : (0 : Int32).toInt = 0 := (by decide +kernel); omega), (by show (0 : Int32).toInt ≤ z_houses.toInt; have k_0 : (0 : Int32).toInt = 0 := (by decide +kernel); omega)⟩ (by have k_0 : (0 : Int32).toInt = 0 := (by decide +kernel); omega) hw1 (lv_sub hl4 [0, 1, 2, 3, 4, 5, 6] rfl)
set_option maxHeartbeats 4000000 in
set_option maxRecDepth 100000 in
theorem t_spreadNight_n (l : Launch) (D : va_G) (cI cJ : ClassId) (sz : Nat) (mr : Nat → Nat) (mi : Nat → Int32) (mf : Nat → Nat → Int32) (mg : Nat → Nat → Int64) (z_houses : Int32) (z_sets : Int32) (z_digit : Int64) (h0 : 0 ≤ z_houses.toInt ∧ z_houses.toInt ≤ 10) (h1 : 1 ≤ z_sets.toInt ∧ z_sets.toInt ≤ 1024) (a_served : s1k (mf 9)) (a_wed : s1k (mf 10)) : Met l yX6_spreadNight (Cond.code yX6_spreadNight cX6_spreadNight 8 none :: GW) ({ frames := 3, cells := 0, slots := 0, locals := 94 } : Room) (va_Pc [.ref (mr 0), .int z_houses, .int z_sets, .null, .long z_digit] (PW D cI cJ sz (WZ_Plan cI cJ mr mi mf mg) xT)) (va_Qv (fun (u : (Nat → Int64) × (Nat → Int64)) => True) (fun u => QW D cI cJ (va_A (WZ_Plan cI cJ mr mi mf mg) sz) ((fun (u : (Nat → Int64) × (Nat → Int64)) => (WZ_Plan cI cJ mr mi mf (va_up (va_up mg 4 u.1) 5 u.2))) u)) (va_A (WZ_Plan cI cJ mr mi mf mg) sz)) 0 0 (va_A (WZ_Plan cI cJ mr mi mf mg) sz) := by
  refine mk_met (y := yX6_spreadNight) (bytes := cX6_spreadNight) (maxL := 8) (avs := [.ref (mr 0), .int z_houses, .int z_sets, .null, .long z_digit]) (WS := (WZ_Plan cI cJ mr mi mf mg)) (Qf := fun A => va_Qv (fun (u : (Nat → Int64) × (Nat → Int64)) => True) (fun u => QW D cI cJ A ((fun (u : (Nat → Int64) × (Nat → Int64)) => (WZ_Plan cI cJ mr mi mf (va_up (va_up mg 4 u.1) 5 u.2))) u)) A) (by decide) (Nat.le_of_ble_eq_true rfl) ?_
  intro p e s m below meth c A ls E hr hlk hnm hX hw1 hl2
  have hl3 : lv_has ls 8 [(0, .ref (mr 0)), (1, .int z_houses), (2, .int z_sets), (3, .null), (4, .long z_digit)] := hl2
  refine lv_iload_n (pc := 0) E.1 E.2.1 dX6_spreadNight_0 rfl (lv_at hl3 2 rfl) ?_
  refine lv_iconst (pc := 1) (v := 1) E.1 E.2.1 dX6_spreadNight_1 (by decide +kernel) ?_
  refine lv_isub (pc := 2) E.1 E.2.1 dX6_spreadNight_2 ?_
  refine lv_topi (fun v_4 ev_4 => ?_)
  have hv_4 : v_4.toInt = z_sets.toInt - 1 := by rw [ev_4]; exact subE rfl (by decide +kernel) (by omega)
  refine lv_istore (pc := 3) (lv' := [(6, .int v_4), (0, .ref (mr 0)), (1, .int z_houses), (2, .int z_sets), (3, .null), (4, .long z_digit)]) E.1 E.2.1 dX6_spreadNight_3 hl3 (by decide) rfl (fun ls hl5 => ?_)
  have loop_6 : ∀ (k : Nat) (x_7 : Int32) (g_8 : Nat → Int64) (g_9 : Nat → Int64) (H : Heap) (locs : List Loc) (ls : Array Slot), ((-1) ≤ x_7.toInt) ∧ (x_7.toInt + 1 ≤ z_sets.toInt) → x_7.toInt + 1 < (k : Int) → WD D A s.heap (WZ_Plan cI cJ mr mi mf (va_up (va_up mg 4 g_8) 5 g_9)) H locs → lv_has ls 8 [(6, .int x_7), (0, .ref (mr 0)), (1, .int z_houses), (2, .int z_sets), (3, .null), (4, .long z_digit)] → W p l e ({ frames := 3, cells := 0, slots := 0, locals := 94 } : Room) s m ([.ref (mr 0), .int z_houses, .int z_sets, .null, .long z_digit] : List Value).toArray below meth c H locs 0 0 (MQ below (va_Qv (fun (u : (Nat → Int64) × (Nat → Int64)) => True) (fun u => QW D cI cJ A ((fun (u : (Nat → Int64) × (Nat → Int64)) => (WZ_Plan cI cJ mr mi mf (va_up (va_up mg 4 u.1) 5 u.2))) u)) A) ([.ref (mr 0), .int z_houses, .int z_sets, .null, .long z_digit] : List Value).toArray s 0 0 A) (F0 m 5 ls []) := by
    intro k
    induction k with
    | zero =>
      intro x_7 g_8 g_9 _ _ _ hinv hm
      obtain ⟨hi_9_0, hi_9_1⟩ := hinv
      exact absurd hm (by omega)
    | succ k ih_10 =>
      intro x_7 g_8 g_9 H locs ls hinv hm hw11 hl12
      obtain ⟨hi_9_0, hi_9_1⟩ := hinv
      refine lv_iload (pc := 5) E.1 E.2.1 dX6_spreadNight_5 (lv_at hl12 0 rfl) ?_
      refine lv_if_lt (pc := 7) (tgt := 67) E.1 E.2.1 dX6_spreadNight_7 (by decide) (fun c_13 => ?_) (fun c_13 => ?_)
      · skip
        have hc_13 := ltE (a := x_7.toInt) (b := 0) rfl (by decide +kernel) c_13
        exact em_v (w1 := (fun (u : (Nat → Int64) × (Nat → Int64)) => (WZ_Plan cI cJ mr mi mf (va_up (va_up mg 4 u.1) 5 u.2)))) E hr hlk (g_8, g_9) hw11 trivial (Nat.le_of_ble_eq_true rfl) (Nat.le_of_ble_eq_true rfl) dX6_spreadNight_67
      · skip
        have hc_13 := nltE (a := x_7.toInt) (b := 0) rfl (by decide +kernel) c_13
        refine lv_aload_n (pc := 10) E.1 E.2.1 dX6_spreadNight_10 rfl (lv_at hl12 1 rfl) ?_
        refine lv_iload_n (pc := 11) E.1 E.2.1 dX6_spreadNight_11 rfl (lv_at hl12 2 rfl) ?_
        refine lv_iload (pc := 12) E.1 E.2.1 dX6_spreadNight_12 (lv_at hl12 0 rfl) ?_
        refine ck_i (pc := 14) (ws' := (fun (u : (Nat → Int64) × (Nat → Int64)) => (WZ_Plan cI cJ mr mi mf (va_up (va_up mg 4 u.1) 5 u.2)))) [true, true, true, true, true, true, true] hw11 rfl (fun hC_ => (rn_V (As := [.int z_houses, .int x_7]) (rest := []) E hw11 (t_lift l D cI cJ _ mr mi mf (va_up (va_up mg 4 g_8) 5 g_9) z_houses x_7 h0 (by show 0 ≤ x_7.toInt ∧ x_7.toInt ≤ 1023; omega)) (gdV q_1220 q_1222 q_35 q_170 q_1223) hdV_X6_lift ⟨rfl, rfl⟩ ⟨(Nat.le_of_ble_eq_true rfl), (Nat.le_of_ble_eq_true rfl)⟩ ⟨(Nat.le_of_ble_eq_true rfl), (Nat.le_of_ble_eq_true rfl)⟩ xT_b xT_at 0 6 rfl rfl rfl _ hC_ (nd_T _ 0) rfl hl12.1 rfl (Nat.le_of_ble_eq_true rfl) dX6_spreadNight_14)) rfl (fun _ => rfl) (fun _ => rfl) (fun r_15 u_14 H1 locs hp hw16 => ?_)
        obtain ⟨gcosts_17, glifted_18⟩ := u_14
        generalize H1 = H at hw16 ⊢
        have hw19 : WD D A s.heap (WZ_Plan cI cJ mr mi mf (va_up (va_up mg 4 gcosts_17) 5 glifted_18)) H locs := hw16
        obtain ⟨hp_20, hp_21⟩ := hp
        have hp_20 : 0 ≤ r_15.toInt := hp_20
        have hp_21 : r_15.toInt ≤ 1 := hp_21
        refine lv_if_eq (pc := 17) (tgt := 61) E.1 E.2.1 dX6_spreadNight_17 (by decide) (fun c_22 => ?_) (fun c_22 => ?_)
        · skip
          have hc_22 := eqE (a := r_15.toInt) (b := 0) rfl (by decide +kernel) c_22
          obtain ⟨v_23, ev_23⟩ : ∃ z : Int32, x_7 + Int32.ofInt (-1) = z := ⟨_, rfl⟩
          have hv_23 : v_23.toInt = x_7.toInt + (-1) := by rw [← ev_23]; exact incE rfl (by decide) (by omega)
          refine lv_iinc (pc := 61) (v := v_23) (lv' := [(6, .int v_23), (0, .ref (mr 0)), (1, .int z_houses), (2, .int z_sets), (3, .null), (4, .long z_digit)]) E.1 E.2.1 dX6_spreadNight_61 hl12 (k := 0) rfl ev_23 (by decide) rfl (fun ls hl24 => ?_)
          refine lv_goto (pc := 64) (tgt := 5) E.1 E.2.1 dX6_spreadNight_64 (by decide) ?_
          exact ih_10 v_23 gcosts_17 glifted_18 _ _ _ ⟨(by show (-1) ≤ v_23.toInt; omega), (by show v_23.toInt + 1 ≤ z_sets.toInt; omega)⟩ (by omega) hw19 (lv_sub hl24 [0, 1, 2, 3, 4, 5] rfl)
        · skip
          have hc_22 := neE (a := r_15.toInt) (b := 0) rfl (by decide +kernel) c_22
          refine lv_iconst (pc := 20) (v := 0) E.1 E.2.1 dX6_spreadNight_20 (by decide +kernel) ?_
          refine lv_istore (pc := 21) (lv' := [(7, .int 0), (6, .int x_7), (0, .ref (mr 0)), (1, .int z_houses), (2, .int z_sets), (3, .null), (4, .long z_digit)]) E.1 E.2.1 dX6_spreadNight_21 hl12 (by decide) rfl (fun ls hl25 => ?_)
          have loop_26 : ∀ (k : Nat) (x_27 : Int32) (g_28 : Nat → Int64) (H : Heap) (locs : List Loc) (ls : Array Slot), (0 ≤ x_27.toInt) ∧ (x_27.toInt ≤ z_houses.toInt) → z_houses.toInt - x_27.toInt < (k : Int) → WD D A s.heap (WZ_Plan cI cJ mr mi mf (va_up (va_up mg 4 g_28) 5 glifted_18)) H locs → lv_has ls 8 [(7, .int x_27), (6, .int x_7), (0, .ref (mr 0)), (1, .int z_houses), (2, .int z_sets), (3, .null), (4, .long z_digit)] → W p l e ({ frames := 3, cells := 0, slots := 0, locals := 94 } : Room) s m ([.ref (mr 0), .int z_houses, .int z_sets, .null, .long z_digit] : List Value).toArray below meth c H locs 0 0 (MQ below (va_Qv (fun (u : (Nat → Int64) × (Nat → Int64)) => True) (fun u => QW D cI cJ A ((fun (u : (Nat → Int64) × (Nat → Int64)) => (WZ_Plan cI cJ mr mi mf (va_up (va_up mg 4 u.1) 5 u.2))) u)) A) ([.ref (mr 0), .int z_houses, .int z_sets, .null, .long z_digit] : List Value).toArray s 0 0 A) (F0 m 23 ls []) := by
            intro k
            induction k with
            | zero =>
              intro x_27 g_28 _ _ _ hinv hm
              obtain ⟨hi_28_0, hi_28_1⟩ := hinv
              exact absurd hm (by omega)
            | succ k ih_29 =>
              intro x_27 g_28 H locs ls hinv hm hw30 hl31
              obtain ⟨hi_28_0, hi_28_1⟩ := hinv
              refine lv_iload (pc := 23) E.1 E.2.1 dX6_spreadNight_23 (lv_at hl31 0 rfl) ?_
              refine lv_iload_n (pc := 25) E.1 E.2.1 dX6_spreadNight_25 rfl (lv_at hl31 3 rfl) ?_
              refine lv_icmp_ge (pc := 26) (tgt := 61) E.1 E.2.1 dX6_spreadNight_26 (by decide) (fun c_32 => ?_) (fun c_32 => ?_)
              · skip
                have hc_32 := leE (a := z_houses.toInt) (b := x_27.toInt) rfl rfl c_32
                obtain ⟨v_33, ev_33⟩ : ∃ z : Int32, x_7 + Int32.ofInt (-1) = z := ⟨_, rfl⟩
                have hv_33 : v_33.toInt = x_7.toInt + (-1) := by rw [← ev_33]; exact incE rfl (by decide) (by omega)
                refine lv_iinc (pc := 61) (v := v_33) (lv' := [(6, .int v_33), (7, .int x_27), (0, .ref (mr 0)), (1, .int z_houses), (2, .int z_sets), (3, .null), (4, .long z_digit)]) E.1 E.2.1 dX6_spreadNight_61 hl31 (k := 1) rfl ev_33 (by decide) rfl (fun ls hl34 => ?_)
                refine lv_goto (pc := 64) (tgt := 5) E.1 E.2.1 dX6_spreadNight_64 (by decide) ?_
                exact ih_10 v_33 g_28 glifted_18 _ _ _ ⟨(by show (-1) ≤ v_33.toInt; omega), (by show v_33.toInt + 1 ≤ z_sets.toInt; omega)⟩ (by omega) hw30 (lv_sub hl34 [0, 2, 3, 4, 5, 6] rfl)
              · skip
                have hc_32 := nleE (a := z_houses.toInt) (b := x_27.toInt) rfl rfl c_32
                refine lv_aload_n (pc := 29) E.1 E.2.1 dX6_spreadNight_29 rfl (lv_at hl31 2 rfl) ?_
                refine x_get (pc := 30) (T := TX6) (N := 10) (ci := 6) (v := .ref (mr 5)) E hw30 inX6 0 4 q_1166 rfl rfl (by decide) rfl rfl dX6_spreadNight_30 ?_
                refine lv_iload (pc := 33) E.1 E.2.1 dX6_spreadNight_33 (lv_at hl31 0 rfl) ?_
                refine x_lald (pc := 35) (f := glifted_18) E hw30 2 rfl (inbE (a := x_27.toInt) rfl (by omega)) dX6_spreadNight_35 (fun w_35 => ?_)
                refine lv_ldc2 (pc := 36) (v := (-1)) E.1 E.2.1 E.2.2.2.1 (E.2.2.2.2.1 _ q_1206) dX6_spreadNight_36 ?_
                refine W.lcmp (pc := 39) E.1 E.2.1 dX6_spreadNight_39 ?_
                refine lv_topi (fun v_36 ev_36 => ?_)
                refine lv_if_eq (pc := 40) (tgt := 55) E.1 E.2.1 dX6_spreadNight_40 (by decide) (fun c_37 => ?_) (fun c_37 => ?_)
                · skip
                  have hc_37 := eqE (a := v_36.toInt) (b := 0) rfl (by decide +kernel) c_37
                  obtain ⟨v_38, ev_38⟩ : ∃ z : Int32, x_27 + Int32.ofInt (1) = z := ⟨_, rfl⟩
                  have hv_38 : v_38.toInt = x_27.toInt + (1) := by rw [← ev_38]; exact incE rfl (by decide) (by omega)
                  refine lv_iinc (pc := 55) (v := v_38) (lv' := [(7, .int v_38), (6, .int x_7), (0, .ref (mr 0)), (1, .int z_houses), (2, .int z_sets), (3, .null), (4, .long z_digit)]) E.1 E.2.1 dX6_spreadNight_55 hl31 (k := 0) rfl ev_38 (by decide) rfl (fun ls hl39 => ?_)
                  refine lv_goto (pc := 58) (tgt := 23) E.1 E.2.1 dX6_spreadNight_58 (by decide) ?_
                  exact ih_29 v_38 g_28 _ _ _ ⟨(by show 0 ≤ v_38.toInt; omega), (by show v_38.toInt ≤ z_houses.toInt; omega)⟩ (by omega) hw30 (lv_sub hl39 [0, 1, 2, 3, 4, 5, 6] rfl)
                · skip
                  have hc_37 := neE (a := v_36.toInt) (b := 0) rfl (by decide +kernel) c_37
                  refine lv_aload_n (pc := 43) E.1 E.2.1 dX6_spreadNight_43 rfl (lv_at hl31 2 rfl) ?_
                  refine lv_iload_n (pc := 44) E.1 E.2.1 dX6_spreadNight_44 rfl (lv_at hl31 3 rfl) ?_
                  refine lv_iload (pc := 45) E.1 E.2.1 dX6_spreadNight_45 (lv_at hl31 1 rfl) ?_
                  refine lv_iload (pc := 47) E.1 E.2.1 dX6_spreadNight_47 (lv_at hl31 0 rfl) ?_
                  refine lv_aload_nN (pc := 49) E.1 E.2.1 dX6_spreadNight_49 rfl (lv_at hl31 5 rfl) ?_
                  refine lv_lload (pc := 50) E.1 E.2.1 dX6_spreadNight_50 (lv_at hl31 6 rfl) ?_
                  refine ck_v (pc := 52) (ws' := (fun (u : (Nat → Int64)) => (WZ_Plan cI cJ mr mi mf (va_up (va_up mg 4 u) 5 glifted_18)))) [true, true, true, true, true, true, true] hw30 rfl (fun hC_ => (rn_V (As := [.int z_houses, .int x_7, .int x_27, .null, .long z_digit]) (rest := []) E hw30 (t_goOn_n l D cI cJ _ mr mi mf (va_up (va_up mg 4 g_28) 5 glifted_18) z_houses x_7 x_27 z_digit h0 (by show 0 ≤ x_7.toInt ∧ x_7.toInt ≤ 1023; omega) (by show 0 ≤ x_27.toInt ∧ x_27.toInt ≤ 9; omega) a_served a_wed) (gdV q_1224 q_1226 q_36 q_170 q_1227) hdV_X6_goOn ⟨rfl, rfl⟩ ⟨(Nat.le_of_ble_eq_true rfl), (Nat.le_of_ble_eq_true rfl)⟩ ⟨(Nat.le_of_ble_eq_true rfl), (Nat.le_of_ble_eq_true rfl)⟩ xT_b xT_at 0 6 rfl rfl rfl _ hC_ (nd_T _ 0) rfl hl31.1 rfl (Nat.le_of_ble_eq_true rfl) dX6_spreadNight_52)) rfl (fun _ => rfl) (fun _ => rfl) (fun u_40 H1 locs hp hw42 => ?_)
                  obtain ⟨gcosts_43, rfl⟩ : ∃ z, z = u_40 := ⟨_, rfl⟩
                  generalize H1 = H at hw42 ⊢
                  have hw44 : WD D A s.heap (WZ_Plan cI cJ mr mi mf (va_up (va_up mg 4 gcosts_43) 5 glifted_18)) H locs := hw42
                  obtain ⟨v_45, ev_45⟩ : ∃ z : Int32, x_27 + Int32.ofInt (1) = z := ⟨_, rfl⟩
                  have hv_45 : v_45.toInt = x_27.toInt + (1) := by rw [← ev_45]; exact incE rfl (by decide) (by omega)
                  refine lv_iinc (pc := 55) (v := v_45) (lv' := [(7, .int v_45), (6, .int x_7), (0, .ref (mr 0)), (1, .int z_houses), (2, .int z_sets), (3, .null), (4, .long z_digit)]) E.1 E.2.1 dX6_spreadNight_55 hl31 (k := 0) rfl ev_45 (by decide) rfl (fun ls hl46 => ?_)
                  refine lv_goto (pc := 58) (tgt := 23) E.1 E.2.1 dX6_spreadNight_58 (by decide) ?_
                  exact ih_29 v_45 gcosts_43 _ _ _ ⟨(by show 0 ≤ v_45.toInt; omega), (by show v_45.toInt ≤ z_houses.toInt; omega)⟩ (by omega) hw44 (lv_sub hl46 [0, 1, 2, 3, 4, 5, 6] rfl)
          exact loop_26 (Int.toNat (z_houses.toInt - 0) + 1) 0 gcosts_17 _ _ _ ⟨(by show 0 ≤ (0 : Int32).toInt; have k_0 : (0 : Int32).toInt = 0 := (by decide +kernel); omega), (by show (0 : Int32).toInt ≤ z_houses.toInt; have k_0 : (0 : Int32).toInt = 0 := (by decide +kernel); omega)⟩ (by have k_0 : (0 : Int32).toInt = 0 := (by decide +kernel); omega) hw19 (lv_sub hl25 [0, 1, 2, 3, 4, 5, 6] rfl)
  exact loop_6 (Int.toNat (v_4.toInt + 1) + 1) v_4 (mg 4) (mg 5) _ _ _ ⟨(by show (-1) ≤ v_4.toInt; omega), (by show v_4.toInt + 1 ≤ z_sets.toInt; omega)⟩ (by omega) hw1 (lv_sub hl5 [0, 1, 2, 3, 4, 5] rfl)
set_option maxHeartbeats 4000000 in
set_option maxRecDepth 100000 in
theorem t_goOn_s (l : Launch) (D : va_G) (cI cJ : ClassId) (sz : Nat) (mr : Nat → Nat) (mi : Nat → Int32) (mf : Nat → Nat → Int32) (mg : Nat → Nat → Int64) (z_houses : Int32) (z_set : Int32) (z_a : Int32) (z_digit : Int64) (h0 : 0 ≤ z_houses.toInt ∧ z_houses.toInt ≤ 10) (h1 : 0 ≤ z_set.toInt ∧ z_set.toInt ≤ 1023) (h2 : 0 ≤ z_a.toInt ∧ z_a.toInt ≤ 9) (a_served : s1k (mf 9)) (a_wed : s1k (mf 10)) : Met l yX6_goOn (Cond.code yX6_goOn cX6_goOn 14 none :: GW) ({ frames := 2, cells := 0, slots := 0, locals := 61 } : Room) (va_Pc [.ref (mr 0), .int z_houses, .int z_set, .int z_a, .ref (mr 11), .long z_digit] (PW D cI cJ sz (WZ_PlanS cI cJ mr mi mf mg) xT)) (va_Qv (fun (u : (Nat → Int64)) => True) (fun u => QW D cI cJ (va_A (WZ_PlanS cI cJ mr mi mf mg) sz) ((fun (u : (Nat → Int64)) => (WZ_PlanS cI cJ mr mi mf (va_up mg 4 u))) u)) (va_A (WZ_PlanS cI cJ mr mi mf mg) sz)) 0 0 (va_A (WZ_PlanS cI cJ mr mi mf mg) sz) := by
  refine mk_met (y := yX6_goOn) (bytes := cX6_goOn) (maxL := 14) (avs := [.ref (mr 0), .int z_houses, .int z_set, .int z_a, .ref (mr 11), .long z_digit]) (WS := (WZ_PlanS cI cJ mr mi mf mg)) (Qf := fun A => va_Qv (fun (u : (Nat → Int64)) => True) (fun u => QW D cI cJ A ((fun (u : (Nat → Int64)) => (WZ_PlanS cI cJ mr mi mf (va_up mg 4 u))) u)) A) (by decide) (Nat.le_of_ble_eq_true rfl) ?_
  intro p e s m below meth c A ls E hr hlk hnm hX hw1 hl2
  have hl3 : lv_has ls 14 [(0, .ref (mr 0)), (1, .int z_houses), (2, .int z_set), (3, .int z_a), (4, .ref (mr 11)), (5, .long z_digit)] := hl2
  refine lv_iconst (pc := 0) (v := 0) E.1 E.2.1 dX6_goOn_0 (by decide +kernel) ?_
  refine lv_istore (pc := 1) (lv' := [(7, .int 0), (0, .ref (mr 0)), (1, .int z_houses), (2, .int z_set), (3, .int z_a), (4, .ref (mr 11)), (5, .long z_digit)]) E.1 E.2.1 dX6_goOn_1 hl3 (by decide) rfl (fun ls hl4 => ?_)
  have loop_5 : ∀ (k : Nat) (x_6 : Int32) (g_7 : Nat → Int64) (H : Heap) (locs : List Loc) (ls : Array Slot), (0 ≤ x_6.toInt) ∧ (x_6.toInt ≤ z_houses.toInt) → z_houses.toInt - x_6.toInt < (k : Int) → WD D A s.heap (WZ_PlanS cI cJ mr mi mf (va_up mg 4 g_7)) H locs → lv_has ls 14 [(7, .int x_6), (0, .ref (mr 0)), (1, .int z_houses), (2, .int z_set), (3, .int z_a), (4, .ref (mr 11)), (5, .long z_digit)] → W p l e ({ frames := 2, cells := 0, slots := 0, locals := 61 } : Room) s m ([.ref (mr 0), .int z_houses, .int z_set, .int z_a, .ref (mr 11), .long z_digit] : List Value).toArray below meth c H locs 0 0 (MQ below (va_Qv (fun (u : (Nat → Int64)) => True) (fun u => QW D cI cJ A ((fun (u : (Nat → Int64)) => (WZ_PlanS cI cJ mr mi mf (va_up mg 4 u))) u)) A) ([.ref (mr 0), .int z_houses, .int z_set, .int z_a, .ref (mr 11), .long z_digit] : List Value).toArray s 0 0 A) (F0 m 3 ls []) := by
    intro k
    induction k with
    | zero =>
      intro x_6 g_7 _ _ _ hinv hm
      obtain ⟨hi_7_0, hi_7_1⟩ := hinv
      exact absurd hm (by omega)
    | succ k ih_8 =>
      intro x_6 g_7 H locs ls hinv hm hw9 hl10
      obtain ⟨hi_7_0, hi_7_1⟩ := hinv
      refine lv_iload (pc := 3) E.1 E.2.1 dX6_goOn_3 (lv_at hl10 0 rfl) ?_
      refine lv_iload_n (pc := 5) E.1 E.2.1 dX6_goOn_5 rfl (lv_at hl10 2 rfl) ?_
      refine lv_icmp_ge (pc := 6) (tgt := 157) E.1 E.2.1 dX6_goOn_6 (by decide) (fun c_11 => ?_) (fun c_11 => ?_)
      · skip
        have hc_11 := leE (a := z_houses.toInt) (b := x_6.toInt) rfl rfl c_11
        exact em_v (w1 := (fun (u : (Nat → Int64)) => (WZ_PlanS cI cJ mr mi mf (va_up mg 4 u)))) E hr hlk g_7 hw9 trivial (Nat.le_of_ble_eq_true rfl) (Nat.le_of_ble_eq_true rfl) dX6_goOn_157
      · skip
        have hc_11 := nleE (a := z_houses.toInt) (b := x_6.toInt) rfl rfl c_11
        refine lv_aload_n (pc := 9) E.1 E.2.1 dX6_goOn_9 rfl (lv_at hl10 1 rfl) ?_
        refine x_get (pc := 10) (T := TX6) (N := 10) (ci := 6) (v := .ref (mr 6)) E hw9 inX6 0 5 q_1167 rfl rfl (by decide) rfl rfl dX6_goOn_10 ?_
        refine lv_iload_n (pc := 13) E.1 E.2.1 dX6_goOn_13 rfl (lv_at hl10 4 rfl) ?_
        refine lv_bipush (pc := 14) (v := 10) E.1 E.2.1 dX6_goOn_14 (by decide +kernel) ?_
        refine lv_imul (pc := 16) E.1 E.2.1 dX6_goOn_16 ?_
        refine lv_topi (fun v_12 ev_12 => ?_)
        have hv_12 : v_12.toInt = z_a.toInt * 10 := by rw [ev_12]; exact mulE rfl (by decide +kernel) (by omega)
        refine lv_iload (pc := 17) E.1 E.2.1 dX6_goOn_17 (lv_at hl10 0 rfl) ?_
        refine lv_iadd (pc := 19) E.1 E.2.1 dX6_goOn_19 ?_
        refine lv_topi (fun v_13 ev_13 => ?_)
        have hv_13 : v_13.toInt = v_12.toInt + x_6.toInt := by rw [ev_13]; exact addE rfl rfl (by omega)
        refine x_iald (pc := 20) (f := (mf 6)) E hw9 3 rfl (inbE (a := v_13.toInt) rfl (by omega)) dX6_goOn_20 ?_
        refine lv_topi (fun v_14 ev_14 => ?_)
        refine lv_istore (pc := 21) (lv' := [(8, .int v_14), (7, .int x_6), (0, .ref (mr 0)), (1, .int z_houses), (2, .int z_set), (3, .int z_a), (4, .ref (mr 11)), (5, .long z_digit)]) E.1 E.2.1 dX6_goOn_21 hl10 (by decide) rfl (fun ls hl15 => ?_)
        refine lv_iload (pc := 23) E.1 E.2.1 dX6_goOn_23 (lv_at hl15 0 rfl) ?_
        refine lv_iconst (pc := 25) (v := (-1)) E.1 E.2.1 dX6_goOn_25 (by decide +kernel) ?_
        refine lv_icmp_eq (pc := 26) (tgt := 151) E.1 E.2.1 dX6_goOn_26 (by decide) (fun c_16 => ?_) (fun c_16 => ?_)
        · skip
          have hc_16 := eqE (a := v_14.toInt) (b := (-1)) rfl (by decide +kernel) c_16
          obtain ⟨v_17, ev_17⟩ : ∃ z : Int32, x_6 + Int32.ofInt (1) = z := ⟨_, rfl⟩
          have hv_17 : v_17.toInt = x_6.toInt + (1) := by rw [← ev_17]; exact incE rfl (by decide) (by omega)
          refine lv_iinc (pc := 151) (v := v_17) (lv' := [(7, .int v_17), (8, .int v_14), (0, .ref (mr 0)), (1, .int z_houses), (2, .int z_set), (3, .int z_a), (4, .ref (mr 11)), (5, .long z_digit)]) E.1 E.2.1 dX6_goOn_151 hl15 (k := 1) rfl ev_17 (by decide) rfl (fun ls hl18 => ?_)
          refine lv_goto (pc := 154) (tgt := 3) E.1 E.2.1 dX6_goOn_154 (by decide) ?_
          exact ih_8 v_17 g_7 _ _ _ ⟨(by show 0 ≤ v_17.toInt; omega), (by show v_17.toInt ≤ z_houses.toInt; omega)⟩ (by omega) hw9 (lv_sub hl18 [0, 2, 3, 4, 5, 6, 7] rfl)
        · skip
          have hc_16 := neE (a := v_14.toInt) (b := (-1)) rfl (by decide +kernel) c_16
          refine lv_aload (pc := 29) E.1 E.2.1 dX6_goOn_29 (lv_at hl15 6 rfl) ?_
          refine lv_ifnull (pc := 31) E.1 E.2.1 dX6_goOn_31 ?_
          refine lv_aload (pc := 34) E.1 E.2.1 dX6_goOn_34 (lv_at hl15 6 rfl) ?_
          refine lv_iload (pc := 36) E.1 E.2.1 dX6_goOn_36 (lv_at hl15 1 rfl) ?_
          refine ck_i (pc := 38) (ws' := (fun (u : Unit) => (WZ_PlanS cI cJ mr mi mf (va_up mg 4 g_7)))) [false, false, false, false, false, false, false, true, true, true, true, true, true] hw9 rfl (fun hC_ => (rn_V (As := [.int x_6]) (rest := []) E hw9 (t_wasLitAhead l D cI cJ _ (shf 11 mr) (shf 11 mi) (shf 11 mf) (shf 11 (va_up mg 4 g_7)) x_6 (by show 0 ≤ x_6.toInt ∧ x_6.toInt ≤ 9; omega)) (gdV q_1228 q_1074 q_1075 q_153 q_1076) hdV_X4_wasLitAhead ⟨rfl, rfl⟩ ⟨(Nat.le_of_ble_eq_true rfl), (Nat.le_of_ble_eq_true rfl)⟩ ⟨(Nat.le_of_ble_eq_true rfl), (Nat.le_of_ble_eq_true rfl)⟩ xT_b xT_at 7 4 rfl rfl rfl _ hC_ (nd_T _ 0) rfl hl15.1 rfl (Nat.le_of_ble_eq_true rfl) dX6_goOn_38)) rfl (fun _ => rfl) (fun _ => rfl) (fun r_20 u_19 H1 locs hp hw21 => ?_)
          generalize H1 = H at hw21 ⊢
          have hw22 : WD D A s.heap (WZ_PlanS cI cJ mr mi mf (va_up mg 4 g_7)) H locs := hw21
          obtain ⟨hp_23, hp_24⟩ := hp
          have hp_23 : 0 ≤ r_20.toInt := hp_23
          have hp_24 : r_20.toInt ≤ 1 := hp_24
          refine lv_goto (pc := 41) (tgt := 55) E.1 E.2.1 dX6_goOn_41 (by decide) ?_
          refine lv_istore (pc := 55) (lv' := [(9, .int r_20), (8, .int v_14), (7, .int x_6), (0, .ref (mr 0)), (1, .int z_houses), (2, .int z_set), (3, .int z_a), (4, .ref (mr 11)), (5, .long z_digit)]) E.1 E.2.1 dX6_goOn_55 hl15 (by decide) rfl (fun ls hl25 => ?_)
          refine lv_iload_n (pc := 57) E.1 E.2.1 dX6_goOn_57 rfl (lv_at hl25 5 rfl) ?_
          refine lv_iload (pc := 58) E.1 E.2.1 dX6_goOn_58 (lv_at hl25 0 rfl) ?_
          refine lv_if_eq (pc := 60) (tgt := 73) E.1 E.2.1 dX6_goOn_60 (by decide) (fun c_26 => ?_) (fun c_26 => ?_)
          · skip
            have hc_26 := eqE (a := r_20.toInt) (b := 0) rfl (by decide +kernel) c_26
            refine lv_aload_n (pc := 73) E.1 E.2.1 dX6_goOn_73 rfl (lv_at hl25 3 rfl) ?_
            refine x_get (pc := 74) (T := TX6) (N := 10) (ci := 6) (v := .ref (mr 9)) E hw22 inX6 0 8 q_1170 rfl rfl (by decide) rfl rfl dX6_goOn_74 ?_
            refine lv_iload (pc := 77) E.1 E.2.1 dX6_goOn_77 (lv_at hl25 2 rfl) ?_
            refine x_iald (pc := 79) (f := (mf 9)) E hw22 5 rfl (inbE (a := x_6.toInt) rfl (by omega)) dX6_goOn_79 ?_
            refine lv_topi (fun v_27 ev_27 => ?_)
            have hbv_27 := allR_at (n := 10) (lo := 0) (hi := 1023) a_served ev_27 (by show 0 ≤ x_6.toInt ∧ _; omega)
            refine lv_ior (pc := 80) E.1 E.2.1 dX6_goOn_80 ?_
            refine lv_topi (fun v_28 ev_28 => ?_)
            have hb1v_28 : 0 ≤ v_28.toInt ∧ v_28.toInt ≤ 1023 := by rw [ev_28]; exact or10 (by omega) (by omega)
            refine lv_istore (pc := 81) (lv' := [(10, .int v_28), (9, .int r_20), (8, .int v_14), (7, .int x_6), (0, .ref (mr 0)), (1, .int z_houses), (2, .int z_set), (3, .int z_a), (4, .ref (mr 11)), (5, .long z_digit)]) E.1 E.2.1 dX6_goOn_81 hl25 (by decide) rfl (fun ls hl29 => ?_)
            refine lv_iload (pc := 83) E.1 E.2.1 dX6_goOn_83 (lv_at hl29 0 rfl) ?_
            refine lv_iload_n (pc := 85) E.1 E.2.1 dX6_goOn_85 rfl (lv_at hl29 5 rfl) ?_
            refine lv_imul (pc := 86) E.1 E.2.1 dX6_goOn_86 ?_
            refine lv_topi (fun v_30 ev_30 => ?_)
            have hbv_30 : 0 ≤ v_30.toInt ∧ v_30.toInt ≤ 10230 := by rw [ev_30]; exact mulB (a := 1023) (b := 10) (by omega) (by omega) (by decide)
            refine lv_iload (pc := 87) E.1 E.2.1 dX6_goOn_87 (lv_at hl29 3 rfl) ?_
            refine lv_iadd (pc := 89) E.1 E.2.1 dX6_goOn_89 ?_
            refine lv_topi (fun v_31 ev_31 => ?_)
            have hv_31 : v_31.toInt = v_30.toInt + x_6.toInt := by rw [ev_31]; exact addE rfl rfl (by omega)
            refine lv_istore (pc := 90) (lv' := [(11, .int v_31), (10, .int v_28), (9, .int r_20), (8, .int v_14), (7, .int x_6), (0, .ref (mr 0)), (1, .int z_houses), (2, .int z_set), (3, .int z_a), (4, .ref (mr 11)), (5, .long z_digit)]) E.1 E.2.1 dX6_goOn_90 hl29 (by decide) rfl (fun ls hl32 => ?_)
            refine lv_aload_n (pc := 92) E.1 E.2.1 dX6_goOn_92 rfl (lv_at hl32 5 rfl) ?_
            refine x_get (pc := 93) (T := TX6) (N := 10) (ci := 6) (v := .ref (mr 5)) E hw22 inX6 0 4 q_1166 rfl rfl (by decide) rfl rfl dX6_goOn_93 ?_
            refine lv_iload_n (pc := 96) E.1 E.2.1 dX6_goOn_96 rfl (lv_at hl32 8 rfl) ?_
            refine x_lald (pc := 97) (f := (mg 5)) E hw22 2 rfl (inbE (a := z_a.toInt) rfl (by omega)) dX6_goOn_97 (fun w_33 => ?_)
            refine lv_iload (pc := 98) E.1 E.2.1 dX6_goOn_98 (lv_at hl32 3 rfl) ?_
            refine lv_i2l (pc := 100) E.1 E.2.1 dX6_goOn_100 rfl ?_
            refine lv_topl (fun w_34 ew_34 => ?_)
            refine lv_ldc2 (pc := 101) (v := 10000000000) E.1 E.2.1 E.2.2.2.1 (E.2.2.2.2.1 _ q_1229) dX6_goOn_101 ?_
            refine lv_lmul (pc := 104) E.1 E.2.1 dX6_goOn_104 ?_
            refine lv_topl (fun w_35 ew_35 => ?_)
            refine lv_ladd (pc := 105) E.1 E.2.1 dX6_goOn_105 ?_
            refine lv_topl (fun w_36 ew_36 => ?_)
            refine lv_iload (pc := 106) E.1 E.2.1 dX6_goOn_106 (lv_at hl32 4 rfl) ?_
            refine lv_i2l (pc := 108) E.1 E.2.1 dX6_goOn_108 rfl ?_
            refine lv_topl (fun w_37 ew_37 => ?_)
            refine lv_lload (pc := 109) E.1 E.2.1 dX6_goOn_109 (lv_at hl32 10 rfl) ?_
            refine lv_lmul (pc := 111) E.1 E.2.1 dX6_goOn_111 ?_
            refine lv_topl (fun w_38 ew_38 => ?_)
            refine lv_ladd (pc := 112) E.1 E.2.1 dX6_goOn_112 ?_
            refine lv_topl (fun w_39 ew_39 => ?_)
            refine lv_lstore (pc := 113) (lv' := [(12, .long w_39), (11, .int v_31), (10, .int v_28), (9, .int r_20), (8, .int v_14), (7, .int x_6), (0, .ref (mr 0)), (1, .int z_houses), (2, .int z_set), (3, .int z_a), (4, .ref (mr 11)), (5, .long z_digit)]) E.1 E.2.1 dX6_goOn_113 hl32 (by decide) rfl (fun ls hl40 => ?_)
            refine lv_aload_n (pc := 115) E.1 E.2.1 dX6_goOn_115 rfl (lv_at hl40 6 rfl) ?_
            refine x_get (pc := 116) (T := TX6) (N := 10) (ci := 6) (v := .ref (mr 4)) E hw22 inX6 0 3 q_1165 rfl rfl (by decide) rfl rfl dX6_goOn_116 ?_
            refine lv_iload (pc := 119) E.1 E.2.1 dX6_goOn_119 (lv_at hl40 1 rfl) ?_
            refine x_lald (pc := 121) (f := g_7) E hw22 1 rfl (inbE (a := v_31.toInt) rfl (by omega)) dX6_goOn_121 (fun w_41 => ?_)
            refine lv_ldc2 (pc := 122) (v := (-1)) E.1 E.2.1 E.2.2.2.1 (E.2.2.2.2.1 _ q_1206) dX6_goOn_122 ?_
            refine W.lcmp (pc := 125) E.1 E.2.1 dX6_goOn_125 ?_
            refine lv_topi (fun v_42 ev_42 => ?_)
            refine lv_if_eq (pc := 126) (tgt := 142) E.1 E.2.1 dX6_goOn_126 (by decide) (fun c_43 => ?_) (fun c_43 => ?_)
            · skip
              have hc_43 := eqE (a := v_42.toInt) (b := 0) rfl (by decide +kernel) c_43
              refine lv_aload_n (pc := 142) E.1 E.2.1 dX6_goOn_142 rfl (lv_at hl40 6 rfl) ?_
              refine x_get (pc := 143) (T := TX6) (N := 10) (ci := 6) (v := .ref (mr 4)) E hw22 inX6 0 3 q_1165 rfl rfl (by decide) rfl rfl dX6_goOn_143 ?_
              refine lv_iload (pc := 146) E.1 E.2.1 dX6_goOn_146 (lv_at hl40 1 rfl) ?_
              refine lv_lload (pc := 148) E.1 E.2.1 dX6_goOn_148 (lv_at hl40 0 rfl) ?_
              refine x_lastO (pc := 150) (f := g_7) (wf := fun g => (WZ_PlanS cI cJ mr mi mf (va_up mg 4 g))) E hw22 1 rfl (inbE (a := v_31.toInt) rfl (by omega)) (fun _ => rfl) dX6_goOn_150 (fun g_44 H locs hw45 => ?_)
              obtain ⟨v_46, ev_46⟩ : ∃ z : Int32, x_6 + Int32.ofInt (1) = z := ⟨_, rfl⟩
              have hv_46 : v_46.toInt = x_6.toInt + (1) := by rw [← ev_46]; exact incE rfl (by decide) (by omega)
              refine lv_iinc (pc := 151) (v := v_46) (lv' := [(7, .int v_46), (12, .long w_39), (11, .int v_31), (10, .int v_28), (9, .int r_20), (8, .int v_14), (0, .ref (mr 0)), (1, .int z_houses), (2, .int z_set), (3, .int z_a), (4, .ref (mr 11)), (5, .long z_digit)]) E.1 E.2.1 dX6_goOn_151 hl40 (k := 5) rfl ev_46 (by decide) rfl (fun ls hl47 => ?_)
              refine lv_goto (pc := 154) (tgt := 3) E.1 E.2.1 dX6_goOn_154 (by decide) ?_
              exact ih_8 v_46 g_44 _ _ _ ⟨(by show 0 ≤ v_46.toInt; omega), (by show v_46.toInt ≤ z_houses.toInt; omega)⟩ (by omega) hw45 (lv_sub hl47 [0, 6, 7, 8, 9, 10, 11] rfl)
            · skip
              have hc_43 := neE (a := v_42.toInt) (b := 0) rfl (by decide +kernel) c_43
              refine lv_aload_n (pc := 129) E.1 E.2.1 dX6_goOn_129 rfl (lv_at hl40 6 rfl) ?_
              refine x_get (pc := 130) (T := TX6) (N := 10) (ci := 6) (v := .ref (mr 4)) E hw22 inX6 0 3 q_1165 rfl rfl (by decide) rfl rfl dX6_goOn_130 ?_
              refine lv_iload (pc := 133) E.1 E.2.1 dX6_goOn_133 (lv_at hl40 1 rfl) ?_
              refine x_lald (pc := 135) (f := g_7) E hw22 1 rfl (inbE (a := v_31.toInt) rfl (by omega)) dX6_goOn_135 (fun w_48 => ?_)
              refine lv_lload (pc := 136) E.1 E.2.1 dX6_goOn_136 (lv_at hl40 0 rfl) ?_
              refine W.lcmp (pc := 138) E.1 E.2.1 dX6_goOn_138 ?_
              refine lv_topi (fun v_49 ev_49 => ?_)
              refine lv_if_le (pc := 139) (tgt := 151) E.1 E.2.1 dX6_goOn_139 (by decide) (fun c_50 => ?_) (fun c_50 => ?_)
              · skip
                have hc_50 := leE (a := v_49.toInt) (b := 0) rfl (by decide +kernel) c_50
                obtain ⟨v_51, ev_51⟩ : ∃ z : Int32, x_6 + Int32.ofInt (1) = z := ⟨_, rfl⟩
                have hv_51 : v_51.toInt = x_6.toInt + (1) := by rw [← ev_51]; exact incE rfl (by decide) (by omega)
                refine lv_iinc (pc := 151) (v := v_51) (lv' := [(7, .int v_51), (12, .long w_39), (11, .int v_31), (10, .int v_28), (9, .int r_20), (8, .int v_14), (0, .ref (mr 0)), (1, .int z_houses), (2, .int z_set), (3, .int z_a), (4, .ref (mr 11)), (5, .long z_digit)]) E.1 E.2.1 dX6_goOn_151 hl40 (k := 5) rfl ev_51 (by decide) rfl (fun ls hl52 => ?_)
                refine lv_goto (pc := 154) (tgt := 3) E.1 E.2.1 dX6_goOn_154 (by decide) ?_
                exact ih_8 v_51 g_7 _ _ _ ⟨(by show 0 ≤ v_51.toInt; omega), (by show v_51.toInt ≤ z_houses.toInt; omega)⟩ (by omega) hw22 (lv_sub hl52 [0, 6, 7, 8, 9, 10, 11] rfl)
              · skip
                have hc_50 := nleE (a := v_49.toInt) (b := 0) rfl (by decide +kernel) c_50
                refine lv_aload_n (pc := 142) E.1 E.2.1 dX6_goOn_142 rfl (lv_at hl40 6 rfl) ?_
                refine x_get (pc := 143) (T := TX6) (N := 10) (ci := 6) (v := .ref (mr 4)) E hw22 inX6 0 3 q_1165 rfl rfl (by decide) rfl rfl dX6_goOn_143 ?_
                refine lv_iload (pc := 146) E.1 E.2.1 dX6_goOn_146 (lv_at hl40 1 rfl) ?_
                refine lv_lload (pc := 148) E.1 E.2.1 dX6_goOn_148 (lv_at hl40 0 rfl) ?_
                refine x_lastO (pc := 150) (f := g_7) (wf := fun g => (WZ_PlanS cI cJ mr mi mf (va_up mg 4 g))) E hw22 1 rfl (inbE (a := v_31.toInt) rfl (by omega)) (fun _ => rfl) dX6_goOn_150 (fun g_53 H locs hw54 => ?_)
                obtain ⟨v_55, ev_55⟩ : ∃ z : Int32, x_6 + Int32.ofInt (1) = z := ⟨_, rfl⟩
                have hv_55 : v_55.toInt = x_6.toInt + (1) := by rw [← ev_55]; exact incE rfl (by decide) (by omega)
                refine lv_iinc (pc := 151) (v := v_55) (lv' := [(7, .int v_55), (12, .long w_39), (11, .int v_31), (10, .int v_28), (9, .int r_20), (8, .int v_14), (0, .ref (mr 0)), (1, .int z_houses), (2, .int z_set), (3, .int z_a), (4, .ref (mr 11)), (5, .long z_digit)]) E.1 E.2.1 dX6_goOn_151 hl40 (k := 5) rfl ev_55 (by decide) rfl (fun ls hl56 => ?_)
                refine lv_goto (pc := 154) (tgt := 3) E.1 E.2.1 dX6_goOn_154 (by decide) ?_
                exact ih_8 v_55 g_53 _ _ _ ⟨(by show 0 ≤ v_55.toInt; omega), (by show v_55.toInt ≤ z_houses.toInt; omega)⟩ (by omega) hw54 (lv_sub hl56 [0, 6, 7, 8, 9, 10, 11] rfl)
          · skip
            have hc_26 := neE (a := r_20.toInt) (b := 0) rfl (by decide +kernel) c_26
            refine lv_aload_n (pc := 63) E.1 E.2.1 dX6_goOn_63 rfl (lv_at hl25 3 rfl) ?_
            refine x_get (pc := 64) (T := TX6) (N := 10) (ci := 6) (v := .ref (mr 10)) E hw22 inX6 0 9 q_1171 rfl rfl (by decide) rfl rfl dX6_goOn_64 ?_
            refine lv_iload (pc := 67) E.1 E.2.1 dX6_goOn_67 (lv_at hl25 2 rfl) ?_
            refine x_iald (pc := 69) (f := (mf 10)) E hw22 6 rfl (inbE (a := x_6.toInt) rfl (by omega)) dX6_goOn_69 ?_
            refine lv_topi (fun v_57 ev_57 => ?_)
            have hbv_57 := allR_at (n := 10) (lo := 0) (hi := 1023) a_wed ev_57 (by show 0 ≤ x_6.toInt ∧ _; omega)
            refine lv_goto (pc := 70) (tgt := 80) E.1 E.2.1 dX6_goOn_70 (by decide) ?_
            refine lv_ior (pc := 80) E.1 E.2.1 dX6_goOn_80 ?_
            refine lv_topi (fun v_58 ev_58 => ?_)
            have hb1v_58 : 0 ≤ v_58.toInt ∧ v_58.toInt ≤ 1023 := by rw [ev_58]; exact or10 (by omega) (by omega)
            refine lv_istore (pc := 81) (lv' := [(10, .int v_58), (9, .int r_20), (8, .int v_14), (7, .int x_6), (0, .ref (mr 0)), (1, .int z_houses), (2, .int z_set), (3, .int z_a), (4, .ref (mr 11)), (5, .long z_digit)]) E.1 E.2.1 dX6_goOn_81 hl25 (by decide) rfl (fun ls hl59 => ?_)
            refine lv_iload (pc := 83) E.1 E.2.1 dX6_goOn_83 (lv_at hl59 0 rfl) ?_
            refine lv_iload_n (pc := 85) E.1 E.2.1 dX6_goOn_85 rfl (lv_at hl59 5 rfl) ?_
            refine lv_imul (pc := 86) E.1 E.2.1 dX6_goOn_86 ?_
            refine lv_topi (fun v_60 ev_60 => ?_)
            have hbv_60 : 0 ≤ v_60.toInt ∧ v_60.toInt ≤ 10230 := by rw [ev_60]; exact mulB (a := 1023) (b := 10) (by omega) (by omega) (by decide)
            refine lv_iload (pc := 87) E.1 E.2.1 dX6_goOn_87 (lv_at hl59 3 rfl) ?_
            refine lv_iadd (pc := 89) E.1 E.2.1 dX6_goOn_89 ?_
            refine lv_topi (fun v_61 ev_61 => ?_)
            have hv_61 : v_61.toInt = v_60.toInt + x_6.toInt := by rw [ev_61]; exact addE rfl rfl (by omega)
            refine lv_istore (pc := 90) (lv' := [(11, .int v_61), (10, .int v_58), (9, .int r_20), (8, .int v_14), (7, .int x_6), (0, .ref (mr 0)), (1, .int z_houses), (2, .int z_set), (3, .int z_a), (4, .ref (mr 11)), (5, .long z_digit)]) E.1 E.2.1 dX6_goOn_90 hl59 (by decide) rfl (fun ls hl62 => ?_)
            refine lv_aload_n (pc := 92) E.1 E.2.1 dX6_goOn_92 rfl (lv_at hl62 5 rfl) ?_
            refine x_get (pc := 93) (T := TX6) (N := 10) (ci := 6) (v := .ref (mr 5)) E hw22 inX6 0 4 q_1166 rfl rfl (by decide) rfl rfl dX6_goOn_93 ?_
            refine lv_iload_n (pc := 96) E.1 E.2.1 dX6_goOn_96 rfl (lv_at hl62 8 rfl) ?_
            refine x_lald (pc := 97) (f := (mg 5)) E hw22 2 rfl (inbE (a := z_a.toInt) rfl (by omega)) dX6_goOn_97 (fun w_63 => ?_)
            refine lv_iload (pc := 98) E.1 E.2.1 dX6_goOn_98 (lv_at hl62 3 rfl) ?_
            refine lv_i2l (pc := 100) E.1 E.2.1 dX6_goOn_100 rfl ?_
            refine lv_topl (fun w_64 ew_64 => ?_)
            refine lv_ldc2 (pc := 101) (v := 10000000000) E.1 E.2.1 E.2.2.2.1 (E.2.2.2.2.1 _ q_1229) dX6_goOn_101 ?_
            refine lv_lmul (pc := 104) E.1 E.2.1 dX6_goOn_104 ?_
            refine lv_topl (fun w_65 ew_65 => ?_)
            refine lv_ladd (pc := 105) E.1 E.2.1 dX6_goOn_105 ?_
            refine lv_topl (fun w_66 ew_66 => ?_)
            refine lv_iload (pc := 106) E.1 E.2.1 dX6_goOn_106 (lv_at hl62 4 rfl) ?_
            refine lv_i2l (pc := 108) E.1 E.2.1 dX6_goOn_108 rfl ?_
            refine lv_topl (fun w_67 ew_67 => ?_)
            refine lv_lload (pc := 109) E.1 E.2.1 dX6_goOn_109 (lv_at hl62 10 rfl) ?_
            refine lv_lmul (pc := 111) E.1 E.2.1 dX6_goOn_111 ?_
            refine lv_topl (fun w_68 ew_68 => ?_)
            refine lv_ladd (pc := 112) E.1 E.2.1 dX6_goOn_112 ?_
            refine lv_topl (fun w_69 ew_69 => ?_)
            refine lv_lstore (pc := 113) (lv' := [(12, .long w_69), (11, .int v_61), (10, .int v_58), (9, .int r_20), (8, .int v_14), (7, .int x_6), (0, .ref (mr 0)), (1, .int z_houses), (2, .int z_set), (3, .int z_a), (4, .ref (mr 11)), (5, .long z_digit)]) E.1 E.2.1 dX6_goOn_113 hl62 (by decide) rfl (fun ls hl70 => ?_)
            refine lv_aload_n (pc := 115) E.1 E.2.1 dX6_goOn_115 rfl (lv_at hl70 6 rfl) ?_
            refine x_get (pc := 116) (T := TX6) (N := 10) (ci := 6) (v := .ref (mr 4)) E hw22 inX6 0 3 q_1165 rfl rfl (by decide) rfl rfl dX6_goOn_116 ?_
            refine lv_iload (pc := 119) E.1 E.2.1 dX6_goOn_119 (lv_at hl70 1 rfl) ?_
            refine x_lald (pc := 121) (f := g_7) E hw22 1 rfl (inbE (a := v_61.toInt) rfl (by omega)) dX6_goOn_121 (fun w_71 => ?_)
            refine lv_ldc2 (pc := 122) (v := (-1)) E.1 E.2.1 E.2.2.2.1 (E.2.2.2.2.1 _ q_1206) dX6_goOn_122 ?_
            refine W.lcmp (pc := 125) E.1 E.2.1 dX6_goOn_125 ?_
            refine lv_topi (fun v_72 ev_72 => ?_)
            refine lv_if_eq (pc := 126) (tgt := 142) E.1 E.2.1 dX6_goOn_126 (by decide) (fun c_73 => ?_) (fun c_73 => ?_)
            · skip
              have hc_73 := eqE (a := v_72.toInt) (b := 0) rfl (by decide +kernel) c_73
              refine lv_aload_n (pc := 142) E.1 E.2.1 dX6_goOn_142 rfl (lv_at hl70 6 rfl) ?_
              refine x_get (pc := 143) (T := TX6) (N := 10) (ci := 6) (v := .ref (mr 4)) E hw22 inX6 0 3 q_1165 rfl rfl (by decide) rfl rfl dX6_goOn_143 ?_
              refine lv_iload (pc := 146) E.1 E.2.1 dX6_goOn_146 (lv_at hl70 1 rfl) ?_
              refine lv_lload (pc := 148) E.1 E.2.1 dX6_goOn_148 (lv_at hl70 0 rfl) ?_
              refine x_lastO (pc := 150) (f := g_7) (wf := fun g => (WZ_PlanS cI cJ mr mi mf (va_up mg 4 g))) E hw22 1 rfl (inbE (a := v_61.toInt) rfl (by omega)) (fun _ => rfl) dX6_goOn_150 (fun g_74 H locs hw75 => ?_)
              obtain ⟨v_76, ev_76⟩ : ∃ z : Int32, x_6 + Int32.ofInt (1) = z := ⟨_, rfl⟩
              have hv_76 : v_76.toInt = x_6.toInt + (1) := by rw [← ev_76]; exact incE rfl (by decide) (by omega)
              refine lv_iinc (pc := 151) (v := v_76) (lv' := [(7, .int v_76), (12, .long w_69), (11, .int v_61), (10, .int v_58), (9, .int r_20), (8, .int v_14), (0, .ref (mr 0)), (1, .int z_houses), (2, .int z_set), (3, .int z_a), (4, .ref (mr 11)), (5, .long z_digit)]) E.1 E.2.1 dX6_goOn_151 hl70 (k := 5) rfl ev_76 (by decide) rfl (fun ls hl77 => ?_)
              refine lv_goto (pc := 154) (tgt := 3) E.1 E.2.1 dX6_goOn_154 (by decide) ?_
              exact ih_8 v_76 g_74 _ _ _ ⟨(by show 0 ≤ v_76.toInt; omega), (by show v_76.toInt ≤ z_houses.toInt; omega)⟩ (by omega) hw75 (lv_sub hl77 [0, 6, 7, 8, 9, 10, 11] rfl)
            · skip
              have hc_73 := neE (a := v_72.toInt) (b := 0) rfl (by decide +kernel) c_73
              refine lv_aload_n (pc := 129) E.1 E.2.1 dX6_goOn_129 rfl (lv_at hl70 6 rfl) ?_
              refine x_get (pc := 130) (T := TX6) (N := 10) (ci := 6) (v := .ref (mr 4)) E hw22 inX6 0 3 q_1165 rfl rfl (by decide) rfl rfl dX6_goOn_130 ?_
              refine lv_iload (pc := 133) E.1 E.2.1 dX6_goOn_133 (lv_at hl70 1 rfl) ?_
              refine x_lald (pc := 135) (f := g_7) E hw22 1 rfl (inbE (a := v_61.toInt) rfl (by omega)) dX6_goOn_135 (fun w_78 => ?_)
              refine lv_lload (pc := 136) E.1 E.2.1 dX6_goOn_136 (lv_at hl70 0 rfl) ?_
              refine W.lcmp (pc := 138) E.1 E.2.1 dX6_goOn_138 ?_
              refine lv_topi (fun v_79 ev_79 => ?_)
              refine lv_if_le (pc := 139) (tgt := 151) E.1 E.2.1 dX6_goOn_139 (by decide) (fun c_80 => ?_) (fun c_80 => ?_)
              · skip
                have hc_80 := leE (a := v_79.toInt) (b := 0) rfl (by decide +kernel) c_80
                obtain ⟨v_81, ev_81⟩ : ∃ z : Int32, x_6 + Int32.ofInt (1) = z := ⟨_, rfl⟩
                have hv_81 : v_81.toInt = x_6.toInt + (1) := by rw [← ev_81]; exact incE rfl (by decide) (by omega)
                refine lv_iinc (pc := 151) (v := v_81) (lv' := [(7, .int v_81), (12, .long w_69), (11, .int v_61), (10, .int v_58), (9, .int r_20), (8, .int v_14), (0, .ref (mr 0)), (1, .int z_houses), (2, .int z_set), (3, .int z_a), (4, .ref (mr 11)), (5, .long z_digit)]) E.1 E.2.1 dX6_goOn_151 hl70 (k := 5) rfl ev_81 (by decide) rfl (fun ls hl82 => ?_)
                refine lv_goto (pc := 154) (tgt := 3) E.1 E.2.1 dX6_goOn_154 (by decide) ?_
                exact ih_8 v_81 g_7 _ _ _ ⟨(by show 0 ≤ v_81.toInt; omega), (by show v_81.toInt ≤ z_houses.toInt; omega)⟩ (by omega) hw22 (lv_sub hl82 [0, 6, 7, 8, 9, 10, 11] rfl)
              · skip
                have hc_80 := nleE (a := v_79.toInt) (b := 0) rfl (by decide +kernel) c_80
                refine lv_aload_n (pc := 142) E.1 E.2.1 dX6_goOn_142 rfl (lv_at hl70 6 rfl) ?_
                refine x_get (pc := 143) (T := TX6) (N := 10) (ci := 6) (v := .ref (mr 4)) E hw22 inX6 0 3 q_1165 rfl rfl (by decide) rfl rfl dX6_goOn_143 ?_
                refine lv_iload (pc := 146) E.1 E.2.1 dX6_goOn_146 (lv_at hl70 1 rfl) ?_
                refine lv_lload (pc := 148) E.1 E.2.1 dX6_goOn_148 (lv_at hl70 0 rfl) ?_
                refine x_lastO (pc := 150) (f := g_7) (wf := fun g => (WZ_PlanS cI cJ mr mi mf (va_up mg 4 g))) E hw22 1 rfl (inbE (a := v_61.toInt) rfl (by omega)) (fun _ => rfl) dX6_goOn_150 (fun g_83 H locs hw84 => ?_)
                obtain ⟨v_85, ev_85⟩ : ∃ z : Int32, x_6 + Int32.ofInt (1) = z := ⟨_, rfl⟩
                have hv_85 : v_85.toInt = x_6.toInt + (1) := by rw [← ev_85]; exact incE rfl (by decide) (by omega)
                refine lv_iinc (pc := 151) (v := v_85) (lv' := [(7, .int v_85), (12, .long w_69), (11, .int v_61), (10, .int v_58), (9, .int r_20), (8, .int v_14), (0, .ref (mr 0)), (1, .int z_houses), (2, .int z_set), (3, .int z_a), (4, .ref (mr 11)), (5, .long z_digit)]) E.1 E.2.1 dX6_goOn_151 hl70 (k := 5) rfl ev_85 (by decide) rfl (fun ls hl86 => ?_)
                refine lv_goto (pc := 154) (tgt := 3) E.1 E.2.1 dX6_goOn_154 (by decide) ?_
                exact ih_8 v_85 g_83 _ _ _ ⟨(by show 0 ≤ v_85.toInt; omega), (by show v_85.toInt ≤ z_houses.toInt; omega)⟩ (by omega) hw84 (lv_sub hl86 [0, 6, 7, 8, 9, 10, 11] rfl)
  exact loop_5 (Int.toNat (z_houses.toInt - 0) + 1) 0 (mg 4) _ _ _ ⟨(by show 0 ≤ (0 : Int32).toInt; have k_0 : (0 : Int32).toInt = 0 := (by decide +kernel); omega), (by show (0 : Int32).toInt ≤ z_houses.toInt; have k_0 : (0 : Int32).toInt = 0 := (by decide +kernel); omega)⟩ (by have k_0 : (0 : Int32).toInt = 0 := (by decide +kernel); omega) hw1 (lv_sub hl4 [0, 1, 2, 3, 4, 5, 6] rfl)
set_option maxHeartbeats 4000000 in
set_option maxRecDepth 100000 in
theorem t_spreadNight_s (l : Launch) (D : va_G) (cI cJ : ClassId) (sz : Nat) (mr : Nat → Nat) (mi : Nat → Int32) (mf : Nat → Nat → Int32) (mg : Nat → Nat → Int64) (z_houses : Int32) (z_sets : Int32) (z_digit : Int64) (h0 : 0 ≤ z_houses.toInt ∧ z_houses.toInt ≤ 10) (h1 : 1 ≤ z_sets.toInt ∧ z_sets.toInt ≤ 1024) (a_served : s1k (mf 9)) (a_wed : s1k (mf 10)) : Met l yX6_spreadNight (Cond.code yX6_spreadNight cX6_spreadNight 8 none :: GW) ({ frames := 3, cells := 0, slots := 0, locals := 94 } : Room) (va_Pc [.ref (mr 0), .int z_houses, .int z_sets, .ref (mr 11), .long z_digit] (PW D cI cJ sz (WZ_PlanS cI cJ mr mi mf mg) xT)) (va_Qv (fun (u : (Nat → Int64) × (Nat → Int64)) => True) (fun u => QW D cI cJ (va_A (WZ_PlanS cI cJ mr mi mf mg) sz) ((fun (u : (Nat → Int64) × (Nat → Int64)) => (WZ_PlanS cI cJ mr mi mf (va_up (va_up mg 4 u.1) 5 u.2))) u)) (va_A (WZ_PlanS cI cJ mr mi mf mg) sz)) 0 0 (va_A (WZ_PlanS cI cJ mr mi mf mg) sz) := by
  refine mk_met (y := yX6_spreadNight) (bytes := cX6_spreadNight) (maxL := 8) (avs := [.ref (mr 0), .int z_houses, .int z_sets, .ref (mr 11), .long z_digit]) (WS := (WZ_PlanS cI cJ mr mi mf mg)) (Qf := fun A => va_Qv (fun (u : (Nat → Int64) × (Nat → Int64)) => True) (fun u => QW D cI cJ A ((fun (u : (Nat → Int64) × (Nat → Int64)) => (WZ_PlanS cI cJ mr mi mf (va_up (va_up mg 4 u.1) 5 u.2))) u)) A) (by decide) (Nat.le_of_ble_eq_true rfl) ?_
  intro p e s m below meth c A ls E hr hlk hnm hX hw1 hl2
  have hl3 : lv_has ls 8 [(0, .ref (mr 0)), (1, .int z_houses), (2, .int z_sets), (3, .ref (mr 11)), (4, .long z_digit)] := hl2
  refine lv_iload_n (pc := 0) E.1 E.2.1 dX6_spreadNight_0 rfl (lv_at hl3 2 rfl) ?_
  refine lv_iconst (pc := 1) (v := 1) E.1 E.2.1 dX6_spreadNight_1 (by decide +kernel) ?_
  refine lv_isub (pc := 2) E.1 E.2.1 dX6_spreadNight_2 ?_
  refine lv_topi (fun v_4 ev_4 => ?_)
  have hv_4 : v_4.toInt = z_sets.toInt - 1 := by rw [ev_4]; exact subE rfl (by decide +kernel) (by omega)
  refine lv_istore (pc := 3) (lv' := [(6, .int v_4), (0, .ref (mr 0)), (1, .int z_houses), (2, .int z_sets), (3, .ref (mr 11)), (4, .long z_digit)]) E.1 E.2.1 dX6_spreadNight_3 hl3 (by decide) rfl (fun ls hl5 => ?_)
  have loop_6 : ∀ (k : Nat) (x_7 : Int32) (g_8 : Nat → Int64) (g_9 : Nat → Int64) (H : Heap) (locs : List Loc) (ls : Array Slot), ((-1) ≤ x_7.toInt) ∧ (x_7.toInt + 1 ≤ z_sets.toInt) → x_7.toInt + 1 < (k : Int) → WD D A s.heap (WZ_PlanS cI cJ mr mi mf (va_up (va_up mg 4 g_8) 5 g_9)) H locs → lv_has ls 8 [(6, .int x_7), (0, .ref (mr 0)), (1, .int z_houses), (2, .int z_sets), (3, .ref (mr 11)), (4, .long z_digit)] → W p l e ({ frames := 3, cells := 0, slots := 0, locals := 94 } : Room) s m ([.ref (mr 0), .int z_houses, .int z_sets, .ref (mr 11), .long z_digit] : List Value).toArray below meth c H locs 0 0 (MQ below (va_Qv (fun (u : (Nat → Int64) × (Nat → Int64)) => True) (fun u => QW D cI cJ A ((fun (u : (Nat → Int64) × (Nat → Int64)) => (WZ_PlanS cI cJ mr mi mf (va_up (va_up mg 4 u.1) 5 u.2))) u)) A) ([.ref (mr 0), .int z_houses, .int z_sets, .ref (mr 11), .long z_digit] : List Value).toArray s 0 0 A) (F0 m 5 ls []) := by
    intro k
    induction k with
    | zero =>
      intro x_7 g_8 g_9 _ _ _ hinv hm
      obtain ⟨hi_9_0, hi_9_1⟩ := hinv
      exact absurd hm (by omega)
    | succ k ih_10 =>
      intro x_7 g_8 g_9 H locs ls hinv hm hw11 hl12
      obtain ⟨hi_9_0, hi_9_1⟩ := hinv
      refine lv_iload (pc := 5) E.1 E.2.1 dX6_spreadNight_5 (lv_at hl12 0 rfl) ?_
      refine lv_if_lt (pc := 7) (tgt := 67) E.1 E.2.1 dX6_spreadNight_7 (by decide) (fun c_13 => ?_) (fun c_13 => ?_)
      · skip
        have hc_13 := ltE (a := x_7.toInt) (b := 0) rfl (by decide +kernel) c_13
        exact em_v (w1 := (fun (u : (Nat → Int64) × (Nat → Int64)) => (WZ_PlanS cI cJ mr mi mf (va_up (va_up mg 4 u.1) 5 u.2)))) E hr hlk (g_8, g_9) hw11 trivial (Nat.le_of_ble_eq_true rfl) (Nat.le_of_ble_eq_true rfl) dX6_spreadNight_67
      · skip
        have hc_13 := nltE (a := x_7.toInt) (b := 0) rfl (by decide +kernel) c_13
        refine lv_aload_n (pc := 10) E.1 E.2.1 dX6_spreadNight_10 rfl (lv_at hl12 1 rfl) ?_
        refine lv_iload_n (pc := 11) E.1 E.2.1 dX6_spreadNight_11 rfl (lv_at hl12 2 rfl) ?_
        refine lv_iload (pc := 12) E.1 E.2.1 dX6_spreadNight_12 (lv_at hl12 0 rfl) ?_
        refine ck_i (pc := 14) (ws' := (fun (u : (Nat → Int64) × (Nat → Int64)) => (WZ_PlanS cI cJ mr mi mf (va_up (va_up mg 4 u.1) 5 u.2)))) [true, true, true, true, true, true, true, false, false, false, false, false, false] hw11 rfl (fun hC_ => (rn_V (As := [.int z_houses, .int x_7]) (rest := []) E hw11 (t_lift l D cI cJ _ mr mi mf (va_up (va_up mg 4 g_8) 5 g_9) z_houses x_7 h0 (by show 0 ≤ x_7.toInt ∧ x_7.toInt ≤ 1023; omega)) (gdV q_1220 q_1222 q_35 q_170 q_1223) hdV_X6_lift ⟨rfl, rfl⟩ ⟨(Nat.le_of_ble_eq_true rfl), (Nat.le_of_ble_eq_true rfl)⟩ ⟨(Nat.le_of_ble_eq_true rfl), (Nat.le_of_ble_eq_true rfl)⟩ xT_b xT_at 0 6 rfl rfl rfl _ hC_ (nd_T _ 0) rfl hl12.1 rfl (Nat.le_of_ble_eq_true rfl) dX6_spreadNight_14)) rfl (fun _ => rfl) (fun _ => rfl) (fun r_15 u_14 H1 locs hp hw16 => ?_)
        obtain ⟨gcosts_17, glifted_18⟩ := u_14
        generalize H1 = H at hw16 ⊢
        have hw19 : WD D A s.heap (WZ_PlanS cI cJ mr mi mf (va_up (va_up mg 4 gcosts_17) 5 glifted_18)) H locs := hw16
        obtain ⟨hp_20, hp_21⟩ := hp
        have hp_20 : 0 ≤ r_15.toInt := hp_20
        have hp_21 : r_15.toInt ≤ 1 := hp_21
        refine lv_if_eq (pc := 17) (tgt := 61) E.1 E.2.1 dX6_spreadNight_17 (by decide) (fun c_22 => ?_) (fun c_22 => ?_)
        · skip
          have hc_22 := eqE (a := r_15.toInt) (b := 0) rfl (by decide +kernel) c_22
          obtain ⟨v_23, ev_23⟩ : ∃ z : Int32, x_7 + Int32.ofInt (-1) = z := ⟨_, rfl⟩
          have hv_23 : v_23.toInt = x_7.toInt + (-1) := by rw [← ev_23]; exact incE rfl (by decide) (by omega)
          refine lv_iinc (pc := 61) (v := v_23) (lv' := [(6, .int v_23), (0, .ref (mr 0)), (1, .int z_houses), (2, .int z_sets), (3, .ref (mr 11)), (4, .long z_digit)]) E.1 E.2.1 dX6_spreadNight_61 hl12 (k := 0) rfl ev_23 (by decide) rfl (fun ls hl24 => ?_)
          refine lv_goto (pc := 64) (tgt := 5) E.1 E.2.1 dX6_spreadNight_64 (by decide) ?_
          exact ih_10 v_23 gcosts_17 glifted_18 _ _ _ ⟨(by show (-1) ≤ v_23.toInt; omega), (by show v_23.toInt + 1 ≤ z_sets.toInt; omega)⟩ (by omega) hw19 (lv_sub hl24 [0, 1, 2, 3, 4, 5] rfl)
        · skip
          have hc_22 := neE (a := r_15.toInt) (b := 0) rfl (by decide +kernel) c_22
          refine lv_iconst (pc := 20) (v := 0) E.1 E.2.1 dX6_spreadNight_20 (by decide +kernel) ?_
          refine lv_istore (pc := 21) (lv' := [(7, .int 0), (6, .int x_7), (0, .ref (mr 0)), (1, .int z_houses), (2, .int z_sets), (3, .ref (mr 11)), (4, .long z_digit)]) E.1 E.2.1 dX6_spreadNight_21 hl12 (by decide) rfl (fun ls hl25 => ?_)
          have loop_26 : ∀ (k : Nat) (x_27 : Int32) (g_28 : Nat → Int64) (H : Heap) (locs : List Loc) (ls : Array Slot), (0 ≤ x_27.toInt) ∧ (x_27.toInt ≤ z_houses.toInt) → z_houses.toInt - x_27.toInt < (k : Int) → WD D A s.heap (WZ_PlanS cI cJ mr mi mf (va_up (va_up mg 4 g_28) 5 glifted_18)) H locs → lv_has ls 8 [(7, .int x_27), (6, .int x_7), (0, .ref (mr 0)), (1, .int z_houses), (2, .int z_sets), (3, .ref (mr 11)), (4, .long z_digit)] → W p l e ({ frames := 3, cells := 0, slots := 0, locals := 94 } : Room) s m ([.ref (mr 0), .int z_houses, .int z_sets, .ref (mr 11), .long z_digit] : List Value).toArray below meth c H locs 0 0 (MQ below (va_Qv (fun (u : (Nat → Int64) × (Nat → Int64)) => True) (fun u => QW D cI cJ A ((fun (u : (Nat → Int64) × (Nat → Int64)) => (WZ_PlanS cI cJ mr mi mf (va_up (va_up mg 4 u.1) 5 u.2))) u)) A) ([.ref (mr 0), .int z_houses, .int z_sets, .ref (mr 11), .long z_digit] : List Value).toArray s 0 0 A) (F0 m 23 ls []) := by
            intro k
            induction k with
            | zero =>
              intro x_27 g_28 _ _ _ hinv hm
              obtain ⟨hi_28_0, hi_28_1⟩ := hinv
              exact absurd hm (by omega)
            | succ k ih_29 =>
              intro x_27 g_28 H locs ls hinv hm hw30 hl31
              obtain ⟨hi_28_0, hi_28_1⟩ := hinv
              refine lv_iload (pc := 23) E.1 E.2.1 dX6_spreadNight_23 (lv_at hl31 0 rfl) ?_
              refine lv_iload_n (pc := 25) E.1 E.2.1 dX6_spreadNight_25 rfl (lv_at hl31 3 rfl) ?_
              refine lv_icmp_ge (pc := 26) (tgt := 61) E.1 E.2.1 dX6_spreadNight_26 (by decide) (fun c_32 => ?_) (fun c_32 => ?_)
              · skip
                have hc_32 := leE (a := z_houses.toInt) (b := x_27.toInt) rfl rfl c_32
                obtain ⟨v_33, ev_33⟩ : ∃ z : Int32, x_7 + Int32.ofInt (-1) = z := ⟨_, rfl⟩
                have hv_33 : v_33.toInt = x_7.toInt + (-1) := by rw [← ev_33]; exact incE rfl (by decide) (by omega)
                refine lv_iinc (pc := 61) (v := v_33) (lv' := [(6, .int v_33), (7, .int x_27), (0, .ref (mr 0)), (1, .int z_houses), (2, .int z_sets), (3, .ref (mr 11)), (4, .long z_digit)]) E.1 E.2.1 dX6_spreadNight_61 hl31 (k := 1) rfl ev_33 (by decide) rfl (fun ls hl34 => ?_)
                refine lv_goto (pc := 64) (tgt := 5) E.1 E.2.1 dX6_spreadNight_64 (by decide) ?_
                exact ih_10 v_33 g_28 glifted_18 _ _ _ ⟨(by show (-1) ≤ v_33.toInt; omega), (by show v_33.toInt + 1 ≤ z_sets.toInt; omega)⟩ (by omega) hw30 (lv_sub hl34 [0, 2, 3, 4, 5, 6] rfl)
              · skip
                have hc_32 := nleE (a := z_houses.toInt) (b := x_27.toInt) rfl rfl c_32
                refine lv_aload_n (pc := 29) E.1 E.2.1 dX6_spreadNight_29 rfl (lv_at hl31 2 rfl) ?_
                refine x_get (pc := 30) (T := TX6) (N := 10) (ci := 6) (v := .ref (mr 5)) E hw30 inX6 0 4 q_1166 rfl rfl (by decide) rfl rfl dX6_spreadNight_30 ?_
                refine lv_iload (pc := 33) E.1 E.2.1 dX6_spreadNight_33 (lv_at hl31 0 rfl) ?_
                refine x_lald (pc := 35) (f := glifted_18) E hw30 2 rfl (inbE (a := x_27.toInt) rfl (by omega)) dX6_spreadNight_35 (fun w_35 => ?_)
                refine lv_ldc2 (pc := 36) (v := (-1)) E.1 E.2.1 E.2.2.2.1 (E.2.2.2.2.1 _ q_1206) dX6_spreadNight_36 ?_
                refine W.lcmp (pc := 39) E.1 E.2.1 dX6_spreadNight_39 ?_
                refine lv_topi (fun v_36 ev_36 => ?_)
                refine lv_if_eq (pc := 40) (tgt := 55) E.1 E.2.1 dX6_spreadNight_40 (by decide) (fun c_37 => ?_) (fun c_37 => ?_)
                · skip
                  have hc_37 := eqE (a := v_36.toInt) (b := 0) rfl (by decide +kernel) c_37
                  obtain ⟨v_38, ev_38⟩ : ∃ z : Int32, x_27 + Int32.ofInt (1) = z := ⟨_, rfl⟩
                  have hv_38 : v_38.toInt = x_27.toInt + (1) := by rw [← ev_38]; exact incE rfl (by decide) (by omega)
                  refine lv_iinc (pc := 55) (v := v_38) (lv' := [(7, .int v_38), (6, .int x_7), (0, .ref (mr 0)), (1, .int z_houses), (2, .int z_sets), (3, .ref (mr 11)), (4, .long z_digit)]) E.1 E.2.1 dX6_spreadNight_55 hl31 (k := 0) rfl ev_38 (by decide) rfl (fun ls hl39 => ?_)
                  refine lv_goto (pc := 58) (tgt := 23) E.1 E.2.1 dX6_spreadNight_58 (by decide) ?_
                  exact ih_29 v_38 g_28 _ _ _ ⟨(by show 0 ≤ v_38.toInt; omega), (by show v_38.toInt ≤ z_houses.toInt; omega)⟩ (by omega) hw30 (lv_sub hl39 [0, 1, 2, 3, 4, 5, 6] rfl)
                · skip
                  have hc_37 := neE (a := v_36.toInt) (b := 0) rfl (by decide +kernel) c_37
                  refine lv_aload_n (pc := 43) E.1 E.2.1 dX6_spreadNight_43 rfl (lv_at hl31 2 rfl) ?_
                  refine lv_iload_n (pc := 44) E.1 E.2.1 dX6_spreadNight_44 rfl (lv_at hl31 3 rfl) ?_
                  refine lv_iload (pc := 45) E.1 E.2.1 dX6_spreadNight_45 (lv_at hl31 1 rfl) ?_
                  refine lv_iload (pc := 47) E.1 E.2.1 dX6_spreadNight_47 (lv_at hl31 0 rfl) ?_
                  refine lv_aload_n (pc := 49) E.1 E.2.1 dX6_spreadNight_49 rfl (lv_at hl31 5 rfl) ?_
                  refine lv_lload (pc := 50) E.1 E.2.1 dX6_spreadNight_50 (lv_at hl31 6 rfl) ?_
                  refine ck_v (pc := 52) (ws' := (fun (u : (Nat → Int64)) => (WZ_PlanS cI cJ mr mi mf (va_up (va_up mg 4 u) 5 glifted_18)))) [true, true, true, true, true, true, true, true, true, true, true, true, true] hw30 rfl (fun hC_ => (rn_V (As := [.int z_houses, .int x_7, .int x_27, .ref (mr 11), .long z_digit]) (rest := []) E hw30 (t_goOn_s l D cI cJ _ mr mi mf (va_up (va_up mg 4 g_28) 5 glifted_18) z_houses x_7 x_27 z_digit h0 (by show 0 ≤ x_7.toInt ∧ x_7.toInt ≤ 1023; omega) (by show 0 ≤ x_27.toInt ∧ x_27.toInt ≤ 9; omega) a_served a_wed) (gdV q_1224 q_1226 q_36 q_170 q_1227) hdV_X6_goOn ⟨rfl, rfl⟩ ⟨(Nat.le_of_ble_eq_true rfl), (Nat.le_of_ble_eq_true rfl)⟩ ⟨(Nat.le_of_ble_eq_true rfl), (Nat.le_of_ble_eq_true rfl)⟩ xT_b xT_at 0 6 rfl rfl rfl _ hC_ (nd_T _ 0) rfl hl31.1 rfl (Nat.le_of_ble_eq_true rfl) dX6_spreadNight_52)) rfl (fun _ => rfl) (fun _ => rfl) (fun u_40 H1 locs hp hw42 => ?_)
                  obtain ⟨gcosts_43, rfl⟩ : ∃ z, z = u_40 := ⟨_, rfl⟩
                  generalize H1 = H at hw42 ⊢
                  have hw44 : WD D A s.heap (WZ_PlanS cI cJ mr mi mf (va_up (va_up mg 4 gcosts_43) 5 glifted_18)) H locs := hw42
                  obtain ⟨v_45, ev_45⟩ : ∃ z : Int32, x_27 + Int32.ofInt (1) = z := ⟨_, rfl⟩
                  have hv_45 : v_45.toInt = x_27.toInt + (1) := by rw [← ev_45]; exact incE rfl (by decide) (by omega)
                  refine lv_iinc (pc := 55) (v := v_45) (lv' := [(7, .int v_45), (6, .int x_7), (0, .ref (mr 0)), (1, .int z_houses), (2, .int z_sets), (3, .ref (mr 11)), (4, .long z_digit)]) E.1 E.2.1 dX6_spreadNight_55 hl31 (k := 0) rfl ev_45 (by decide) rfl (fun ls hl46 => ?_)
                  refine lv_goto (pc := 58) (tgt := 23) E.1 E.2.1 dX6_spreadNight_58 (by decide) ?_
                  exact ih_29 v_45 gcosts_43 _ _ _ ⟨(by show 0 ≤ v_45.toInt; omega), (by show v_45.toInt ≤ z_houses.toInt; omega)⟩ (by omega) hw44 (lv_sub hl46 [0, 1, 2, 3, 4, 5, 6] rfl)
          exact loop_26 (Int.toNat (z_houses.toInt - 0) + 1) 0 gcosts_17 _ _ _ ⟨(by show 0 ≤ (0 : Int32).toInt; have k_0 : (0 : Int32).toInt = 0 := (by decide +kernel); omega), (by show (0 : Int32).toInt ≤ z_houses.toInt; have k_0 : (0 : Int32).toInt = 0 := (by decide +kernel); omega)⟩ (by have k_0 : (0 : Int32).toInt = 0 := (by decide +kernel); omega) hw19 (lv_sub hl25 [0, 1, 2, 3, 4, 5, 6] rfl)
  exact loop_6 (Int.toNat (v_4.toInt + 1) + 1) v_4 (mg 4) (mg 5) _ _ _ ⟨(by show (-1) ≤ v_4.toInt; omega), (by show v_4.toInt + 1 ≤ z_sets.toInt; omega)⟩ (by omega) hw1 (lv_sub hl5 [0, 1, 2, 3, 4, 5] rfl)
set_option maxHeartbeats 4000000 in
set_option maxRecDepth 100000 in
theorem t_gatherNeeds (l : Launch) (D : va_G) (cI cJ : ClassId) (sz : Nat) (mr : Nat → Nat) (mi : Nat → Int32) (mf : Nat → Nat → Int32) (mg : Nat → Nat → Int64) (z_n : Int32) (mv : Nat → Value) (h0 : 0 ≤ (mi 40).toInt ∧ (mi 40).toInt ≤ 10) (h1 : 0 ≤ (mi 48).toInt ∧ (mi 48).toInt ≤ 40) (h2 : 0 ≤ (mi 57).toInt ∧ (mi 57).toInt ≤ 10) (a_wanted : w9 (mf 7)) : Met l yX6_gatherNeeds (Cond.code yX6_gatherNeeds cX6_gatherNeeds 6 none :: GW) ({ frames := 1, cells := 0, slots := 0, locals := 40 } : Room) (va_Pc [.ref (mr 0), .ref (mr 11), .int z_n] (PW D cI cJ sz (WZ_PVO cI cJ mv mr mi mf mg) xT)) (va_Qv (fun (u : Int32 × (Nat → Int32)) => (0 ≤ u.1.toInt) ∧ (u.1.toInt ≤ 10) ∧ (w9 u.2)) (fun u => QW D cI cJ (va_A (WZ_PVO cI cJ mv mr mi mf mg) sz) ((fun (u : Int32 × (Nat → Int32)) => (WZ_PVO cI cJ mv mr (upd mi 8 u.1) (va_up mf 7 u.2) mg)) u)) (va_A (WZ_PVO cI cJ mv mr mi mf mg) sz)) 0 0 (va_A (WZ_PVO cI cJ mv mr mi mf mg) sz) := by
  refine mk_met (y := yX6_gatherNeeds) (bytes := cX6_gatherNeeds) (maxL := 6) (avs := [.ref (mr 0), .ref (mr 11), .int z_n]) (WS := (WZ_PVO cI cJ mv mr mi mf mg)) (Qf := fun A => va_Qv (fun (u : Int32 × (Nat → Int32)) => (0 ≤ u.1.toInt) ∧ (u.1.toInt ≤ 10) ∧ (w9 u.2)) (fun u => QW D cI cJ A ((fun (u : Int32 × (Nat → Int32)) => (WZ_PVO cI cJ mv mr (upd mi 8 u.1) (va_up mf 7 u.2) mg)) u)) A) (by decide) (Nat.le_of_ble_eq_true rfl) ?_
  intro p e s m below meth c A ls E hr hlk hnm hX hw1 hl2
  have hl3 : lv_has ls 6 [(0, .ref (mr 0)), (1, .ref (mr 11)), (2, .int z_n)] := hl2
  refine lv_aload_n (pc := 0) E.1 E.2.1 dX6_gatherNeeds_0 rfl (lv_at hl3 1 rfl) ?_
  refine x_get (pc := 1) (T := TX10) (N := 17) (ci := 10) (v := .ref (mr 21)) E hw1 inX10 7 0 q_459 rfl rfl (by decide) rfl rfl dX6_gatherNeeds_1 ?_
  refine x_get (pc := 4) (T := TX4) (N := 12) (ci := 4) (v := .int (mi 29)) E hw1 inX4 13 7 q_218 rfl rfl (by decide) rfl rfl dX6_gatherNeeds_4 ?_
  refine lv_istore_n (pc := 7) (lv' := [(3, .int (mi 29)), (0, .ref (mr 0)), (1, .ref (mr 11)), (2, .int z_n)]) E.1 E.2.1 dX6_gatherNeeds_7 rfl hl3 (by decide) rfl (fun ls hl4 => ?_)
  refine lv_aload_n (pc := 8) E.1 E.2.1 dX6_gatherNeeds_8 rfl (lv_at hl4 1 rfl) ?_
  refine lv_iconst (pc := 9) (v := 0) E.1 E.2.1 dX6_gatherNeeds_9 (by decide +kernel) ?_
  refine x_put (pc := 10) (T := TX6) (N := 10) (ci := 6) (ws' := (WZ_PVO cI cJ mv mr (upd mi 8 0) mf mg)) E hw1 inX6 tyX6_ok nmX6 0 7 q_1169 rfl rfl (by decide) rfl rfl rfl rfl (Nat.le_of_ble_eq_true rfl) rfl dX6_gatherNeeds_10 (fun H locs hw5 => ?_)
  refine lv_iconst (pc := 13) (v := 0) E.1 E.2.1 dX6_gatherNeeds_13 (by decide +kernel) ?_
  refine lv_istore (pc := 14) (lv' := [(4, .int 0), (3, .int (mi 29)), (0, .ref (mr 0)), (1, .ref (mr 11)), (2, .int z_n)]) E.1 E.2.1 dX6_gatherNeeds_14 hl4 (by decide) rfl (fun ls hl6 => ?_)
  have loop_7 : ∀ (k : Nat) (x_8 : Int32) (x_9 : Int32) (g_10 : Nat → Int32) (H : Heap) (locs : List Loc) (ls : Array Slot), (0 ≤ x_8.toInt) ∧ (x_8.toInt ≤ 10) ∧ (0 ≤ x_9.toInt) ∧ (x_9.toInt ≤ x_8.toInt) ∧ w9 g_10 → 10 - x_8.toInt < (k : Int) → WD D A s.heap (WZ_PVO cI cJ mv mr (upd mi 8 x_9) (va_up mf 7 g_10) mg) H locs → lv_has ls 6 [(4, .int x_8), (3, .int (mi 29)), (0, .ref (mr 0)), (1, .ref (mr 11)), (2, .int z_n)] → W p l e ({ frames := 1, cells := 0, slots := 0, locals := 40 } : Room) s m ([.ref (mr 0), .ref (mr 11), .int z_n] : List Value).toArray below meth c H locs 0 0 (MQ below (va_Qv (fun (u : Int32 × (Nat → Int32)) => (0 ≤ u.1.toInt) ∧ (u.1.toInt ≤ 10) ∧ (w9 u.2)) (fun u => QW D cI cJ A ((fun (u : Int32 × (Nat → Int32)) => (WZ_PVO cI cJ mv mr (upd mi 8 u.1) (va_up mf 7 u.2) mg)) u)) A) ([.ref (mr 0), .ref (mr 11), .int z_n] : List Value).toArray s 0 0 A) (F0 m 16 ls []) := by
    intro k
    induction k with
    | zero =>
      intro x_8 x_9 g_10 _ _ _ hinv hm
      obtain ⟨hi_10_0, hi_10_1, hi_10_2, hi_10_3, hi_10_4⟩ := hinv
      exact absurd hm (by omega)
    | succ k ih_11 =>
      intro x_8 x_9 g_10 H locs ls hinv hm hw12 hl13
      obtain ⟨hi_10_0, hi_10_1, hi_10_2, hi_10_3, hi_10_4⟩ := hinv
      refine lv_iload (pc := 16) E.1 E.2.1 dX6_gatherNeeds_16 (lv_at hl13 0 rfl) ?_
      refine lv_aload_n (pc := 18) E.1 E.2.1 dX6_gatherNeeds_18 rfl (lv_at hl13 3 rfl) ?_
      refine x_get (pc := 19) (T := TX10) (N := 17) (ci := 10) (v := .ref (mr 51)) E hw12 inX10 7 3 q_468 rfl rfl (by decide) rfl rfl dX6_gatherNeeds_19 ?_
      refine x_get (pc := 22) (T := TX3) (N := 6) (ci := 3) (v := .int (mi 57)) E hw12 inX3 34 5 q_362 rfl rfl (by decide) rfl rfl dX6_gatherNeeds_22 ?_
      refine lv_icmp_ge (pc := 25) (tgt := 134) E.1 E.2.1 dX6_gatherNeeds_25 (by decide) (fun c_14 => ?_) (fun c_14 => ?_)
      · skip
        have hc_14 := leE (a := (mi 57).toInt) (b := x_8.toInt) rfl rfl c_14
        exact em_v (w1 := (fun (u : Int32 × (Nat → Int32)) => (WZ_PVO cI cJ mv mr (upd mi 8 u.1) (va_up mf 7 u.2) mg))) E hr hlk (x_9, g_10) hw12 ⟨hi_10_2, (by show x_9.toInt ≤ 10; omega), hi_10_4⟩ (Nat.le_of_ble_eq_true rfl) (Nat.le_of_ble_eq_true rfl) dX6_gatherNeeds_134
      · skip
        have hc_14 := nleE (a := (mi 57).toInt) (b := x_8.toInt) rfl rfl c_14
        refine lv_iload (pc := 28) E.1 E.2.1 dX6_gatherNeeds_28 (lv_at hl13 0 rfl) ?_
        refine lv_bipush (pc := 30) (v := 10) E.1 E.2.1 dX6_gatherNeeds_30 (by decide +kernel) ?_
        refine lv_icmp_ge (pc := 32) (tgt := 134) E.1 E.2.1 dX6_gatherNeeds_32 (by decide) (fun c_15 => absurd c_15 (mnleE (a := 10) (b := x_8.toInt) (by decide +kernel) rfl (by omega))) (fun _ => ?_)
        refine lv_aload_n (pc := 35) E.1 E.2.1 dX6_gatherNeeds_35 rfl (lv_at hl13 3 rfl) ?_
        refine x_get (pc := 36) (T := TX10) (N := 17) (ci := 10) (v := .ref (mr 21)) E hw12 inX10 7 0 q_459 rfl rfl (by decide) rfl rfl dX6_gatherNeeds_36 ?_
        refine x_get (pc := 39) (T := TX4) (N := 12) (ci := 4) (v := .ref (mr 26)) E hw12 inX4 13 4 q_204 rfl rfl (by decide) rfl rfl dX6_gatherNeeds_39 ?_
        refine lv_iload (pc := 42) E.1 E.2.1 dX6_gatherNeeds_42 (lv_at hl13 0 rfl) ?_
        refine x_iald (pc := 44) (f := (mf 26)) E hw12 18 rfl (inbE (a := x_8.toInt) rfl (by omega)) dX6_gatherNeeds_44 ?_
        refine lv_topi (fun v_16 ev_16 => ?_)
        refine lv_iconst (pc := 45) (v := (-1)) E.1 E.2.1 dX6_gatherNeeds_45 (by decide +kernel) ?_
        refine lv_icmp_ne (pc := 46) (tgt := 65) E.1 E.2.1 dX6_gatherNeeds_46 (by decide) (fun c_17 => ?_) (fun c_17 => ?_)
        · skip
          have hc_17 := neE (a := v_16.toInt) (b := (-1)) rfl (by decide +kernel) c_17
          refine lv_iconst (pc := 65) (v := 1) E.1 E.2.1 dX6_gatherNeeds_65 (by decide +kernel) ?_
          refine lv_goto (pc := 66) (tgt := 70) E.1 E.2.1 dX6_gatherNeeds_66 (by decide) ?_
          refine lv_istore (pc := 70) (lv' := [(5, .int 1), (4, .int x_8), (3, .int (mi 29)), (0, .ref (mr 0)), (1, .ref (mr 11)), (2, .int z_n)]) E.1 E.2.1 dX6_gatherNeeds_70 hl13 (by decide) rfl (fun ls hl18 => ?_)
          refine lv_iload (pc := 72) E.1 E.2.1 dX6_gatherNeeds_72 (lv_at hl18 0 rfl) ?_
          refine lv_if_ne (pc := 74) (tgt := 128) E.1 E.2.1 dX6_gatherNeeds_74 (by decide) (fun _ => ?_) (fun c_19 => absurd c_19 (mneE (a := 1) (b := 0) (by decide +kernel) (by decide +kernel) (by omega)))
          obtain ⟨v_20, ev_20⟩ : ∃ z : Int32, x_8 + Int32.ofInt (1) = z := ⟨_, rfl⟩
          have hv_20 : v_20.toInt = x_8.toInt + (1) := by rw [← ev_20]; exact incE rfl (by decide) (by omega)
          refine lv_iinc (pc := 128) (v := v_20) (lv' := [(4, .int v_20), (5, .int 1), (3, .int (mi 29)), (0, .ref (mr 0)), (1, .ref (mr 11)), (2, .int z_n)]) E.1 E.2.1 dX6_gatherNeeds_128 hl18 (k := 1) rfl ev_20 (by decide) rfl (fun ls hl21 => ?_)
          refine lv_goto (pc := 131) (tgt := 16) E.1 E.2.1 dX6_gatherNeeds_131 (by decide) ?_
          exact ih_11 v_20 x_9 g_10 _ _ _ ⟨(by show 0 ≤ v_20.toInt; omega), (by show v_20.toInt ≤ 10; omega), hi_10_2, (by show x_9.toInt ≤ v_20.toInt; omega), hi_10_4⟩ (by omega) hw12 (lv_sub hl21 [0, 2, 3, 4, 5] rfl)
        · skip
          have hc_17 := eqE (a := v_16.toInt) (b := (-1)) rfl (by decide +kernel) c_17
          refine lv_aload_n (pc := 49) E.1 E.2.1 dX6_gatherNeeds_49 rfl (lv_at hl13 3 rfl) ?_
          refine x_get (pc := 50) (T := TX10) (N := 17) (ci := 10) (v := .ref (mr 21)) E hw12 inX10 7 0 q_459 rfl rfl (by decide) rfl rfl dX6_gatherNeeds_50 ?_
          refine x_get (pc := 53) (T := TX4) (N := 12) (ci := 4) (v := .int (mi 27)) E hw12 inX4 13 5 q_209 rfl rfl (by decide) rfl rfl dX6_gatherNeeds_53 ?_
          refine lv_iload (pc := 56) E.1 E.2.1 dX6_gatherNeeds_56 (lv_at hl13 0 rfl) ?_
          refine lv_ishr (pc := 58) E.1 E.2.1 dX6_gatherNeeds_58 ?_
          refine lv_topi (fun v_22 ev_22 => ?_)
          refine lv_iconst (pc := 59) (v := 1) E.1 E.2.1 dX6_gatherNeeds_59 (by decide +kernel) ?_
          refine lv_iand (pc := 60) E.1 E.2.1 dX6_gatherNeeds_60 ?_
          refine lv_topi (fun v_23 ev_23 => ?_)
          refine lv_iconst (pc := 61) (v := 1) E.1 E.2.1 dX6_gatherNeeds_61 (by decide +kernel) ?_
          refine lv_icmp_ne (pc := 62) (tgt := 69) E.1 E.2.1 dX6_gatherNeeds_62 (by decide) (fun c_24 => ?_) (fun c_24 => ?_)
          · skip
            have hc_24 := neE (a := v_23.toInt) (b := 1) rfl (by decide +kernel) c_24
            refine lv_iconst (pc := 69) (v := 0) E.1 E.2.1 dX6_gatherNeeds_69 (by decide +kernel) ?_
            refine lv_istore (pc := 70) (lv' := [(5, .int 0), (4, .int x_8), (3, .int (mi 29)), (0, .ref (mr 0)), (1, .ref (mr 11)), (2, .int z_n)]) E.1 E.2.1 dX6_gatherNeeds_70 hl13 (by decide) rfl (fun ls hl25 => ?_)
            refine lv_iload (pc := 72) E.1 E.2.1 dX6_gatherNeeds_72 (lv_at hl25 0 rfl) ?_
            refine lv_if_ne (pc := 74) (tgt := 128) E.1 E.2.1 dX6_gatherNeeds_74 (by decide) (fun c_26 => absurd (meqE (a := 0) (b := 0) (by decide +kernel) (by decide +kernel) (by omega)) c_26) (fun _ => ?_)
            refine lv_aload_n (pc := 77) E.1 E.2.1 dX6_gatherNeeds_77 rfl (lv_at hl25 4 rfl) ?_
            refine x_get (pc := 78) (T := TX10) (N := 17) (ci := 10) (v := .ref (mr 51)) E hw12 inX10 7 3 q_468 rfl rfl (by decide) rfl rfl dX6_gatherNeeds_78 ?_
            refine x_get (pc := 81) (T := TX3) (N := 6) (ci := 3) (v := .ref (mr 54)) E hw12 inX3 34 2 q_352 rfl rfl (by decide) rfl rfl dX6_gatherNeeds_81 ?_
            refine lv_iload (pc := 84) E.1 E.2.1 dX6_gatherNeeds_84 (lv_at hl25 1 rfl) ?_
            refine x_iald (pc := 86) (f := (mf 54)) E hw12 37 rfl (inbE (a := x_8.toInt) rfl (by omega)) dX6_gatherNeeds_86 ?_
            refine lv_topi (fun v_27 ev_27 => ?_)
            refine lv_iload_n (pc := 87) E.1 E.2.1 dX6_gatherNeeds_87 rfl (lv_at hl25 2 rfl) ?_
            refine lv_iload_n (pc := 88) E.1 E.2.1 dX6_gatherNeeds_88 rfl (lv_at hl25 5 rfl) ?_
            refine lv_iadd (pc := 89) E.1 E.2.1 dX6_gatherNeeds_89 ?_
            refine lv_topi (fun v_28 ev_28 => ?_)
            refine lv_icmp_ge (pc := 90) (tgt := 128) E.1 E.2.1 dX6_gatherNeeds_90 (by decide) (fun c_29 => ?_) (fun c_29 => ?_)
            · skip
              have hc_29 := leE (a := v_28.toInt) (b := v_27.toInt) rfl rfl c_29
              obtain ⟨v_30, ev_30⟩ : ∃ z : Int32, x_8 + Int32.ofInt (1) = z := ⟨_, rfl⟩
              have hv_30 : v_30.toInt = x_8.toInt + (1) := by rw [← ev_30]; exact incE rfl (by decide) (by omega)
              refine lv_iinc (pc := 128) (v := v_30) (lv' := [(4, .int v_30), (5, .int 0), (3, .int (mi 29)), (0, .ref (mr 0)), (1, .ref (mr 11)), (2, .int z_n)]) E.1 E.2.1 dX6_gatherNeeds_128 hl25 (k := 1) rfl ev_30 (by decide) rfl (fun ls hl31 => ?_)
              refine lv_goto (pc := 131) (tgt := 16) E.1 E.2.1 dX6_gatherNeeds_131 (by decide) ?_
              exact ih_11 v_30 x_9 g_10 _ _ _ ⟨(by show 0 ≤ v_30.toInt; omega), (by show v_30.toInt ≤ 10; omega), hi_10_2, (by show x_9.toInt ≤ v_30.toInt; omega), hi_10_4⟩ (by omega) hw12 (lv_sub hl31 [0, 2, 3, 4, 5] rfl)
            · skip
              have hc_29 := nleE (a := v_28.toInt) (b := v_27.toInt) rfl rfl c_29
              refine lv_aload_n (pc := 93) E.1 E.2.1 dX6_gatherNeeds_93 rfl (lv_at hl25 4 rfl) ?_
              refine x_get (pc := 94) (T := TX10) (N := 17) (ci := 10) (v := .ref (mr 51)) E hw12 inX10 7 3 q_468 rfl rfl (by decide) rfl rfl dX6_gatherNeeds_94 ?_
              refine x_get (pc := 97) (T := TX3) (N := 6) (ci := 3) (v := .ref (mr 55)) E hw12 inX3 34 3 q_355 rfl rfl (by decide) rfl rfl dX6_gatherNeeds_97 ?_
              refine lv_iload (pc := 100) E.1 E.2.1 dX6_gatherNeeds_100 (lv_at hl25 1 rfl) ?_
              refine x_iald (pc := 102) (f := (mf 55)) E hw12 38 rfl (inbE (a := x_8.toInt) rfl (by omega)) dX6_gatherNeeds_102 ?_
              refine lv_topi (fun v_32 ev_32 => ?_)
              refine lv_iload_n (pc := 103) E.1 E.2.1 dX6_gatherNeeds_103 rfl (lv_at hl25 2 rfl) ?_
              refine lv_icmp_lt (pc := 104) (tgt := 128) E.1 E.2.1 dX6_gatherNeeds_104 (by decide) (fun c_33 => ?_) (fun c_33 => ?_)
              · skip
                have hc_33 := ltE (a := v_32.toInt) (b := (mi 29).toInt) rfl rfl c_33
                obtain ⟨v_34, ev_34⟩ : ∃ z : Int32, x_8 + Int32.ofInt (1) = z := ⟨_, rfl⟩
                have hv_34 : v_34.toInt = x_8.toInt + (1) := by rw [← ev_34]; exact incE rfl (by decide) (by omega)
                refine lv_iinc (pc := 128) (v := v_34) (lv' := [(4, .int v_34), (5, .int 0), (3, .int (mi 29)), (0, .ref (mr 0)), (1, .ref (mr 11)), (2, .int z_n)]) E.1 E.2.1 dX6_gatherNeeds_128 hl25 (k := 1) rfl ev_34 (by decide) rfl (fun ls hl35 => ?_)
                refine lv_goto (pc := 131) (tgt := 16) E.1 E.2.1 dX6_gatherNeeds_131 (by decide) ?_
                exact ih_11 v_34 x_9 g_10 _ _ _ ⟨(by show 0 ≤ v_34.toInt; omega), (by show v_34.toInt ≤ 10; omega), hi_10_2, (by show x_9.toInt ≤ v_34.toInt; omega), hi_10_4⟩ (by omega) hw12 (lv_sub hl35 [0, 2, 3, 4, 5] rfl)
              · skip
                have hc_33 := nltE (a := v_32.toInt) (b := (mi 29).toInt) rfl rfl c_33
                refine lv_aload_n (pc := 107) E.1 E.2.1 dX6_gatherNeeds_107 rfl (lv_at hl25 3 rfl) ?_
                refine x_get (pc := 108) (T := TX6) (N := 10) (ci := 6) (v := .ref (mr 7)) E hw12 inX6 0 6 q_1168 rfl rfl (by decide) rfl rfl dX6_gatherNeeds_108 ?_
                refine lv_aload_n (pc := 111) E.1 E.2.1 dX6_gatherNeeds_111 rfl (lv_at hl25 3 rfl) ?_
                refine x_get (pc := 112) (T := TX6) (N := 10) (ci := 6) (v := .int x_9) E hw12 inX6 0 7 q_1169 rfl rfl (by decide) rfl rfl dX6_gatherNeeds_112 ?_
                refine lv_iload (pc := 115) E.1 E.2.1 dX6_gatherNeeds_115 (lv_at hl25 1 rfl) ?_
                refine x_iastG (pc := 117) (f := g_10) (wf := fun g => (WZ_PVO cI cJ mv mr (upd mi 8 x_9) (va_up mf 7 g) mg)) E hw12 4 rfl (inbE (a := x_9.toInt) rfl (by omega)) (fun _ => rfl) dX6_gatherNeeds_117 (fun g_36 H locs eg_36 hw37 => ?_)
                have ha_38 : allR 10 (0) 9 g_36 := allR_upd hi_10_4 eg_36 (by omega)
                refine lv_aload_n (pc := 118) E.1 E.2.1 dX6_gatherNeeds_118 rfl (lv_at hl25 3 rfl) ?_
                refine lv_dup (pc := 119) E.1 E.2.1 dX6_gatherNeeds_119 rfl ?_
                refine x_get (pc := 120) (T := TX6) (N := 10) (ci := 6) (v := .int x_9) E hw37 inX6 0 7 q_1169 rfl rfl (by decide) rfl rfl dX6_gatherNeeds_120 ?_
                refine lv_iconst (pc := 123) (v := 1) E.1 E.2.1 dX6_gatherNeeds_123 (by decide +kernel) ?_
                refine lv_iadd (pc := 124) E.1 E.2.1 dX6_gatherNeeds_124 ?_
                refine lv_topi (fun v_39 ev_39 => ?_)
                have hv_39 : v_39.toInt = x_9.toInt + 1 := by rw [ev_39]; exact addE rfl (by decide +kernel) (by omega)
                refine x_put (pc := 125) (T := TX6) (N := 10) (ci := 6) (ws' := (WZ_PVO cI cJ mv mr (upd mi 8 v_39) (va_up mf 7 g_36) mg)) E hw37 inX6 tyX6_ok nmX6 0 7 q_1169 rfl rfl (by decide) rfl rfl rfl rfl (Nat.le_of_ble_eq_true rfl) rfl dX6_gatherNeeds_125 (fun H locs hw40 => ?_)
                obtain ⟨v_41, ev_41⟩ : ∃ z : Int32, x_8 + Int32.ofInt (1) = z := ⟨_, rfl⟩
                have hv_41 : v_41.toInt = x_8.toInt + (1) := by rw [← ev_41]; exact incE rfl (by decide) (by omega)
                refine lv_iinc (pc := 128) (v := v_41) (lv' := [(4, .int v_41), (5, .int 0), (3, .int (mi 29)), (0, .ref (mr 0)), (1, .ref (mr 11)), (2, .int z_n)]) E.1 E.2.1 dX6_gatherNeeds_128 hl25 (k := 1) rfl ev_41 (by decide) rfl (fun ls hl42 => ?_)
                refine lv_goto (pc := 131) (tgt := 16) E.1 E.2.1 dX6_gatherNeeds_131 (by decide) ?_
                exact ih_11 v_41 v_39 g_36 _ _ _ ⟨(by show 0 ≤ v_41.toInt; omega), (by show v_41.toInt ≤ 10; omega), (by show 0 ≤ v_39.toInt; omega), (by show v_39.toInt ≤ v_41.toInt; omega), ha_38⟩ (by omega) hw40 (lv_sub hl42 [0, 2, 3, 4, 5] rfl)
          · skip
            have hc_24 := eqE (a := v_23.toInt) (b := 1) rfl (by decide +kernel) c_24
            refine lv_iconst (pc := 65) (v := 1) E.1 E.2.1 dX6_gatherNeeds_65 (by decide +kernel) ?_
            refine lv_goto (pc := 66) (tgt := 70) E.1 E.2.1 dX6_gatherNeeds_66 (by decide) ?_
            refine lv_istore (pc := 70) (lv' := [(5, .int 1), (4, .int x_8), (3, .int (mi 29)), (0, .ref (mr 0)), (1, .ref (mr 11)), (2, .int z_n)]) E.1 E.2.1 dX6_gatherNeeds_70 hl13 (by decide) rfl (fun ls hl43 => ?_)
            refine lv_iload (pc := 72) E.1 E.2.1 dX6_gatherNeeds_72 (lv_at hl43 0 rfl) ?_
            refine lv_if_ne (pc := 74) (tgt := 128) E.1 E.2.1 dX6_gatherNeeds_74 (by decide) (fun _ => ?_) (fun c_44 => absurd c_44 (mneE (a := 1) (b := 0) (by decide +kernel) (by decide +kernel) (by omega)))
            obtain ⟨v_45, ev_45⟩ : ∃ z : Int32, x_8 + Int32.ofInt (1) = z := ⟨_, rfl⟩
            have hv_45 : v_45.toInt = x_8.toInt + (1) := by rw [← ev_45]; exact incE rfl (by decide) (by omega)
            refine lv_iinc (pc := 128) (v := v_45) (lv' := [(4, .int v_45), (5, .int 1), (3, .int (mi 29)), (0, .ref (mr 0)), (1, .ref (mr 11)), (2, .int z_n)]) E.1 E.2.1 dX6_gatherNeeds_128 hl43 (k := 1) rfl ev_45 (by decide) rfl (fun ls hl46 => ?_)
            refine lv_goto (pc := 131) (tgt := 16) E.1 E.2.1 dX6_gatherNeeds_131 (by decide) ?_
            exact ih_11 v_45 x_9 g_10 _ _ _ ⟨(by show 0 ≤ v_45.toInt; omega), (by show v_45.toInt ≤ 10; omega), hi_10_2, (by show x_9.toInt ≤ v_45.toInt; omega), hi_10_4⟩ (by omega) hw12 (lv_sub hl46 [0, 2, 3, 4, 5] rfl)
  exact loop_7 (Int.toNat (10 - 0) + 1) 0 0 (mf 7) _ _ _ ⟨(by show 0 ≤ (0 : Int32).toInt; have k_0 : (0 : Int32).toInt = 0 := (by decide +kernel); omega), (by show (0 : Int32).toInt ≤ 10; have k_0 : (0 : Int32).toInt = 0 := (by decide +kernel); omega), (by show 0 ≤ (0 : Int32).toInt; have k_0 : (0 : Int32).toInt = 0 := (by decide +kernel); omega), (by show (0 : Int32).toInt ≤ (0 : Int32).toInt; have k_0 : (0 : Int32).toInt = 0 := (by decide +kernel); omega), a_wanted⟩ (by have k_0 : (0 : Int32).toInt = 0 := (by decide +kernel); have k_1 : (0 : Int32).toInt = 0 := (by decide +kernel); omega) hw5 (lv_sub hl6 [0, 1, 2, 3, 4] rfl)
