set_option maxHeartbeats 4000000 in
set_option maxRecDepth 100000 in
theorem t_shorten (l : Launch) (D : va_G) (cI cJ : ClassId) (sz : Nat) (mr : Nat → Nat) (mi : Nat → Int32) (mf : Nat → Nat → Int32) (mg : Nat → Nat → Int64) (z_start : Int32) (z_goal : Int32) (z_steps : Int32) (h0 : 0 ≤ z_start.toInt ∧ z_start.toInt ≤ 99) (h1 : 0 ≤ z_goal.toInt ∧ z_goal.toInt ≤ 99) : Met l yX5_shorten (Cond.code yX5_shorten cX5_shorten 5 (some .boolean) :: GW) ({ frames := 1, cells := 0, slots := 0, locals := 40 } : Room) (va_Pc [.ref (mr 0), .int z_start, .int z_goal, .int z_steps] (PW D cI cJ sz (WZ_Paths cI cJ mr mi mf mg) xT)) (va_Qi (fun (r : Int32) (u : (Nat → Int32)) => (0 ≤ r.toInt) ∧ (r.toInt ≤ 1)) (fun u => QW D cI cJ (va_A (WZ_Paths cI cJ mr mi mf mg) sz) ((fun (u : (Nat → Int32)) => (WZ_Paths cI cJ mr mi (va_up mf 6 u) mg)) u)) (va_A (WZ_Paths cI cJ mr mi mf mg) sz)) 0 0 (va_A (WZ_Paths cI cJ mr mi mf mg) sz) := by
  refine mk_met (y := yX5_shorten) (bytes := cX5_shorten) (maxL := 5) (avs := [.ref (mr 0), .int z_start, .int z_goal, .int z_steps]) (WS := (WZ_Paths cI cJ mr mi mf mg)) (Qf := fun A => va_Qi (fun (r : Int32) (u : (Nat → Int32)) => (0 ≤ r.toInt) ∧ (r.toInt ≤ 1)) (fun u => QW D cI cJ A ((fun (u : (Nat → Int32)) => (WZ_Paths cI cJ mr mi (va_up mf 6 u) mg)) u)) A) (by decide) (Nat.le_of_ble_eq_true rfl) ?_
  intro p e s m below meth c A ls E hr hlk hnm hX hw1 hl2
  have hl3 : lv_has ls 5 [(0, .ref (mr 0)), (1, .int z_start), (2, .int z_goal), (3, .int z_steps)] := hl2
  refine lv_aload_n (pc := 0) E.1 E.2.1 dX5_shorten_0 rfl (lv_at hl3 0 rfl) ?_
  refine x_get (pc := 1) (T := TX5) (N := 7) (ci := 5) (v := .ref (mr 6)) E hw1 inX5 0 5 q_320 rfl rfl (by decide) rfl rfl dX5_shorten_1 ?_
  refine lv_iload_n (pc := 4) E.1 E.2.1 dX5_shorten_4 rfl (lv_at hl3 1 rfl) ?_
  refine x_iald (pc := 5) (f := (mf 6)) E hw1 5 rfl (inbE (a := z_start.toInt) rfl (by omega)) dX5_shorten_5 ?_
  refine lv_topi (fun v_4 ev_4 => ?_)
  refine lv_iconst (pc := 6) (v := (-1)) E.1 E.2.1 dX5_shorten_6 (by decide +kernel) ?_
  refine lv_icmp_ne (pc := 7) (tgt := 12) E.1 E.2.1 dX5_shorten_7 (by decide) (fun c_5 => ?_) (fun c_5 => ?_)
  · skip
    have hc_5 := neE (a := v_4.toInt) (b := (-1)) rfl (by decide +kernel) c_5
    refine lv_aload_n (pc := 12) E.1 E.2.1 dX5_shorten_12 rfl (lv_at hl3 0 rfl) ?_
    refine x_get (pc := 13) (T := TX5) (N := 7) (ci := 5) (v := .ref (mr 6)) E hw1 inX5 0 5 q_320 rfl rfl (by decide) rfl rfl dX5_shorten_13 ?_
    refine lv_iload_n (pc := 16) E.1 E.2.1 dX5_shorten_16 rfl (lv_at hl3 1 rfl) ?_
    refine x_iald (pc := 17) (f := (mf 6)) E hw1 5 rfl (inbE (a := z_start.toInt) rfl (by omega)) dX5_shorten_17 ?_
    refine lv_topi (fun v_6 ev_6 => ?_)
    have hsv_6 : v_6.toInt = v_4.toInt := by rw [ev_6, ev_4]
    refine lv_iload_n (pc := 18) E.1 E.2.1 dX5_shorten_18 rfl (lv_at hl3 3 rfl) ?_
    refine lv_iadd (pc := 19) E.1 E.2.1 dX5_shorten_19 ?_
    refine lv_topi (fun v_7 ev_7 => ?_)
    refine lv_istore (pc := 20) (lv' := [(4, .int v_7), (0, .ref (mr 0)), (1, .int z_start), (2, .int z_goal), (3, .int z_steps)]) E.1 E.2.1 dX5_shorten_20 hl3 (by decide) rfl (fun ls hl8 => ?_)
    refine lv_aload_n (pc := 22) E.1 E.2.1 dX5_shorten_22 rfl (lv_at hl8 1 rfl) ?_
    refine x_get (pc := 23) (T := TX5) (N := 7) (ci := 5) (v := .ref (mr 6)) E hw1 inX5 0 5 q_320 rfl rfl (by decide) rfl rfl dX5_shorten_23 ?_
    refine lv_iload_n (pc := 26) E.1 E.2.1 dX5_shorten_26 rfl (lv_at hl8 3 rfl) ?_
    refine x_iald (pc := 27) (f := (mf 6)) E hw1 5 rfl (inbE (a := z_goal.toInt) rfl (by omega)) dX5_shorten_27 ?_
    refine lv_topi (fun v_9 ev_9 => ?_)
    refine lv_iconst (pc := 28) (v := (-1)) E.1 E.2.1 dX5_shorten_28 (by decide +kernel) ?_
    refine lv_icmp_eq (pc := 29) (tgt := 45) E.1 E.2.1 dX5_shorten_29 (by decide) (fun c_10 => ?_) (fun c_10 => ?_)
    · skip
      have hc_10 := eqE (a := v_9.toInt) (b := (-1)) rfl (by decide +kernel) c_10
      refine lv_aload_n (pc := 45) E.1 E.2.1 dX5_shorten_45 rfl (lv_at hl8 1 rfl) ?_
      refine x_get (pc := 46) (T := TX5) (N := 7) (ci := 5) (v := .ref (mr 6)) E hw1 inX5 0 5 q_320 rfl rfl (by decide) rfl rfl dX5_shorten_46 ?_
      refine lv_iload_n (pc := 49) E.1 E.2.1 dX5_shorten_49 rfl (lv_at hl8 3 rfl) ?_
      refine lv_iload (pc := 50) E.1 E.2.1 dX5_shorten_50 (lv_at hl8 0 rfl) ?_
      refine x_iastG (pc := 52) (f := (mf 6)) (wf := fun g => (WZ_Paths cI cJ mr mi (va_up mf 6 g) mg)) E hw1 5 rfl (inbE (a := z_goal.toInt) rfl (by omega)) (fun _ => rfl) dX5_shorten_52 (fun g_11 H locs eg_11 hw12 => ?_)
      refine lv_iconst (pc := 53) (v := 1) E.1 E.2.1 dX5_shorten_53 (by decide +kernel) ?_
      exact em_z (w1 := (fun (u : (Nat → Int32)) => (WZ_Paths cI cJ mr mi (va_up mf 6 u) mg))) E hr hlk g_11 hw12 ⟨(by show 0 ≤ (1 : Int32).toInt; have k_0 : (1 : Int32).toInt = 1 := (by decide +kernel); omega), (by show (1 : Int32).toInt ≤ 1; have k_0 : (1 : Int32).toInt = 1 := (by decide +kernel); omega)⟩ (by decide +kernel) (Nat.le_of_ble_eq_true rfl) (Nat.le_of_ble_eq_true rfl) dX5_shorten_54
    · skip
      have hc_10 := neE (a := v_9.toInt) (b := (-1)) rfl (by decide +kernel) c_10
      refine lv_aload_n (pc := 32) E.1 E.2.1 dX5_shorten_32 rfl (lv_at hl8 1 rfl) ?_
      refine x_get (pc := 33) (T := TX5) (N := 7) (ci := 5) (v := .ref (mr 6)) E hw1 inX5 0 5 q_320 rfl rfl (by decide) rfl rfl dX5_shorten_33 ?_
      refine lv_iload_n (pc := 36) E.1 E.2.1 dX5_shorten_36 rfl (lv_at hl8 3 rfl) ?_
      refine x_iald (pc := 37) (f := (mf 6)) E hw1 5 rfl (inbE (a := z_goal.toInt) rfl (by omega)) dX5_shorten_37 ?_
      refine lv_topi (fun v_13 ev_13 => ?_)
      have hsv_13 : v_13.toInt = v_9.toInt := by rw [ev_13, ev_9]
      refine lv_iload (pc := 38) E.1 E.2.1 dX5_shorten_38 (lv_at hl8 0 rfl) ?_
      refine lv_icmp_gt (pc := 40) (tgt := 45) E.1 E.2.1 dX5_shorten_40 (by decide) (fun c_14 => ?_) (fun c_14 => ?_)
      · skip
        have hc_14 := ltE (a := v_7.toInt) (b := v_13.toInt) rfl rfl c_14
        refine lv_aload_n (pc := 45) E.1 E.2.1 dX5_shorten_45 rfl (lv_at hl8 1 rfl) ?_
        refine x_get (pc := 46) (T := TX5) (N := 7) (ci := 5) (v := .ref (mr 6)) E hw1 inX5 0 5 q_320 rfl rfl (by decide) rfl rfl dX5_shorten_46 ?_
        refine lv_iload_n (pc := 49) E.1 E.2.1 dX5_shorten_49 rfl (lv_at hl8 3 rfl) ?_
        refine lv_iload (pc := 50) E.1 E.2.1 dX5_shorten_50 (lv_at hl8 0 rfl) ?_
        refine x_iastG (pc := 52) (f := (mf 6)) (wf := fun g => (WZ_Paths cI cJ mr mi (va_up mf 6 g) mg)) E hw1 5 rfl (inbE (a := z_goal.toInt) rfl (by omega)) (fun _ => rfl) dX5_shorten_52 (fun g_15 H locs eg_15 hw16 => ?_)
        refine lv_iconst (pc := 53) (v := 1) E.1 E.2.1 dX5_shorten_53 (by decide +kernel) ?_
        exact em_z (w1 := (fun (u : (Nat → Int32)) => (WZ_Paths cI cJ mr mi (va_up mf 6 u) mg))) E hr hlk g_15 hw16 ⟨(by show 0 ≤ (1 : Int32).toInt; have k_0 : (1 : Int32).toInt = 1 := (by decide +kernel); omega), (by show (1 : Int32).toInt ≤ 1; have k_0 : (1 : Int32).toInt = 1 := (by decide +kernel); omega)⟩ (by decide +kernel) (Nat.le_of_ble_eq_true rfl) (Nat.le_of_ble_eq_true rfl) dX5_shorten_54
      · skip
        have hc_14 := nltE (a := v_7.toInt) (b := v_13.toInt) rfl rfl c_14
        refine lv_iconst (pc := 43) (v := 0) E.1 E.2.1 dX5_shorten_43 (by decide +kernel) ?_
        exact em_z (w1 := (fun (u : (Nat → Int32)) => (WZ_Paths cI cJ mr mi (va_up mf 6 u) mg))) E hr hlk (mf 6) hw1 ⟨(by show 0 ≤ (0 : Int32).toInt; have k_0 : (0 : Int32).toInt = 0 := (by decide +kernel); omega), (by show (0 : Int32).toInt ≤ 1; have k_0 : (0 : Int32).toInt = 0 := (by decide +kernel); omega)⟩ (by decide +kernel) (Nat.le_of_ble_eq_true rfl) (Nat.le_of_ble_eq_true rfl) dX5_shorten_44
  · skip
    have hc_5 := eqE (a := v_4.toInt) (b := (-1)) rfl (by decide +kernel) c_5
    refine lv_iconst (pc := 10) (v := 0) E.1 E.2.1 dX5_shorten_10 (by decide +kernel) ?_
    exact em_z (w1 := (fun (u : (Nat → Int32)) => (WZ_Paths cI cJ mr mi (va_up mf 6 u) mg))) E hr hlk (mf 6) hw1 ⟨(by show 0 ≤ (0 : Int32).toInt; have k_0 : (0 : Int32).toInt = 0 := (by decide +kernel); omega), (by show (0 : Int32).toInt ≤ 1; have k_0 : (0 : Int32).toInt = 0 := (by decide +kernel); omega)⟩ (by decide +kernel) (Nat.le_of_ble_eq_true rfl) (Nat.le_of_ble_eq_true rfl) dX5_shorten_11
set_option maxHeartbeats 4000000 in
set_option maxRecDepth 100000 in
theorem t_measureFrom (l : Launch) (D : va_G) (cI cJ : ClassId) (sz : Nat) (mr : Nat → Nat) (mi : Nat → Int32) (mf : Nat → Nat → Int32) (mg : Nat → Nat → Int64) (z_a : Int32) (z_snow : Int32) (h0 : 0 ≤ (mi 5).toInt ∧ (mi 5).toInt ≤ 40) (h1 : 0 ≤ z_a.toInt ∧ z_a.toInt ≤ 9) (a_from : p9 (mf 1)) (a_to : p9 (mf 2)) : Met l yX5_measureFrom (Cond.code yX5_measureFrom cX5_measureFrom 9 none :: GW) ({ frames := 2, cells := 0, slots := 0, locals := 64 } : Room) (va_Pc [.ref (mr 0), .int z_a, .int z_snow] (PW D cI cJ sz (WZ_Paths cI cJ mr mi mf mg) xT)) (va_Qv (fun (u : (Nat → Int32) × (Nat → Int32)) => True) (fun u => QW D cI cJ (va_A (WZ_Paths cI cJ mr mi mf mg) sz) ((fun (u : (Nat → Int32) × (Nat → Int32)) => (WZ_Paths cI cJ mr mi (va_up (va_up mf 6 u.1) 7 u.2) mg)) u)) (va_A (WZ_Paths cI cJ mr mi mf mg) sz)) 0 0 (va_A (WZ_Paths cI cJ mr mi mf mg) sz) := by
  refine mk_met (y := yX5_measureFrom) (bytes := cX5_measureFrom) (maxL := 9) (avs := [.ref (mr 0), .int z_a, .int z_snow]) (WS := (WZ_Paths cI cJ mr mi mf mg)) (Qf := fun A => va_Qv (fun (u : (Nat → Int32) × (Nat → Int32)) => True) (fun u => QW D cI cJ A ((fun (u : (Nat → Int32) × (Nat → Int32)) => (WZ_Paths cI cJ mr mi (va_up (va_up mf 6 u.1) 7 u.2) mg)) u)) A) (by decide) (Nat.le_of_ble_eq_true rfl) ?_
  intro p e s m below meth c A ls E hr hlk hnm hX hw1 hl2
  have hl3 : lv_has ls 9 [(0, .ref (mr 0)), (1, .int z_a), (2, .int z_snow)] := hl2
  refine lv_iload_n (pc := 0) E.1 E.2.1 dX5_measureFrom_0 rfl (lv_at hl3 1 rfl) ?_
  refine lv_bipush (pc := 1) (v := 10) E.1 E.2.1 dX5_measureFrom_1 (by decide +kernel) ?_
  refine lv_imul (pc := 3) E.1 E.2.1 dX5_measureFrom_3 ?_
  refine lv_topi (fun v_4 ev_4 => ?_)
  have hv_4 : v_4.toInt = z_a.toInt * 10 := by rw [ev_4]; exact mulE rfl (by decide +kernel) (by omega)
  refine lv_istore_n (pc := 4) (lv' := [(3, .int v_4), (0, .ref (mr 0)), (1, .int z_a), (2, .int z_snow)]) E.1 E.2.1 dX5_measureFrom_4 rfl hl3 (by decide) rfl (fun ls hl5 => ?_)
  refine lv_iconst (pc := 5) (v := 0) E.1 E.2.1 dX5_measureFrom_5 (by decide +kernel) ?_
  refine lv_istore (pc := 6) (lv' := [(4, .int 0), (3, .int v_4), (0, .ref (mr 0)), (1, .int z_a), (2, .int z_snow)]) E.1 E.2.1 dX5_measureFrom_6 hl5 (by decide) rfl (fun ls hl6 => ?_)
  have loop_7 : ∀ (k : Nat) (x_8 : Int32) (g_9 : Nat → Int32) (H : Heap) (locs : List Loc) (ls : Array Slot), (0 ≤ x_8.toInt) ∧ (x_8.toInt ≤ 10) → 10 - x_8.toInt < (k : Int) → WD D A s.heap (WZ_Paths cI cJ mr mi (va_up mf 6 g_9) mg) H locs → lv_has ls 9 [(4, .int x_8), (3, .int v_4), (0, .ref (mr 0)), (1, .int z_a), (2, .int z_snow)] → W p l e ({ frames := 2, cells := 0, slots := 0, locals := 64 } : Room) s m ([.ref (mr 0), .int z_a, .int z_snow] : List Value).toArray below meth c H locs 0 0 (MQ below (va_Qv (fun (u : (Nat → Int32) × (Nat → Int32)) => True) (fun u => QW D cI cJ A ((fun (u : (Nat → Int32) × (Nat → Int32)) => (WZ_Paths cI cJ mr mi (va_up (va_up mf 6 u.1) 7 u.2) mg)) u)) A) ([.ref (mr 0), .int z_a, .int z_snow] : List Value).toArray s 0 0 A) (F0 m 8 ls []) := by
    intro k
    induction k with
    | zero =>
      intro x_8 g_9 _ _ _ hinv hm
      obtain ⟨hi_9_0, hi_9_1⟩ := hinv
      exact absurd hm (by omega)
    | succ k ih_10 =>
      intro x_8 g_9 H locs ls hinv hm hw11 hl12
      obtain ⟨hi_9_0, hi_9_1⟩ := hinv
      refine lv_iload (pc := 8) E.1 E.2.1 dX5_measureFrom_8 (lv_at hl12 0 rfl) ?_
      refine lv_bipush (pc := 10) (v := 10) E.1 E.2.1 dX5_measureFrom_10 (by decide +kernel) ?_
      refine lv_icmp_ge (pc := 12) (tgt := 31) E.1 E.2.1 dX5_measureFrom_12 (by decide) (fun c_13 => ?_) (fun c_13 => ?_)
      · skip
        have hc_13 := leE (a := 10) (b := x_8.toInt) (by decide +kernel) rfl c_13
        refine lv_aload_n (pc := 31) E.1 E.2.1 dX5_measureFrom_31 rfl (lv_at hl12 2 rfl) ?_
        refine x_get (pc := 32) (T := TX5) (N := 7) (ci := 5) (v := .ref (mr 6)) E hw11 inX5 0 5 q_320 rfl rfl (by decide) rfl rfl dX5_measureFrom_32 ?_
        refine lv_iload_n (pc := 35) E.1 E.2.1 dX5_measureFrom_35 rfl (lv_at hl12 1 rfl) ?_
        refine lv_iload_n (pc := 36) E.1 E.2.1 dX5_measureFrom_36 rfl (lv_at hl12 3 rfl) ?_
        refine lv_iadd (pc := 37) E.1 E.2.1 dX5_measureFrom_37 ?_
        refine lv_topi (fun v_14 ev_14 => ?_)
        have hv_14 : v_14.toInt = v_4.toInt + z_a.toInt := by rw [ev_14]; exact addE rfl rfl (by omega)
        refine lv_iconst (pc := 38) (v := 0) E.1 E.2.1 dX5_measureFrom_38 (by decide +kernel) ?_
        refine x_iastG (pc := 39) (f := g_9) (wf := fun g => (WZ_Paths cI cJ mr mi (va_up mf 6 g) mg)) E hw11 5 rfl (inbE (a := v_14.toInt) rfl (by omega)) (fun _ => rfl) dX5_measureFrom_39 (fun g_15 H locs eg_15 hw16 => ?_)
        refine lv_iconst (pc := 40) (v := 1) E.1 E.2.1 dX5_measureFrom_40 (by decide +kernel) ?_
        refine lv_istore (pc := 41) (lv' := [(4, .int 1), (3, .int v_4), (0, .ref (mr 0)), (1, .int z_a), (2, .int z_snow)]) E.1 E.2.1 dX5_measureFrom_41 hl12 (by decide) rfl (fun ls hl17 => ?_)
        refine lv_iconst (pc := 43) (v := 0) E.1 E.2.1 dX5_measureFrom_43 (by decide +kernel) ?_
        refine lv_istore (pc := 44) (lv' := [(5, .int 0), (4, .int 1), (3, .int v_4), (0, .ref (mr 0)), (1, .int z_a), (2, .int z_snow)]) E.1 E.2.1 dX5_measureFrom_44 hl17 (by decide) rfl (fun ls hl18 => ?_)
        have loop_19 : ∀ (k : Nat) (x_20 : Int32) (x_21 : Int32) (g_22 : Nat → Int32) (H : Heap) (locs : List Loc) (ls : Array Slot), (0 ≤ x_20.toInt) ∧ (x_20.toInt ≤ 10) ∧ (0 ≤ x_21.toInt) ∧ (x_21.toInt ≤ 1) → 10 - x_20.toInt < (k : Int) → WD D A s.heap (WZ_Paths cI cJ mr mi (va_up mf 6 g_22) mg) H locs → lv_has ls 9 [(5, .int x_20), (4, .int x_21), (3, .int v_4), (0, .ref (mr 0)), (1, .int z_a), (2, .int z_snow)] → W p l e ({ frames := 2, cells := 0, slots := 0, locals := 64 } : Room) s m ([.ref (mr 0), .int z_a, .int z_snow] : List Value).toArray below meth c H locs 0 0 (MQ below (va_Qv (fun (u : (Nat → Int32) × (Nat → Int32)) => True) (fun u => QW D cI cJ A ((fun (u : (Nat → Int32) × (Nat → Int32)) => (WZ_Paths cI cJ mr mi (va_up (va_up mf 6 u.1) 7 u.2) mg)) u)) A) ([.ref (mr 0), .int z_a, .int z_snow] : List Value).toArray s 0 0 A) (F0 m 46 ls []) := by
          intro k
          induction k with
          | zero =>
            intro x_20 x_21 g_22 _ _ _ hinv hm
            obtain ⟨hi_22_0, hi_22_1, hi_22_2, hi_22_3⟩ := hinv
            exact absurd hm (by omega)
          | succ k ih_23 =>
            intro x_20 x_21 g_22 H locs ls hinv hm hw24 hl25
            obtain ⟨hi_22_0, hi_22_1, hi_22_2, hi_22_3⟩ := hinv
            refine lv_iload (pc := 46) E.1 E.2.1 dX5_measureFrom_46 (lv_at hl25 0 rfl) ?_
            refine lv_bipush (pc := 48) (v := 10) E.1 E.2.1 dX5_measureFrom_48 (by decide +kernel) ?_
            refine lv_icmp_ge (pc := 50) (tgt := 180) E.1 E.2.1 dX5_measureFrom_50 (by decide) (fun c_26 => ?_) (fun c_26 => ?_)
            · skip
              have hc_26 := leE (a := 10) (b := x_20.toInt) (by decide +kernel) rfl c_26
              refine lv_aload_n (pc := 180) E.1 E.2.1 dX5_measureFrom_180 rfl (lv_at hl25 3 rfl) ?_
              refine x_get (pc := 181) (T := TX5) (N := 7) (ci := 5) (v := .ref (mr 7)) E hw24 inX5 0 6 q_321 rfl rfl (by decide) rfl rfl dX5_measureFrom_181 ?_
              refine lv_iload_n (pc := 184) E.1 E.2.1 dX5_measureFrom_184 rfl (lv_at hl25 4 rfl) ?_
              refine lv_iload_n (pc := 185) E.1 E.2.1 dX5_measureFrom_185 rfl (lv_at hl25 5 rfl) ?_
              refine x_iastG (pc := 186) (f := (mf 7)) (wf := fun g => (WZ_Paths cI cJ mr mi (va_up (va_up mf 6 g_22) 7 g) mg)) E hw24 6 rfl (inbE (a := z_a.toInt) rfl (by omega)) (fun _ => rfl) dX5_measureFrom_186 (fun g_27 H locs eg_27 hw28 => ?_)
              exact em_v (w1 := (fun (u : (Nat → Int32) × (Nat → Int32)) => (WZ_Paths cI cJ mr mi (va_up (va_up mf 6 u.1) 7 u.2) mg))) E hr hlk (g_22, g_27) hw28 trivial (Nat.le_of_ble_eq_true rfl) (Nat.le_of_ble_eq_true rfl) dX5_measureFrom_187
            · skip
              have hc_26 := nleE (a := 10) (b := x_20.toInt) (by decide +kernel) rfl c_26
              refine lv_iload (pc := 53) E.1 E.2.1 dX5_measureFrom_53 (lv_at hl25 1 rfl) ?_
              refine lv_if_eq (pc := 55) (tgt := 180) E.1 E.2.1 dX5_measureFrom_55 (by decide) (fun c_29 => ?_) (fun c_29 => ?_)
              · skip
                have hc_29 := eqE (a := x_21.toInt) (b := 0) rfl (by decide +kernel) c_29
                refine lv_aload_n (pc := 180) E.1 E.2.1 dX5_measureFrom_180 rfl (lv_at hl25 3 rfl) ?_
                refine x_get (pc := 181) (T := TX5) (N := 7) (ci := 5) (v := .ref (mr 7)) E hw24 inX5 0 6 q_321 rfl rfl (by decide) rfl rfl dX5_measureFrom_181 ?_
                refine lv_iload_n (pc := 184) E.1 E.2.1 dX5_measureFrom_184 rfl (lv_at hl25 4 rfl) ?_
                refine lv_iload_n (pc := 185) E.1 E.2.1 dX5_measureFrom_185 rfl (lv_at hl25 5 rfl) ?_
                refine x_iastG (pc := 186) (f := (mf 7)) (wf := fun g => (WZ_Paths cI cJ mr mi (va_up (va_up mf 6 g_22) 7 g) mg)) E hw24 6 rfl (inbE (a := z_a.toInt) rfl (by omega)) (fun _ => rfl) dX5_measureFrom_186 (fun g_30 H locs eg_30 hw31 => ?_)
                exact em_v (w1 := (fun (u : (Nat → Int32) × (Nat → Int32)) => (WZ_Paths cI cJ mr mi (va_up (va_up mf 6 u.1) 7 u.2) mg))) E hr hlk (g_22, g_30) hw31 trivial (Nat.le_of_ble_eq_true rfl) (Nat.le_of_ble_eq_true rfl) dX5_measureFrom_187
              · skip
                have hc_29 := neE (a := x_21.toInt) (b := 0) rfl (by decide +kernel) c_29
                refine lv_iconst (pc := 58) (v := 0) E.1 E.2.1 dX5_measureFrom_58 (by decide +kernel) ?_
                refine lv_istore (pc := 59) (lv' := [(4, .int 0), (5, .int x_20), (3, .int v_4), (0, .ref (mr 0)), (1, .int z_a), (2, .int z_snow)]) E.1 E.2.1 dX5_measureFrom_59 hl25 (by decide) rfl (fun ls hl32 => ?_)
                refine lv_iconst (pc := 61) (v := 0) E.1 E.2.1 dX5_measureFrom_61 (by decide +kernel) ?_
                refine lv_istore (pc := 62) (lv' := [(6, .int 0), (4, .int 0), (5, .int x_20), (3, .int v_4), (0, .ref (mr 0)), (1, .int z_a), (2, .int z_snow)]) E.1 E.2.1 dX5_measureFrom_62 hl32 (by decide) rfl (fun ls hl33 => ?_)
                have loop_34 : ∀ (k : Nat) (x_35 : Int32) (x_36 : Int32) (g_37 : Nat → Int32) (H : Heap) (locs : List Loc) (ls : Array Slot), (0 ≤ x_35.toInt) ∧ (x_35.toInt ≤ (mi 5).toInt) ∧ (0 ≤ x_36.toInt) ∧ (x_36.toInt ≤ 1) → (mi 5).toInt - x_35.toInt < (k : Int) → WD D A s.heap (WZ_Paths cI cJ mr mi (va_up mf 6 g_37) mg) H locs → lv_has ls 9 [(6, .int x_35), (4, .int x_36), (5, .int x_20), (3, .int v_4), (0, .ref (mr 0)), (1, .int z_a), (2, .int z_snow)] → W p l e ({ frames := 2, cells := 0, slots := 0, locals := 64 } : Room) s m ([.ref (mr 0), .int z_a, .int z_snow] : List Value).toArray below meth c H locs 0 0 (MQ below (va_Qv (fun (u : (Nat → Int32) × (Nat → Int32)) => True) (fun u => QW D cI cJ A ((fun (u : (Nat → Int32) × (Nat → Int32)) => (WZ_Paths cI cJ mr mi (va_up (va_up mf 6 u.1) 7 u.2) mg)) u)) A) ([.ref (mr 0), .int z_a, .int z_snow] : List Value).toArray s 0 0 A) (F0 m 64 ls []) := by
                  intro k
                  induction k with
                  | zero =>
                    intro x_35 x_36 g_37 _ _ _ hinv hm
                    obtain ⟨hi_37_0, hi_37_1, hi_37_2, hi_37_3⟩ := hinv
                    exact absurd hm (by omega)
                  | succ k ih_38 =>
                    intro x_35 x_36 g_37 H locs ls hinv hm hw39 hl40
                    obtain ⟨hi_37_0, hi_37_1, hi_37_2, hi_37_3⟩ := hinv
                    refine lv_iload (pc := 64) E.1 E.2.1 dX5_measureFrom_64 (lv_at hl40 0 rfl) ?_
                    refine lv_aload_n (pc := 66) E.1 E.2.1 dX5_measureFrom_66 rfl (lv_at hl40 4 rfl) ?_
                    refine x_get (pc := 67) (T := TX5) (N := 7) (ci := 5) (v := .int (mi 5)) E hw39 inX5 0 4 q_318 rfl rfl (by decide) rfl rfl dX5_measureFrom_67 ?_
                    refine lv_icmp_ge (pc := 70) (tgt := 174) E.1 E.2.1 dX5_measureFrom_70 (by decide) (fun c_41 => ?_) (fun c_41 => ?_)
                    · skip
                      have hc_41 := leE (a := (mi 5).toInt) (b := x_35.toInt) rfl rfl c_41
                      obtain ⟨v_42, ev_42⟩ : ∃ z : Int32, x_20 + Int32.ofInt (1) = z := ⟨_, rfl⟩
                      have hv_42 : v_42.toInt = x_20.toInt + (1) := by rw [← ev_42]; exact incE rfl (by decide) (by omega)
                      refine lv_iinc (pc := 174) (v := v_42) (lv' := [(5, .int v_42), (6, .int x_35), (4, .int x_36), (3, .int v_4), (0, .ref (mr 0)), (1, .int z_a), (2, .int z_snow)]) E.1 E.2.1 dX5_measureFrom_174 hl40 (k := 2) rfl ev_42 (by decide) rfl (fun ls hl43 => ?_)
                      refine lv_goto (pc := 177) (tgt := 46) E.1 E.2.1 dX5_measureFrom_177 (by decide) ?_
                      exact ih_23 v_42 x_36 g_37 _ _ _ ⟨(by show 0 ≤ v_42.toInt; omega), (by show v_42.toInt ≤ 10; omega), hi_37_2, hi_37_3⟩ (by omega) hw39 (lv_sub hl43 [0, 2, 3, 4, 5, 6] rfl)
                    · skip
                      have hc_41 := nleE (a := (mi 5).toInt) (b := x_35.toInt) rfl rfl c_41
                      refine lv_iload_n (pc := 73) E.1 E.2.1 dX5_measureFrom_73 rfl (lv_at hl40 6 rfl) ?_
                      refine lv_aload_n (pc := 74) E.1 E.2.1 dX5_measureFrom_74 rfl (lv_at hl40 4 rfl) ?_
                      refine x_get (pc := 75) (T := TX5) (N := 7) (ci := 5) (v := .ref (mr 4)) E hw39 inX5 0 3 q_317 rfl rfl (by decide) rfl rfl dX5_measureFrom_75 ?_
                      refine lv_iload (pc := 78) E.1 E.2.1 dX5_measureFrom_78 (lv_at hl40 0 rfl) ?_
                      refine x_iald (pc := 80) (f := (mf 4)) E hw39 4 rfl (inbE (a := x_35.toInt) rfl (by omega)) dX5_measureFrom_80 ?_
                      refine lv_topi (fun v_44 ev_44 => ?_)
                      refine lv_icmp_gt (pc := 81) (tgt := 168) E.1 E.2.1 dX5_measureFrom_81 (by decide) (fun c_45 => ?_) (fun c_45 => ?_)
                      · skip
                        have hc_45 := ltE (a := v_44.toInt) (b := z_snow.toInt) rfl rfl c_45
                        obtain ⟨v_46, ev_46⟩ : ∃ z : Int32, x_35 + Int32.ofInt (1) = z := ⟨_, rfl⟩
                        have hv_46 : v_46.toInt = x_35.toInt + (1) := by rw [← ev_46]; exact incE rfl (by decide) (by omega)
                        refine lv_iinc (pc := 168) (v := v_46) (lv' := [(6, .int v_46), (4, .int x_36), (5, .int x_20), (3, .int v_4), (0, .ref (mr 0)), (1, .int z_a), (2, .int z_snow)]) E.1 E.2.1 dX5_measureFrom_168 hl40 (k := 0) rfl ev_46 (by decide) rfl (fun ls hl47 => ?_)
                        refine lv_goto (pc := 171) (tgt := 64) E.1 E.2.1 dX5_measureFrom_171 (by decide) ?_
                        exact ih_38 v_46 x_36 g_37 _ _ _ ⟨(by show 0 ≤ v_46.toInt; omega), (by show v_46.toInt ≤ (mi 5).toInt; omega), hi_37_2, hi_37_3⟩ (by omega) hw39 (lv_sub hl47 [0, 1, 2, 3, 4, 5, 6] rfl)
                      · skip
                        have hc_45 := nltE (a := v_44.toInt) (b := z_snow.toInt) rfl rfl c_45
                        refine lv_aload_n (pc := 84) E.1 E.2.1 dX5_measureFrom_84 rfl (lv_at hl40 4 rfl) ?_
                        refine lv_iload_n (pc := 85) E.1 E.2.1 dX5_measureFrom_85 rfl (lv_at hl40 3 rfl) ?_
                        refine lv_aload_n (pc := 86) E.1 E.2.1 dX5_measureFrom_86 rfl (lv_at hl40 4 rfl) ?_
                        refine x_get (pc := 87) (T := TX5) (N := 7) (ci := 5) (v := .ref (mr 1)) E hw39 inX5 0 0 q_314 rfl rfl (by decide) rfl rfl dX5_measureFrom_87 ?_
                        refine lv_iload (pc := 90) E.1 E.2.1 dX5_measureFrom_90 (lv_at hl40 0 rfl) ?_
                        refine x_iald (pc := 92) (f := (mf 1)) E hw39 1 rfl (inbE (a := x_35.toInt) rfl (by omega)) dX5_measureFrom_92 ?_
                        refine lv_topi (fun v_48 ev_48 => ?_)
                        have hbv_48 := allR_at (n := 40) (lo := 0) (hi := 9) a_from ev_48 (by show 0 ≤ x_35.toInt ∧ _; omega)
                        refine lv_iadd (pc := 93) E.1 E.2.1 dX5_measureFrom_93 ?_
                        refine lv_topi (fun v_49 ev_49 => ?_)
                        have hv_49 : v_49.toInt = v_4.toInt + v_48.toInt := by rw [ev_49]; exact addE rfl rfl (by omega)
                        refine lv_iload_n (pc := 94) E.1 E.2.1 dX5_measureFrom_94 rfl (lv_at hl40 3 rfl) ?_
                        refine lv_aload_n (pc := 95) E.1 E.2.1 dX5_measureFrom_95 rfl (lv_at hl40 4 rfl) ?_
                        refine x_get (pc := 96) (T := TX5) (N := 7) (ci := 5) (v := .ref (mr 2)) E hw39 inX5 0 1 q_315 rfl rfl (by decide) rfl rfl dX5_measureFrom_96 ?_
                        refine lv_iload (pc := 99) E.1 E.2.1 dX5_measureFrom_99 (lv_at hl40 0 rfl) ?_
                        refine x_iald (pc := 101) (f := (mf 2)) E hw39 2 rfl (inbE (a := x_35.toInt) rfl (by omega)) dX5_measureFrom_101 ?_
                        refine lv_topi (fun v_50 ev_50 => ?_)
                        have hbv_50 := allR_at (n := 40) (lo := 0) (hi := 9) a_to ev_50 (by show 0 ≤ x_35.toInt ∧ _; omega)
                        refine lv_iadd (pc := 102) E.1 E.2.1 dX5_measureFrom_102 ?_
                        refine lv_topi (fun v_51 ev_51 => ?_)
                        have hv_51 : v_51.toInt = v_4.toInt + v_50.toInt := by rw [ev_51]; exact addE rfl rfl (by omega)
                        refine lv_aload_n (pc := 103) E.1 E.2.1 dX5_measureFrom_103 rfl (lv_at hl40 4 rfl) ?_
                        refine x_get (pc := 104) (T := TX5) (N := 7) (ci := 5) (v := .ref (mr 3)) E hw39 inX5 0 2 q_316 rfl rfl (by decide) rfl rfl dX5_measureFrom_104 ?_
                        refine lv_iload (pc := 107) E.1 E.2.1 dX5_measureFrom_107 (lv_at hl40 0 rfl) ?_
                        refine x_iald (pc := 109) (f := (mf 3)) E hw39 3 rfl (inbE (a := x_35.toInt) rfl (by omega)) dX5_measureFrom_109 ?_
                        refine lv_topi (fun v_52 ev_52 => ?_)
                        refine ck_i (pc := 110) (ws' := (fun (u : (Nat → Int32)) => (WZ_Paths cI cJ mr mi (va_up mf 6 u) mg))) [true, true, true, true, true, true, true] hw39 rfl (fun hC_ => (rn_V (As := [.int v_49, .int v_51, .int v_52]) (rest := []) E hw39 (t_shorten l D cI cJ _ mr mi (va_up mf 6 g_37) mg v_49 v_51 v_52 (by show 0 ≤ v_49.toInt ∧ v_49.toInt ≤ 99; omega) (by show 0 ≤ v_51.toInt ∧ v_51.toInt ≤ 99; omega)) (gdV q_1024 q_1026 q_22 q_155 q_1027) hdV_X5_shorten ⟨rfl, rfl⟩ ⟨(Nat.le_of_ble_eq_true rfl), (Nat.le_of_ble_eq_true rfl)⟩ ⟨(Nat.le_of_ble_eq_true rfl), (Nat.le_of_ble_eq_true rfl)⟩ xT_b xT_at 0 5 rfl rfl rfl _ hC_ (nd_T _ 0) rfl hl40.1 rfl (Nat.le_of_ble_eq_true rfl) dX5_measureFrom_110)) rfl (fun _ => rfl) (fun _ => rfl) (fun r_54 u_53 H1 locs hp hw55 => ?_)
                        obtain ⟨gmeasured_56, rfl⟩ : ∃ z, z = u_53 := ⟨_, rfl⟩
                        generalize H1 = H at hw55 ⊢
                        have hw57 : WD D A s.heap (WZ_Paths cI cJ mr mi (va_up mf 6 gmeasured_56) mg) H locs := hw55
                        obtain ⟨hp_58, hp_59⟩ := hp
                        have hp_58 : 0 ≤ r_54.toInt := hp_58
                        have hp_59 : r_54.toInt ≤ 1 := hp_59
                        refine lv_istore (pc := 113) (lv' := [(7, .int r_54), (6, .int x_35), (4, .int x_36), (5, .int x_20), (3, .int v_4), (0, .ref (mr 0)), (1, .int z_a), (2, .int z_snow)]) E.1 E.2.1 dX5_measureFrom_113 hl40 (by decide) rfl (fun ls hl60 => ?_)
                        refine lv_aload_n (pc := 115) E.1 E.2.1 dX5_measureFrom_115 rfl (lv_at hl60 5 rfl) ?_
                        refine lv_iload_n (pc := 116) E.1 E.2.1 dX5_measureFrom_116 rfl (lv_at hl60 4 rfl) ?_
                        refine lv_aload_n (pc := 117) E.1 E.2.1 dX5_measureFrom_117 rfl (lv_at hl60 5 rfl) ?_
                        refine x_get (pc := 118) (T := TX5) (N := 7) (ci := 5) (v := .ref (mr 2)) E hw57 inX5 0 1 q_315 rfl rfl (by decide) rfl rfl dX5_measureFrom_118 ?_
                        refine lv_iload (pc := 121) E.1 E.2.1 dX5_measureFrom_121 (lv_at hl60 1 rfl) ?_
                        refine x_iald (pc := 123) (f := (mf 2)) E hw57 2 rfl (inbE (a := x_35.toInt) rfl (by omega)) dX5_measureFrom_123 ?_
                        refine lv_topi (fun v_61 ev_61 => ?_)
                        have hbv_61 := allR_at (n := 40) (lo := 0) (hi := 9) a_to ev_61 (by show 0 ≤ x_35.toInt ∧ _; omega)
                        have hsv_61 : v_61.toInt = v_50.toInt := by rw [ev_61, ev_50]
                        refine lv_iadd (pc := 124) E.1 E.2.1 dX5_measureFrom_124 ?_
                        refine lv_topi (fun v_62 ev_62 => ?_)
                        have hv_62 : v_62.toInt = v_4.toInt + v_61.toInt := by rw [ev_62]; exact addE rfl rfl (by omega)
                        refine lv_iload_n (pc := 125) E.1 E.2.1 dX5_measureFrom_125 rfl (lv_at hl60 4 rfl) ?_
                        refine lv_aload_n (pc := 126) E.1 E.2.1 dX5_measureFrom_126 rfl (lv_at hl60 5 rfl) ?_
                        refine x_get (pc := 127) (T := TX5) (N := 7) (ci := 5) (v := .ref (mr 1)) E hw57 inX5 0 0 q_314 rfl rfl (by decide) rfl rfl dX5_measureFrom_127 ?_
                        refine lv_iload (pc := 130) E.1 E.2.1 dX5_measureFrom_130 (lv_at hl60 1 rfl) ?_
                        refine x_iald (pc := 132) (f := (mf 1)) E hw57 1 rfl (inbE (a := x_35.toInt) rfl (by omega)) dX5_measureFrom_132 ?_
                        refine lv_topi (fun v_63 ev_63 => ?_)
                        have hbv_63 := allR_at (n := 40) (lo := 0) (hi := 9) a_from ev_63 (by show 0 ≤ x_35.toInt ∧ _; omega)
                        have hsv_63 : v_63.toInt = v_48.toInt := by rw [ev_63, ev_48]
                        refine lv_iadd (pc := 133) E.1 E.2.1 dX5_measureFrom_133 ?_
                        refine lv_topi (fun v_64 ev_64 => ?_)
                        have hv_64 : v_64.toInt = v_4.toInt + v_63.toInt := by rw [ev_64]; exact addE rfl rfl (by omega)
                        refine lv_aload_n (pc := 134) E.1 E.2.1 dX5_measureFrom_134 rfl (lv_at hl60 5 rfl) ?_
                        refine x_get (pc := 135) (T := TX5) (N := 7) (ci := 5) (v := .ref (mr 3)) E hw57 inX5 0 2 q_316 rfl rfl (by decide) rfl rfl dX5_measureFrom_135 ?_
                        refine lv_iload (pc := 138) E.1 E.2.1 dX5_measureFrom_138 (lv_at hl60 1 rfl) ?_
                        refine x_iald (pc := 140) (f := (mf 3)) E hw57 3 rfl (inbE (a := x_35.toInt) rfl (by omega)) dX5_measureFrom_140 ?_
                        refine lv_topi (fun v_65 ev_65 => ?_)
                        have hsv_65 : v_65.toInt = v_52.toInt := by rw [ev_65, ev_52]
                        refine ck_i (pc := 141) (ws' := (fun (u : (Nat → Int32)) => (WZ_Paths cI cJ mr mi (va_up mf 6 u) mg))) [true, true, true, true, true, true, true] hw57 rfl (fun hC_ => (rn_V (As := [.int v_62, .int v_64, .int v_65]) (rest := []) E hw57 (t_shorten l D cI cJ _ mr mi (va_up mf 6 gmeasured_56) mg v_62 v_64 v_65 (by show 0 ≤ v_62.toInt ∧ v_62.toInt ≤ 99; omega) (by show 0 ≤ v_64.toInt ∧ v_64.toInt ≤ 99; omega)) (gdV q_1024 q_1026 q_22 q_155 q_1027) hdV_X5_shorten ⟨rfl, rfl⟩ ⟨(Nat.le_of_ble_eq_true rfl), (Nat.le_of_ble_eq_true rfl)⟩ ⟨(Nat.le_of_ble_eq_true rfl), (Nat.le_of_ble_eq_true rfl)⟩ xT_b xT_at 0 5 rfl rfl rfl _ hC_ (nd_T _ 0) rfl hl60.1 rfl (Nat.le_of_ble_eq_true rfl) dX5_measureFrom_141)) rfl (fun _ => rfl) (fun _ => rfl) (fun r_67 u_66 H1 locs hp hw68 => ?_)
                        obtain ⟨gmeasured_69, rfl⟩ : ∃ z, z = u_66 := ⟨_, rfl⟩
                        generalize H1 = H at hw68 ⊢
                        have hw70 : WD D A s.heap (WZ_Paths cI cJ mr mi (va_up mf 6 gmeasured_69) mg) H locs := hw68
                        obtain ⟨hp_71, hp_72⟩ := hp
                        have hp_71 : 0 ≤ r_67.toInt := hp_71
                        have hp_72 : r_67.toInt ≤ 1 := hp_72
                        refine lv_istore (pc := 144) (lv' := [(8, .int r_67), (7, .int r_54), (6, .int x_35), (4, .int x_36), (5, .int x_20), (3, .int v_4), (0, .ref (mr 0)), (1, .int z_a), (2, .int z_snow)]) E.1 E.2.1 dX5_measureFrom_144 hl60 (by decide) rfl (fun ls hl73 => ?_)
                        refine lv_iload (pc := 146) E.1 E.2.1 dX5_measureFrom_146 (lv_at hl73 3 rfl) ?_
                        refine lv_if_ne (pc := 148) (tgt := 161) E.1 E.2.1 dX5_measureFrom_148 (by decide) (fun c_74 => ?_) (fun c_74 => ?_)
                        · skip
                          have hc_74 := neE (a := x_36.toInt) (b := 0) rfl (by decide +kernel) c_74
                          refine lv_iconst (pc := 161) (v := 1) E.1 E.2.1 dX5_measureFrom_161 (by decide +kernel) ?_
                          refine lv_goto (pc := 162) (tgt := 166) E.1 E.2.1 dX5_measureFrom_162 (by decide) ?_
                          refine lv_istore (pc := 166) (lv' := [(4, .int 1), (8, .int r_67), (7, .int r_54), (6, .int x_35), (5, .int x_20), (3, .int v_4), (0, .ref (mr 0)), (1, .int z_a), (2, .int z_snow)]) E.1 E.2.1 dX5_measureFrom_166 hl73 (by decide) rfl (fun ls hl75 => ?_)
                          obtain ⟨v_76, ev_76⟩ : ∃ z : Int32, x_35 + Int32.ofInt (1) = z := ⟨_, rfl⟩
                          have hv_76 : v_76.toInt = x_35.toInt + (1) := by rw [← ev_76]; exact incE rfl (by decide) (by omega)
                          refine lv_iinc (pc := 168) (v := v_76) (lv' := [(6, .int v_76), (4, .int 1), (8, .int r_67), (7, .int r_54), (5, .int x_20), (3, .int v_4), (0, .ref (mr 0)), (1, .int z_a), (2, .int z_snow)]) E.1 E.2.1 dX5_measureFrom_168 hl75 (k := 3) rfl ev_76 (by decide) rfl (fun ls hl77 => ?_)
                          refine lv_goto (pc := 171) (tgt := 64) E.1 E.2.1 dX5_measureFrom_171 (by decide) ?_
                          exact ih_38 v_76 1 gmeasured_69 _ _ _ ⟨(by show 0 ≤ v_76.toInt; omega), (by show v_76.toInt ≤ (mi 5).toInt; omega), (by show 0 ≤ (1 : Int32).toInt; have k_0 : (1 : Int32).toInt = 1 := (by decide +kernel); omega), (by show (1 : Int32).toInt ≤ 1; have k_0 : (1 : Int32).toInt = 1 := (by decide +kernel); omega)⟩ (by have k_0 : (1 : Int32).toInt = 1 := (by decide +kernel); omega) hw70 (lv_sub hl77 [0, 1, 4, 5, 6, 7, 8] rfl)
                        · skip
                          have hc_74 := eqE (a := x_36.toInt) (b := 0) rfl (by decide +kernel) c_74
                          refine lv_iload (pc := 151) E.1 E.2.1 dX5_measureFrom_151 (lv_at hl73 1 rfl) ?_
                          refine lv_if_ne (pc := 153) (tgt := 161) E.1 E.2.1 dX5_measureFrom_153 (by decide) (fun c_78 => ?_) (fun c_78 => ?_)
                          · skip
                            have hc_78 := neE (a := r_54.toInt) (b := 0) rfl (by decide +kernel) c_78
                            refine lv_iconst (pc := 161) (v := 1) E.1 E.2.1 dX5_measureFrom_161 (by decide +kernel) ?_
                            refine lv_goto (pc := 162) (tgt := 166) E.1 E.2.1 dX5_measureFrom_162 (by decide) ?_
                            refine lv_istore (pc := 166) (lv' := [(4, .int 1), (8, .int r_67), (7, .int r_54), (6, .int x_35), (5, .int x_20), (3, .int v_4), (0, .ref (mr 0)), (1, .int z_a), (2, .int z_snow)]) E.1 E.2.1 dX5_measureFrom_166 hl73 (by decide) rfl (fun ls hl79 => ?_)
                            obtain ⟨v_80, ev_80⟩ : ∃ z : Int32, x_35 + Int32.ofInt (1) = z := ⟨_, rfl⟩
                            have hv_80 : v_80.toInt = x_35.toInt + (1) := by rw [← ev_80]; exact incE rfl (by decide) (by omega)
                            refine lv_iinc (pc := 168) (v := v_80) (lv' := [(6, .int v_80), (4, .int 1), (8, .int r_67), (7, .int r_54), (5, .int x_20), (3, .int v_4), (0, .ref (mr 0)), (1, .int z_a), (2, .int z_snow)]) E.1 E.2.1 dX5_measureFrom_168 hl79 (k := 3) rfl ev_80 (by decide) rfl (fun ls hl81 => ?_)
                            refine lv_goto (pc := 171) (tgt := 64) E.1 E.2.1 dX5_measureFrom_171 (by decide) ?_
                            exact ih_38 v_80 1 gmeasured_69 _ _ _ ⟨(by show 0 ≤ v_80.toInt; omega), (by show v_80.toInt ≤ (mi 5).toInt; omega), (by show 0 ≤ (1 : Int32).toInt; have k_0 : (1 : Int32).toInt = 1 := (by decide +kernel); omega), (by show (1 : Int32).toInt ≤ 1; have k_0 : (1 : Int32).toInt = 1 := (by decide +kernel); omega)⟩ (by have k_0 : (1 : Int32).toInt = 1 := (by decide +kernel); omega) hw70 (lv_sub hl81 [0, 1, 4, 5, 6, 7, 8] rfl)
                          · skip
                            have hc_78 := eqE (a := r_54.toInt) (b := 0) rfl (by decide +kernel) c_78
                            refine lv_iload (pc := 156) E.1 E.2.1 dX5_measureFrom_156 (lv_at hl73 0 rfl) ?_
                            refine lv_if_eq (pc := 158) (tgt := 165) E.1 E.2.1 dX5_measureFrom_158 (by decide) (fun c_82 => ?_) (fun c_82 => ?_)
                            · skip
                              have hc_82 := eqE (a := r_67.toInt) (b := 0) rfl (by decide +kernel) c_82
                              refine lv_iconst (pc := 165) (v := 0) E.1 E.2.1 dX5_measureFrom_165 (by decide +kernel) ?_
                              refine lv_istore (pc := 166) (lv' := [(4, .int 0), (8, .int r_67), (7, .int r_54), (6, .int x_35), (5, .int x_20), (3, .int v_4), (0, .ref (mr 0)), (1, .int z_a), (2, .int z_snow)]) E.1 E.2.1 dX5_measureFrom_166 hl73 (by decide) rfl (fun ls hl83 => ?_)
                              obtain ⟨v_84, ev_84⟩ : ∃ z : Int32, x_35 + Int32.ofInt (1) = z := ⟨_, rfl⟩
                              have hv_84 : v_84.toInt = x_35.toInt + (1) := by rw [← ev_84]; exact incE rfl (by decide) (by omega)
                              refine lv_iinc (pc := 168) (v := v_84) (lv' := [(6, .int v_84), (4, .int 0), (8, .int r_67), (7, .int r_54), (5, .int x_20), (3, .int v_4), (0, .ref (mr 0)), (1, .int z_a), (2, .int z_snow)]) E.1 E.2.1 dX5_measureFrom_168 hl83 (k := 3) rfl ev_84 (by decide) rfl (fun ls hl85 => ?_)
                              refine lv_goto (pc := 171) (tgt := 64) E.1 E.2.1 dX5_measureFrom_171 (by decide) ?_
                              exact ih_38 v_84 0 gmeasured_69 _ _ _ ⟨(by show 0 ≤ v_84.toInt; omega), (by show v_84.toInt ≤ (mi 5).toInt; omega), (by show 0 ≤ (0 : Int32).toInt; have k_0 : (0 : Int32).toInt = 0 := (by decide +kernel); omega), (by show (0 : Int32).toInt ≤ 1; have k_0 : (0 : Int32).toInt = 0 := (by decide +kernel); omega)⟩ (by have k_0 : (0 : Int32).toInt = 0 := (by decide +kernel); omega) hw70 (lv_sub hl85 [0, 1, 4, 5, 6, 7, 8] rfl)
                            · skip
                              have hc_82 := neE (a := r_67.toInt) (b := 0) rfl (by decide +kernel) c_82
                              refine lv_iconst (pc := 161) (v := 1) E.1 E.2.1 dX5_measureFrom_161 (by decide +kernel) ?_
                              refine lv_goto (pc := 162) (tgt := 166) E.1 E.2.1 dX5_measureFrom_162 (by decide) ?_
                              refine lv_istore (pc := 166) (lv' := [(4, .int 1), (8, .int r_67), (7, .int r_54), (6, .int x_35), (5, .int x_20), (3, .int v_4), (0, .ref (mr 0)), (1, .int z_a), (2, .int z_snow)]) E.1 E.2.1 dX5_measureFrom_166 hl73 (by decide) rfl (fun ls hl86 => ?_)
                              obtain ⟨v_87, ev_87⟩ : ∃ z : Int32, x_35 + Int32.ofInt (1) = z := ⟨_, rfl⟩
                              have hv_87 : v_87.toInt = x_35.toInt + (1) := by rw [← ev_87]; exact incE rfl (by decide) (by omega)
                              refine lv_iinc (pc := 168) (v := v_87) (lv' := [(6, .int v_87), (4, .int 1), (8, .int r_67), (7, .int r_54), (5, .int x_20), (3, .int v_4), (0, .ref (mr 0)), (1, .int z_a), (2, .int z_snow)]) E.1 E.2.1 dX5_measureFrom_168 hl86 (k := 3) rfl ev_87 (by decide) rfl (fun ls hl88 => ?_)
                              refine lv_goto (pc := 171) (tgt := 64) E.1 E.2.1 dX5_measureFrom_171 (by decide) ?_
                              exact ih_38 v_87 1 gmeasured_69 _ _ _ ⟨(by show 0 ≤ v_87.toInt; omega), (by show v_87.toInt ≤ (mi 5).toInt; omega), (by show 0 ≤ (1 : Int32).toInt; have k_0 : (1 : Int32).toInt = 1 := (by decide +kernel); omega), (by show (1 : Int32).toInt ≤ 1; have k_0 : (1 : Int32).toInt = 1 := (by decide +kernel); omega)⟩ (by have k_0 : (1 : Int32).toInt = 1 := (by decide +kernel); omega) hw70 (lv_sub hl88 [0, 1, 4, 5, 6, 7, 8] rfl)
                exact loop_34 (Int.toNat ((mi 5).toInt - 0) + 1) 0 0 g_22 _ _ _ ⟨(by show 0 ≤ (0 : Int32).toInt; have k_0 : (0 : Int32).toInt = 0 := (by decide +kernel); omega), (by show (0 : Int32).toInt ≤ (mi 5).toInt; have k_0 : (0 : Int32).toInt = 0 := (by decide +kernel); omega), (by show 0 ≤ (0 : Int32).toInt; have k_0 : (0 : Int32).toInt = 0 := (by decide +kernel); omega), (by show (0 : Int32).toInt ≤ 1; have k_0 : (0 : Int32).toInt = 0 := (by decide +kernel); omega)⟩ (by have k_0 : (0 : Int32).toInt = 0 := (by decide +kernel); have k_1 : (0 : Int32).toInt = 0 := (by decide +kernel); omega) hw24 (lv_sub hl33 [0, 1, 2, 3, 4, 5, 6] rfl)
        exact loop_19 (Int.toNat (10 - 0) + 1) 0 1 g_15 _ _ _ ⟨(by show 0 ≤ (0 : Int32).toInt; have k_0 : (0 : Int32).toInt = 0 := (by decide +kernel); omega), (by show (0 : Int32).toInt ≤ 10; have k_0 : (0 : Int32).toInt = 0 := (by decide +kernel); omega), (by show 0 ≤ (1 : Int32).toInt; have k_0 : (1 : Int32).toInt = 1 := (by decide +kernel); omega), (by show (1 : Int32).toInt ≤ 1; have k_0 : (1 : Int32).toInt = 1 := (by decide +kernel); omega)⟩ (by have k_0 : (0 : Int32).toInt = 0 := (by decide +kernel); have k_1 : (1 : Int32).toInt = 1 := (by decide +kernel); omega) hw16 (lv_sub hl18 [0, 1, 2, 3, 4, 5] rfl)
      · skip
        have hc_13 := nleE (a := 10) (b := x_8.toInt) (by decide +kernel) rfl c_13
        refine lv_aload_n (pc := 15) E.1 E.2.1 dX5_measureFrom_15 rfl (lv_at hl12 2 rfl) ?_
        refine x_get (pc := 16) (T := TX5) (N := 7) (ci := 5) (v := .ref (mr 6)) E hw11 inX5 0 5 q_320 rfl rfl (by decide) rfl rfl dX5_measureFrom_16 ?_
        refine lv_iload_n (pc := 19) E.1 E.2.1 dX5_measureFrom_19 rfl (lv_at hl12 1 rfl) ?_
        refine lv_iload (pc := 20) E.1 E.2.1 dX5_measureFrom_20 (lv_at hl12 0 rfl) ?_
        refine lv_iadd (pc := 22) E.1 E.2.1 dX5_measureFrom_22 ?_
        refine lv_topi (fun v_89 ev_89 => ?_)
        have hv_89 : v_89.toInt = v_4.toInt + x_8.toInt := by rw [ev_89]; exact addE rfl rfl (by omega)
        refine lv_iconst (pc := 23) (v := (-1)) E.1 E.2.1 dX5_measureFrom_23 (by decide +kernel) ?_
        refine x_iastG (pc := 24) (f := g_9) (wf := fun g => (WZ_Paths cI cJ mr mi (va_up mf 6 g) mg)) E hw11 5 rfl (inbE (a := v_89.toInt) rfl (by omega)) (fun _ => rfl) dX5_measureFrom_24 (fun g_90 H locs eg_90 hw91 => ?_)
        obtain ⟨v_92, ev_92⟩ : ∃ z : Int32, x_8 + Int32.ofInt (1) = z := ⟨_, rfl⟩
        have hv_92 : v_92.toInt = x_8.toInt + (1) := by rw [← ev_92]; exact incE rfl (by decide) (by omega)
        refine lv_iinc (pc := 25) (v := v_92) (lv' := [(4, .int v_92), (3, .int v_4), (0, .ref (mr 0)), (1, .int z_a), (2, .int z_snow)]) E.1 E.2.1 dX5_measureFrom_25 hl12 (k := 0) rfl ev_92 (by decide) rfl (fun ls hl93 => ?_)
        refine lv_goto (pc := 28) (tgt := 8) E.1 E.2.1 dX5_measureFrom_28 (by decide) ?_
        exact ih_10 v_92 g_90 _ _ _ ⟨(by show 0 ≤ v_92.toInt; omega), (by show v_92.toInt ≤ 10; omega)⟩ (by omega) hw91 (lv_sub hl93 [0, 1, 2, 3, 4] rfl)
  exact loop_7 (Int.toNat (10 - 0) + 1) 0 (mf 6) _ _ _ ⟨(by show 0 ≤ (0 : Int32).toInt; have k_0 : (0 : Int32).toInt = 0 := (by decide +kernel); omega), (by show (0 : Int32).toInt ≤ 10; have k_0 : (0 : Int32).toInt = 0 := (by decide +kernel); omega)⟩ (by have k_0 : (0 : Int32).toInt = 0 := (by decide +kernel); omega) hw1 (lv_sub hl6 [0, 1, 2, 3, 4] rfl)
set_option maxHeartbeats 4000000 in
set_option maxRecDepth 100000 in
theorem t_apart (l : Launch) (D : va_G) (cI cJ : ClassId) (sz : Nat) (mr : Nat → Nat) (mi : Nat → Int32) (mf : Nat → Nat → Int32) (mg : Nat → Nat → Int64) (z_a : Int32) (z_b : Int32) (z_snow : Int32) (h0 : 0 ≤ (mi 5).toInt ∧ (mi 5).toInt ≤ 40) (a_from : p9 (mf 1)) (a_to : p9 (mf 2)) : Met l yX5_apart (Cond.code yX5_apart cX5_apart 4 (some .int) :: GW) ({ frames := 3, cells := 0, slots := 0, locals := 92 } : Room) (va_Pc [.ref (mr 0), .int z_a, .int z_b, .int z_snow] (PW D cI cJ sz (WZ_Paths cI cJ mr mi mf mg) xT)) (va_Qi (fun (r : Int32) (u : (Nat → Int32) × (Nat → Int32)) => True) (fun u => QW D cI cJ (va_A (WZ_Paths cI cJ mr mi mf mg) sz) ((fun (u : (Nat → Int32) × (Nat → Int32)) => (WZ_Paths cI cJ mr mi (va_up (va_up mf 6 u.1) 7 u.2) mg)) u)) (va_A (WZ_Paths cI cJ mr mi mf mg) sz)) 0 0 (va_A (WZ_Paths cI cJ mr mi mf mg) sz) := by
  refine mk_met (y := yX5_apart) (bytes := cX5_apart) (maxL := 4) (avs := [.ref (mr 0), .int z_a, .int z_b, .int z_snow]) (WS := (WZ_Paths cI cJ mr mi mf mg)) (Qf := fun A => va_Qi (fun (r : Int32) (u : (Nat → Int32) × (Nat → Int32)) => True) (fun u => QW D cI cJ A ((fun (u : (Nat → Int32) × (Nat → Int32)) => (WZ_Paths cI cJ mr mi (va_up (va_up mf 6 u.1) 7 u.2) mg)) u)) A) (by decide) (Nat.le_of_ble_eq_true rfl) ?_
  intro p e s m below meth c A ls E hr hlk hnm hX hw1 hl2
  have hl3 : lv_has ls 4 [(0, .ref (mr 0)), (1, .int z_a), (2, .int z_b), (3, .int z_snow)] := hl2
  refine lv_iload_n (pc := 0) E.1 E.2.1 dX5_apart_0 rfl (lv_at hl3 1 rfl) ?_
  refine lv_if_lt (pc := 1) (tgt := 20) E.1 E.2.1 dX5_apart_1 (by decide) (fun c_4 => ?_) (fun c_4 => ?_)
  · skip
    have hc_4 := ltE (a := z_a.toInt) (b := 0) rfl (by decide +kernel) c_4
    refine lv_iconst (pc := 20) (v := (-1)) E.1 E.2.1 dX5_apart_20 (by decide +kernel) ?_
    exact em_i (w1 := (fun (u : (Nat → Int32) × (Nat → Int32)) => (WZ_Paths cI cJ mr mi (va_up (va_up mf 6 u.1) 7 u.2) mg))) E hr hlk ((mf 6), (mf 7)) hw1 trivial (Nat.le_of_ble_eq_true rfl) (Nat.le_of_ble_eq_true rfl) dX5_apart_21
  · skip
    have hc_4 := nltE (a := z_a.toInt) (b := 0) rfl (by decide +kernel) c_4
    refine lv_iload_n (pc := 4) E.1 E.2.1 dX5_apart_4 rfl (lv_at hl3 1 rfl) ?_
    refine lv_bipush (pc := 5) (v := 10) E.1 E.2.1 dX5_apart_5 (by decide +kernel) ?_
    refine lv_icmp_ge (pc := 7) (tgt := 20) E.1 E.2.1 dX5_apart_7 (by decide) (fun c_5 => ?_) (fun c_5 => ?_)
    · skip
      have hc_5 := leE (a := 10) (b := z_a.toInt) (by decide +kernel) rfl c_5
      refine lv_iconst (pc := 20) (v := (-1)) E.1 E.2.1 dX5_apart_20 (by decide +kernel) ?_
      exact em_i (w1 := (fun (u : (Nat → Int32) × (Nat → Int32)) => (WZ_Paths cI cJ mr mi (va_up (va_up mf 6 u.1) 7 u.2) mg))) E hr hlk ((mf 6), (mf 7)) hw1 trivial (Nat.le_of_ble_eq_true rfl) (Nat.le_of_ble_eq_true rfl) dX5_apart_21
    · skip
      have hc_5 := nleE (a := 10) (b := z_a.toInt) (by decide +kernel) rfl c_5
      refine lv_iload_n (pc := 10) E.1 E.2.1 dX5_apart_10 rfl (lv_at hl3 2 rfl) ?_
      refine lv_if_lt (pc := 11) (tgt := 20) E.1 E.2.1 dX5_apart_11 (by decide) (fun c_6 => ?_) (fun c_6 => ?_)
      · skip
        have hc_6 := ltE (a := z_b.toInt) (b := 0) rfl (by decide +kernel) c_6
        refine lv_iconst (pc := 20) (v := (-1)) E.1 E.2.1 dX5_apart_20 (by decide +kernel) ?_
        exact em_i (w1 := (fun (u : (Nat → Int32) × (Nat → Int32)) => (WZ_Paths cI cJ mr mi (va_up (va_up mf 6 u.1) 7 u.2) mg))) E hr hlk ((mf 6), (mf 7)) hw1 trivial (Nat.le_of_ble_eq_true rfl) (Nat.le_of_ble_eq_true rfl) dX5_apart_21
      · skip
        have hc_6 := nltE (a := z_b.toInt) (b := 0) rfl (by decide +kernel) c_6
        refine lv_iload_n (pc := 14) E.1 E.2.1 dX5_apart_14 rfl (lv_at hl3 2 rfl) ?_
        refine lv_bipush (pc := 15) (v := 10) E.1 E.2.1 dX5_apart_15 (by decide +kernel) ?_
        refine lv_icmp_lt (pc := 17) (tgt := 22) E.1 E.2.1 dX5_apart_17 (by decide) (fun c_7 => ?_) (fun c_7 => ?_)
        · skip
          have hc_7 := ltE (a := z_b.toInt) (b := 10) rfl (by decide +kernel) c_7
          refine lv_aload_n (pc := 22) E.1 E.2.1 dX5_apart_22 rfl (lv_at hl3 0 rfl) ?_
          refine x_get (pc := 23) (T := TX5) (N := 7) (ci := 5) (v := .ref (mr 7)) E hw1 inX5 0 6 q_321 rfl rfl (by decide) rfl rfl dX5_apart_23 ?_
          refine lv_iload_n (pc := 26) E.1 E.2.1 dX5_apart_26 rfl (lv_at hl3 1 rfl) ?_
          refine x_iald (pc := 27) (f := (mf 7)) E hw1 6 rfl (inbE (a := z_a.toInt) rfl (by omega)) dX5_apart_27 ?_
          refine lv_topi (fun v_8 ev_8 => ?_)
          refine lv_iload_n (pc := 28) E.1 E.2.1 dX5_apart_28 rfl (lv_at hl3 3 rfl) ?_
          refine lv_icmp_eq (pc := 29) (tgt := 38) E.1 E.2.1 dX5_apart_29 (by decide) (fun c_9 => ?_) (fun c_9 => ?_)
          · skip
            have hc_9 := eqE (a := v_8.toInt) (b := z_snow.toInt) rfl rfl c_9
            refine lv_aload_n (pc := 38) E.1 E.2.1 dX5_apart_38 rfl (lv_at hl3 0 rfl) ?_
            refine x_get (pc := 39) (T := TX5) (N := 7) (ci := 5) (v := .ref (mr 6)) E hw1 inX5 0 5 q_320 rfl rfl (by decide) rfl rfl dX5_apart_39 ?_
            refine lv_iload_n (pc := 42) E.1 E.2.1 dX5_apart_42 rfl (lv_at hl3 1 rfl) ?_
            refine lv_bipush (pc := 43) (v := 10) E.1 E.2.1 dX5_apart_43 (by decide +kernel) ?_
            refine lv_imul (pc := 45) E.1 E.2.1 dX5_apart_45 ?_
            refine lv_topi (fun v_10 ev_10 => ?_)
            have hv_10 : v_10.toInt = z_a.toInt * 10 := by rw [ev_10]; exact mulE rfl (by decide +kernel) (by omega)
            refine lv_iload_n (pc := 46) E.1 E.2.1 dX5_apart_46 rfl (lv_at hl3 2 rfl) ?_
            refine lv_iadd (pc := 47) E.1 E.2.1 dX5_apart_47 ?_
            refine lv_topi (fun v_11 ev_11 => ?_)
            have hv_11 : v_11.toInt = v_10.toInt + z_b.toInt := by rw [ev_11]; exact addE rfl rfl (by omega)
            refine x_iald (pc := 48) (f := (mf 6)) E hw1 5 rfl (inbE (a := v_11.toInt) rfl (by omega)) dX5_apart_48 ?_
            refine lv_topi (fun v_12 ev_12 => ?_)
            exact em_i (w1 := (fun (u : (Nat → Int32) × (Nat → Int32)) => (WZ_Paths cI cJ mr mi (va_up (va_up mf 6 u.1) 7 u.2) mg))) E hr hlk ((mf 6), (mf 7)) hw1 trivial (Nat.le_of_ble_eq_true rfl) (Nat.le_of_ble_eq_true rfl) dX5_apart_49
          · skip
            have hc_9 := neE (a := v_8.toInt) (b := z_snow.toInt) rfl rfl c_9
            refine lv_aload_n (pc := 32) E.1 E.2.1 dX5_apart_32 rfl (lv_at hl3 0 rfl) ?_
            refine lv_iload_n (pc := 33) E.1 E.2.1 dX5_apart_33 rfl (lv_at hl3 1 rfl) ?_
            refine lv_iload_n (pc := 34) E.1 E.2.1 dX5_apart_34 rfl (lv_at hl3 3 rfl) ?_
            refine ck_v (pc := 35) (ws' := (fun (u : (Nat → Int32) × (Nat → Int32)) => (WZ_Paths cI cJ mr mi (va_up (va_up mf 6 u.1) 7 u.2) mg))) [true, true, true, true, true, true, true] hw1 rfl (fun hC_ => (rn_V (As := [.int z_a, .int z_snow]) (rest := []) E hw1 (t_measureFrom l D cI cJ _ mr mi mf mg z_a z_snow h0 (by show 0 ≤ z_a.toInt ∧ z_a.toInt ≤ 9; omega) a_from a_to) (gdV q_1020 q_1022 q_21 q_155 q_1023) hdV_X5_measureFrom ⟨rfl, rfl⟩ ⟨(Nat.le_of_ble_eq_true rfl), (Nat.le_of_ble_eq_true rfl)⟩ ⟨(Nat.le_of_ble_eq_true rfl), (Nat.le_of_ble_eq_true rfl)⟩ xT_b xT_at 0 5 rfl rfl rfl _ hC_ (nd_T _ 0) rfl hl3.1 rfl (Nat.le_of_ble_eq_true rfl) dX5_apart_35)) rfl (fun _ => rfl) (fun _ => rfl) (fun u_13 H1 locs hp hw15 => ?_)
            obtain ⟨gmeasured_16, gmeasuredIn_17⟩ := u_13
            generalize H1 = H at hw15 ⊢
            have hw18 : WD D A s.heap (WZ_Paths cI cJ mr mi (va_up (va_up mf 6 gmeasured_16) 7 gmeasuredIn_17) mg) H locs := hw15
            refine lv_aload_n (pc := 38) E.1 E.2.1 dX5_apart_38 rfl (lv_at hl3 0 rfl) ?_
            refine x_get (pc := 39) (T := TX5) (N := 7) (ci := 5) (v := .ref (mr 6)) E hw18 inX5 0 5 q_320 rfl rfl (by decide) rfl rfl dX5_apart_39 ?_
            refine lv_iload_n (pc := 42) E.1 E.2.1 dX5_apart_42 rfl (lv_at hl3 1 rfl) ?_
            refine lv_bipush (pc := 43) (v := 10) E.1 E.2.1 dX5_apart_43 (by decide +kernel) ?_
            refine lv_imul (pc := 45) E.1 E.2.1 dX5_apart_45 ?_
            refine lv_topi (fun v_19 ev_19 => ?_)
            have hv_19 : v_19.toInt = z_a.toInt * 10 := by rw [ev_19]; exact mulE rfl (by decide +kernel) (by omega)
            refine lv_iload_n (pc := 46) E.1 E.2.1 dX5_apart_46 rfl (lv_at hl3 2 rfl) ?_
            refine lv_iadd (pc := 47) E.1 E.2.1 dX5_apart_47 ?_
            refine lv_topi (fun v_20 ev_20 => ?_)
            have hv_20 : v_20.toInt = v_19.toInt + z_b.toInt := by rw [ev_20]; exact addE rfl rfl (by omega)
            refine x_iald (pc := 48) (f := gmeasured_16) E hw18 5 rfl (inbE (a := v_20.toInt) rfl (by omega)) dX5_apart_48 ?_
            refine lv_topi (fun v_21 ev_21 => ?_)
            exact em_i (w1 := (fun (u : (Nat → Int32) × (Nat → Int32)) => (WZ_Paths cI cJ mr mi (va_up (va_up mf 6 u.1) 7 u.2) mg))) E hr hlk (gmeasured_16, gmeasuredIn_17) hw18 trivial (Nat.le_of_ble_eq_true rfl) (Nat.le_of_ble_eq_true rfl) dX5_apart_49
        · skip
          have hc_7 := nltE (a := z_b.toInt) (b := 10) rfl (by decide +kernel) c_7
          refine lv_iconst (pc := 20) (v := (-1)) E.1 E.2.1 dX5_apart_20 (by decide +kernel) ?_
          exact em_i (w1 := (fun (u : (Nat → Int32) × (Nat → Int32)) => (WZ_Paths cI cJ mr mi (va_up (va_up mf 6 u.1) 7 u.2) mg))) E hr hlk ((mf 6), (mf 7)) hw1 trivial (Nat.le_of_ble_eq_true rfl) (Nat.le_of_ble_eq_true rfl) dX5_apart_21
set_option maxHeartbeats 4000000 in
set_option maxRecDepth 100000 in
theorem t_pathsTake (l : Launch) (D : va_G) (cI cJ : ClassId) (sz : Nat) (mr : Nat → Nat) (mi : Nat → Int32) (mf : Nat → Nat → Int32) (mg : Nat → Nat → Int64)  (a_o_from : p9 (mf 9)) (a_o_to : p9 (mf 10)) : Met l yX5_take (Cond.code yX5_take cX5_take 3 none :: GW) ({ frames := 1, cells := 0, slots := 0, locals := 60 } : Room) (va_Pc [.ref (mr 0), .ref (mr 8)] (PW D cI cJ sz (WZ_Paths2 cI cJ mr mi mf mg) xT)) (va_Qv (fun (u : (Nat → Int32) × (Nat → Int32) × (Nat → Int32) × (Nat → Int32) × Int32 × (Nat → Int32)) => (u.2.2.2.2.1.toInt = (mi 13).toInt) ∧ (p9 u.1) ∧ (p9 u.2.1)) (fun u => QW D cI cJ (va_A (WZ_Paths2 cI cJ mr mi mf mg) sz) ((fun (u : (Nat → Int32) × (Nat → Int32) × (Nat → Int32) × (Nat → Int32) × Int32 × (Nat → Int32)) => (WZ_Paths2 cI cJ mr (upd mi 5 u.2.2.2.2.1) (va_up (va_up (va_up (va_up (va_up mf 1 u.1) 2 u.2.1) 3 u.2.2.1) 4 u.2.2.2.1) 7 u.2.2.2.2.2) mg)) u)) (va_A (WZ_Paths2 cI cJ mr mi mf mg) sz)) 0 0 (va_A (WZ_Paths2 cI cJ mr mi mf mg) sz) := by
  refine mk_met (y := yX5_take) (bytes := cX5_take) (maxL := 3) (avs := [.ref (mr 0), .ref (mr 8)]) (WS := (WZ_Paths2 cI cJ mr mi mf mg)) (Qf := fun A => va_Qv (fun (u : (Nat → Int32) × (Nat → Int32) × (Nat → Int32) × (Nat → Int32) × Int32 × (Nat → Int32)) => (u.2.2.2.2.1.toInt = (mi 13).toInt) ∧ (p9 u.1) ∧ (p9 u.2.1)) (fun u => QW D cI cJ A ((fun (u : (Nat → Int32) × (Nat → Int32) × (Nat → Int32) × (Nat → Int32) × Int32 × (Nat → Int32)) => (WZ_Paths2 cI cJ mr (upd mi 5 u.2.2.2.2.1) (va_up (va_up (va_up (va_up (va_up mf 1 u.1) 2 u.2.1) 3 u.2.2.1) 4 u.2.2.2.1) 7 u.2.2.2.2.2) mg)) u)) A) (by decide) (Nat.le_of_ble_eq_true rfl) ?_
  intro p e s m below meth c A ls E hr hlk hnm hX hw1 hl2
  have hl3 : lv_has ls 3 [(0, .ref (mr 0)), (1, .ref (mr 8))] := hl2
  refine lv_aload_n (pc := 0) E.1 E.2.1 dX5_take_0 rfl (lv_at hl3 1 rfl) ?_
  refine x_get (pc := 1) (T := TX5) (N := 7) (ci := 5) (v := .ref (mr 9)) E hw1 inX5 7 0 q_314 rfl rfl (by decide) rfl rfl dX5_take_1 ?_
  refine lv_iconst (pc := 4) (v := 0) E.1 E.2.1 dX5_take_4 (by decide +kernel) ?_
  refine lv_aload_n (pc := 5) E.1 E.2.1 dX5_take_5 rfl (lv_at hl3 0 rfl) ?_
  refine x_get (pc := 6) (T := TX5) (N := 7) (ci := 5) (v := .ref (mr 1)) E hw1 inX5 0 0 q_314 rfl rfl (by decide) rfl rfl dX5_take_6 ?_
  refine lv_iconst (pc := 9) (v := 0) E.1 E.2.1 dX5_take_9 (by decide +kernel) ?_
  refine lv_bipush (pc := 10) (v := 40) E.1 E.2.1 dX5_take_10 (by decide +kernel) ?_
  refine x_copyG (pc := 12) (N := 40) (wf := fun g => (WZ_Paths2 cI cJ mr mi (va_up mf 1 g) mg)) E hw1 hl3.1 q_972 q_967 q_966 q_169 8 1 rfl rfl (by decide +kernel) (by decide +kernel) (Nat.le_of_ble_eq_true rfl) (Nat.le_of_ble_eq_true rfl) (fun _ => rfl) (Nat.le_of_ble_eq_true rfl) (Nat.le_of_ble_eq_true rfl) dX5_take_12 (fun g_4 H locs eg_4 hw5 => ?_)
  have hcp_6 := allR_cp a_o_from eg_4
  refine lv_aload_n (pc := 15) E.1 E.2.1 dX5_take_15 rfl (lv_at hl3 1 rfl) ?_
  refine x_get (pc := 16) (T := TX5) (N := 7) (ci := 5) (v := .ref (mr 10)) E hw5 inX5 7 1 q_315 rfl rfl (by decide) rfl rfl dX5_take_16 ?_
  refine lv_iconst (pc := 19) (v := 0) E.1 E.2.1 dX5_take_19 (by decide +kernel) ?_
  refine lv_aload_n (pc := 20) E.1 E.2.1 dX5_take_20 rfl (lv_at hl3 0 rfl) ?_
  refine x_get (pc := 21) (T := TX5) (N := 7) (ci := 5) (v := .ref (mr 2)) E hw5 inX5 0 1 q_315 rfl rfl (by decide) rfl rfl dX5_take_21 ?_
  refine lv_iconst (pc := 24) (v := 0) E.1 E.2.1 dX5_take_24 (by decide +kernel) ?_
  refine lv_bipush (pc := 25) (v := 40) E.1 E.2.1 dX5_take_25 (by decide +kernel) ?_
  refine x_copyG (pc := 27) (N := 40) (wf := fun g => (WZ_Paths2 cI cJ mr mi (va_up (va_up mf 1 g_4) 2 g) mg)) E hw5 hl3.1 q_972 q_967 q_966 q_169 9 2 rfl rfl (by decide +kernel) (by decide +kernel) (Nat.le_of_ble_eq_true rfl) (Nat.le_of_ble_eq_true rfl) (fun _ => rfl) (Nat.le_of_ble_eq_true rfl) (Nat.le_of_ble_eq_true rfl) dX5_take_27 (fun g_7 H locs eg_7 hw8 => ?_)
  have hcp_9 := allR_cp a_o_to eg_7
  refine lv_aload_n (pc := 30) E.1 E.2.1 dX5_take_30 rfl (lv_at hl3 1 rfl) ?_
  refine x_get (pc := 31) (T := TX5) (N := 7) (ci := 5) (v := .ref (mr 11)) E hw8 inX5 7 2 q_316 rfl rfl (by decide) rfl rfl dX5_take_31 ?_
  refine lv_iconst (pc := 34) (v := 0) E.1 E.2.1 dX5_take_34 (by decide +kernel) ?_
  refine lv_aload_n (pc := 35) E.1 E.2.1 dX5_take_35 rfl (lv_at hl3 0 rfl) ?_
  refine x_get (pc := 36) (T := TX5) (N := 7) (ci := 5) (v := .ref (mr 3)) E hw8 inX5 0 2 q_316 rfl rfl (by decide) rfl rfl dX5_take_36 ?_
  refine lv_iconst (pc := 39) (v := 0) E.1 E.2.1 dX5_take_39 (by decide +kernel) ?_
  refine lv_bipush (pc := 40) (v := 40) E.1 E.2.1 dX5_take_40 (by decide +kernel) ?_
  refine x_copyG (pc := 42) (N := 40) (wf := fun g => (WZ_Paths2 cI cJ mr mi (va_up (va_up (va_up mf 1 g_4) 2 g_7) 3 g) mg)) E hw8 hl3.1 q_972 q_967 q_966 q_169 10 3 rfl rfl (by decide +kernel) (by decide +kernel) (Nat.le_of_ble_eq_true rfl) (Nat.le_of_ble_eq_true rfl) (fun _ => rfl) (Nat.le_of_ble_eq_true rfl) (Nat.le_of_ble_eq_true rfl) dX5_take_42 (fun g_10 H locs eg_10 hw11 => ?_)
  refine lv_aload_n (pc := 45) E.1 E.2.1 dX5_take_45 rfl (lv_at hl3 1 rfl) ?_
  refine x_get (pc := 46) (T := TX5) (N := 7) (ci := 5) (v := .ref (mr 12)) E hw11 inX5 7 3 q_317 rfl rfl (by decide) rfl rfl dX5_take_46 ?_
  refine lv_iconst (pc := 49) (v := 0) E.1 E.2.1 dX5_take_49 (by decide +kernel) ?_
  refine lv_aload_n (pc := 50) E.1 E.2.1 dX5_take_50 rfl (lv_at hl3 0 rfl) ?_
  refine x_get (pc := 51) (T := TX5) (N := 7) (ci := 5) (v := .ref (mr 4)) E hw11 inX5 0 3 q_317 rfl rfl (by decide) rfl rfl dX5_take_51 ?_
  refine lv_iconst (pc := 54) (v := 0) E.1 E.2.1 dX5_take_54 (by decide +kernel) ?_
  refine lv_bipush (pc := 55) (v := 40) E.1 E.2.1 dX5_take_55 (by decide +kernel) ?_
  refine x_copyG (pc := 57) (N := 40) (wf := fun g => (WZ_Paths2 cI cJ mr mi (va_up (va_up (va_up (va_up mf 1 g_4) 2 g_7) 3 g_10) 4 g) mg)) E hw11 hl3.1 q_972 q_967 q_966 q_169 11 4 rfl rfl (by decide +kernel) (by decide +kernel) (Nat.le_of_ble_eq_true rfl) (Nat.le_of_ble_eq_true rfl) (fun _ => rfl) (Nat.le_of_ble_eq_true rfl) (Nat.le_of_ble_eq_true rfl) dX5_take_57 (fun g_12 H locs eg_12 hw13 => ?_)
  refine lv_aload_n (pc := 60) E.1 E.2.1 dX5_take_60 rfl (lv_at hl3 0 rfl) ?_
  refine lv_aload_n (pc := 61) E.1 E.2.1 dX5_take_61 rfl (lv_at hl3 1 rfl) ?_
  refine x_get (pc := 62) (T := TX5) (N := 7) (ci := 5) (v := .int (mi 13)) E hw13 inX5 7 4 q_318 rfl rfl (by decide) rfl rfl dX5_take_62 ?_
  refine x_put (pc := 65) (T := TX5) (N := 7) (ci := 5) (ws' := (WZ_Paths2 cI cJ mr (upd mi 5 (mi 13)) (va_up (va_up (va_up (va_up mf 1 g_4) 2 g_7) 3 g_10) 4 g_12) mg)) E hw13 inX5 tyX5_ok nmX5 0 4 q_318 rfl rfl (by decide) rfl rfl rfl rfl (Nat.le_of_ble_eq_true rfl) rfl dX5_take_65 (fun H locs hw14 => ?_)
  refine lv_iconst (pc := 68) (v := 0) E.1 E.2.1 dX5_take_68 (by decide +kernel) ?_
  refine lv_istore_n (pc := 69) (lv' := [(2, .int 0), (0, .ref (mr 0)), (1, .ref (mr 8))]) E.1 E.2.1 dX5_take_69 rfl hl3 (by decide) rfl (fun ls hl15 => ?_)
  have loop_16 : ∀ (k : Nat) (x_17 : Int32) (g_18 : Nat → Int32) (H : Heap) (locs : List Loc) (ls : Array Slot), (0 ≤ x_17.toInt) ∧ (x_17.toInt ≤ 10) → 10 - x_17.toInt < (k : Int) → WD D A s.heap (WZ_Paths2 cI cJ mr (upd mi 5 (mi 13)) (va_up (va_up (va_up (va_up (va_up mf 1 g_4) 2 g_7) 3 g_10) 4 g_12) 7 g_18) mg) H locs → lv_has ls 3 [(2, .int x_17), (0, .ref (mr 0)), (1, .ref (mr 8))] → W p l e ({ frames := 1, cells := 0, slots := 0, locals := 60 } : Room) s m ([.ref (mr 0), .ref (mr 8)] : List Value).toArray below meth c H locs 0 0 (MQ below (va_Qv (fun (u : (Nat → Int32) × (Nat → Int32) × (Nat → Int32) × (Nat → Int32) × Int32 × (Nat → Int32)) => (u.2.2.2.2.1.toInt = (mi 13).toInt) ∧ (p9 u.1) ∧ (p9 u.2.1)) (fun u => QW D cI cJ A ((fun (u : (Nat → Int32) × (Nat → Int32) × (Nat → Int32) × (Nat → Int32) × Int32 × (Nat → Int32)) => (WZ_Paths2 cI cJ mr (upd mi 5 u.2.2.2.2.1) (va_up (va_up (va_up (va_up (va_up mf 1 u.1) 2 u.2.1) 3 u.2.2.1) 4 u.2.2.2.1) 7 u.2.2.2.2.2) mg)) u)) A) ([.ref (mr 0), .ref (mr 8)] : List Value).toArray s 0 0 A) (F0 m 70 ls []) := by
    intro k
    induction k with
    | zero =>
      intro x_17 g_18 _ _ _ hinv hm
      obtain ⟨hi_18_0, hi_18_1⟩ := hinv
      exact absurd hm (by omega)
    | succ k ih_19 =>
      intro x_17 g_18 H locs ls hinv hm hw20 hl21
      obtain ⟨hi_18_0, hi_18_1⟩ := hinv
      refine lv_iload_n (pc := 70) E.1 E.2.1 dX5_take_70 rfl (lv_at hl21 0 rfl) ?_
      refine lv_bipush (pc := 71) (v := 10) E.1 E.2.1 dX5_take_71 (by decide +kernel) ?_
      refine lv_icmp_ge (pc := 73) (tgt := 89) E.1 E.2.1 dX5_take_73 (by decide) (fun c_22 => ?_) (fun c_22 => ?_)
      · skip
        have hc_22 := leE (a := 10) (b := x_17.toInt) (by decide +kernel) rfl c_22
        exact em_v (w1 := (fun (u : (Nat → Int32) × (Nat → Int32) × (Nat → Int32) × (Nat → Int32) × Int32 × (Nat → Int32)) => (WZ_Paths2 cI cJ mr (upd mi 5 u.2.2.2.2.1) (va_up (va_up (va_up (va_up (va_up mf 1 u.1) 2 u.2.1) 3 u.2.2.1) 4 u.2.2.2.1) 7 u.2.2.2.2.2) mg))) E hr hlk (g_4, g_7, g_10, g_12, (mi 13), g_18) hw20 ⟨rfl, hcp_6, hcp_9⟩ (Nat.le_of_ble_eq_true rfl) (Nat.le_of_ble_eq_true rfl) dX5_take_89
      · skip
        have hc_22 := nleE (a := 10) (b := x_17.toInt) (by decide +kernel) rfl c_22
        refine lv_aload_n (pc := 76) E.1 E.2.1 dX5_take_76 rfl (lv_at hl21 1 rfl) ?_
        refine x_get (pc := 77) (T := TX5) (N := 7) (ci := 5) (v := .ref (mr 7)) E hw20 inX5 0 6 q_321 rfl rfl (by decide) rfl rfl dX5_take_77 ?_
        refine lv_iload_n (pc := 80) E.1 E.2.1 dX5_take_80 rfl (lv_at hl21 0 rfl) ?_
        refine lv_iconst (pc := 81) (v := (-1)) E.1 E.2.1 dX5_take_81 (by decide +kernel) ?_
        refine x_iastG (pc := 82) (f := g_18) (wf := fun g => (WZ_Paths2 cI cJ mr (upd mi 5 (mi 13)) (va_up (va_up (va_up (va_up (va_up mf 1 g_4) 2 g_7) 3 g_10) 4 g_12) 7 g) mg)) E hw20 6 rfl (inbE (a := x_17.toInt) rfl (by omega)) (fun _ => rfl) dX5_take_82 (fun g_23 H locs eg_23 hw24 => ?_)
        obtain ⟨v_25, ev_25⟩ : ∃ z : Int32, x_17 + Int32.ofInt (1) = z := ⟨_, rfl⟩
        have hv_25 : v_25.toInt = x_17.toInt + (1) := by rw [← ev_25]; exact incE rfl (by decide) (by omega)
        refine lv_iinc (pc := 83) (v := v_25) (lv' := [(2, .int v_25), (0, .ref (mr 0)), (1, .ref (mr 8))]) E.1 E.2.1 dX5_take_83 hl21 (k := 0) rfl ev_25 (by decide) rfl (fun ls hl26 => ?_)
        refine lv_goto (pc := 86) (tgt := 70) E.1 E.2.1 dX5_take_86 (by decide) ?_
        exact ih_19 v_25 g_23 _ _ _ ⟨(by show 0 ≤ v_25.toInt; omega), (by show v_25.toInt ≤ 10; omega)⟩ (by omega) hw24 (lv_sub hl26 [0, 1, 2] rfl)
  exact loop_16 (Int.toNat (10 - 0) + 1) 0 (mf 7) _ _ _ ⟨(by show 0 ≤ (0 : Int32).toInt; have k_0 : (0 : Int32).toInt = 0 := (by decide +kernel); omega), (by show (0 : Int32).toInt ≤ 10; have k_0 : (0 : Int32).toInt = 0 := (by decide +kernel); omega)⟩ (by have k_0 : (0 : Int32).toInt = 0 := (by decide +kernel); omega) hw14 (lv_sub hl15 [0, 1, 2] rfl)
set_option maxHeartbeats 4000000 in
set_option maxRecDepth 100000 in
theorem t_lawTake (l : Launch) (D : va_G) (cI cJ : ClassId) (sz : Nat) (mr : Nat → Nat) (mi : Nat → Int32) (mf : Nat → Nat → Int32) (mg : Nat → Nat → Int64)  (a_o_marks : m4 (mf 13)) : Met l yX2_take (Cond.code yX2_take cX2_take 2 none :: GW) ({ frames := 1, cells := 0, slots := 0, locals := 60 } : Room) (va_Pc [.ref (mr 0), .ref (mr 10)] (PW D cI cJ sz (WZ_Law2 cI cJ mr mi mf mg) xT)) (va_Qv (fun (u : (Nat → Int32) × (Nat → Int32) × Int32) => (u.2.2.toInt = (mi 14).toInt) ∧ (m4 u.2.1)) (fun u => QW D cI cJ (va_A (WZ_Law2 cI cJ mr mi mf mg) sz) ((fun (u : (Nat → Int32) × (Nat → Int32) × Int32) => (WZ_Law2 cI cJ mr (upd mi 4 u.2.2) (va_up (va_up mf 1 u.1) 3 u.2.1) mg)) u)) (va_A (WZ_Law2 cI cJ mr mi mf mg) sz)) 0 0 (va_A (WZ_Law2 cI cJ mr mi mf mg) sz) := by
  refine mk_met (y := yX2_take) (bytes := cX2_take) (maxL := 2) (avs := [.ref (mr 0), .ref (mr 10)]) (WS := (WZ_Law2 cI cJ mr mi mf mg)) (Qf := fun A => va_Qv (fun (u : (Nat → Int32) × (Nat → Int32) × Int32) => (u.2.2.toInt = (mi 14).toInt) ∧ (m4 u.2.1)) (fun u => QW D cI cJ A ((fun (u : (Nat → Int32) × (Nat → Int32) × Int32) => (WZ_Law2 cI cJ mr (upd mi 4 u.2.2) (va_up (va_up mf 1 u.1) 3 u.2.1) mg)) u)) A) (by decide) (Nat.le_of_ble_eq_true rfl) ?_
  intro p e s m below meth c A ls E hr hlk hnm hX hw1 hl2
  have hl3 : lv_has ls 2 [(0, .ref (mr 0)), (1, .ref (mr 10))] := hl2
  refine lv_aload_n (pc := 0) E.1 E.2.1 dX2_take_0 rfl (lv_at hl3 1 rfl) ?_
  refine x_get (pc := 1) (T := TX2) (N := 9) (ci := 2) (v := .ref (mr 11)) E hw1 inX2 5 0 q_384 rfl rfl (by decide) rfl rfl dX2_take_1 ?_
  refine lv_iconst (pc := 4) (v := 0) E.1 E.2.1 dX2_take_4 (by decide +kernel) ?_
  refine lv_aload_n (pc := 5) E.1 E.2.1 dX2_take_5 rfl (lv_at hl3 0 rfl) ?_
  refine x_get (pc := 6) (T := TX2) (N := 9) (ci := 2) (v := .ref (mr 1)) E hw1 inX2 0 0 q_384 rfl rfl (by decide) rfl rfl dX2_take_6 ?_
  refine lv_iconst (pc := 9) (v := 0) E.1 E.2.1 dX2_take_9 (by decide +kernel) ?_
  refine lv_sipush (pc := 10) (v := 400) E.1 E.2.1 dX2_take_10 (by decide +kernel) ?_
  refine x_copyG (pc := 13) (N := 400) (wf := fun g => (WZ_Law2 cI cJ mr mi (va_up mf 1 g) mg)) E hw1 hl3.1 q_965 q_967 q_966 q_169 6 1 rfl rfl (by decide +kernel) (by decide +kernel) (Nat.le_of_ble_eq_true rfl) (Nat.le_of_ble_eq_true rfl) (fun _ => rfl) (Nat.le_of_ble_eq_true rfl) (Nat.le_of_ble_eq_true rfl) dX2_take_13 (fun g_4 H locs eg_4 hw5 => ?_)
  refine lv_aload_n (pc := 16) E.1 E.2.1 dX2_take_16 rfl (lv_at hl3 1 rfl) ?_
  refine x_get (pc := 17) (T := TX2) (N := 9) (ci := 2) (v := .ref (mr 13)) E hw5 inX2 5 2 q_386 rfl rfl (by decide) rfl rfl dX2_take_17 ?_
  refine lv_iconst (pc := 20) (v := 0) E.1 E.2.1 dX2_take_20 (by decide +kernel) ?_
  refine lv_aload_n (pc := 21) E.1 E.2.1 dX2_take_21 rfl (lv_at hl3 0 rfl) ?_
  refine x_get (pc := 22) (T := TX2) (N := 9) (ci := 2) (v := .ref (mr 3)) E hw5 inX2 0 2 q_386 rfl rfl (by decide) rfl rfl dX2_take_22 ?_
  refine lv_iconst (pc := 25) (v := 0) E.1 E.2.1 dX2_take_25 (by decide +kernel) ?_
  refine lv_bipush (pc := 26) (v := 33) E.1 E.2.1 dX2_take_26 (by decide +kernel) ?_
  refine x_copyG (pc := 28) (N := 33) (wf := fun g => (WZ_Law2 cI cJ mr mi (va_up (va_up mf 1 g_4) 3 g) mg)) E hw5 hl3.1 q_965 q_967 q_966 q_169 7 2 rfl rfl (by decide +kernel) (by decide +kernel) (Nat.le_of_ble_eq_true rfl) (Nat.le_of_ble_eq_true rfl) (fun _ => rfl) (Nat.le_of_ble_eq_true rfl) (Nat.le_of_ble_eq_true rfl) dX2_take_28 (fun g_6 H locs eg_6 hw7 => ?_)
  have hcp_8 := allR_cp a_o_marks eg_6
  refine lv_aload_n (pc := 31) E.1 E.2.1 dX2_take_31 rfl (lv_at hl3 0 rfl) ?_
  refine lv_aload_n (pc := 32) E.1 E.2.1 dX2_take_32 rfl (lv_at hl3 1 rfl) ?_
  refine x_get (pc := 33) (T := TX2) (N := 9) (ci := 2) (v := .int (mi 14)) E hw7 inX2 5 3 q_387 rfl rfl (by decide) rfl rfl dX2_take_33 ?_
  refine x_put (pc := 36) (T := TX2) (N := 9) (ci := 2) (ws' := (WZ_Law2 cI cJ mr (upd mi 4 (mi 14)) (va_up (va_up mf 1 g_4) 3 g_6) mg)) E hw7 inX2 tyX2_ok nmX2 0 3 q_387 rfl rfl (by decide) rfl rfl rfl rfl (Nat.le_of_ble_eq_true rfl) rfl dX2_take_36 (fun H locs hw9 => ?_)
  exact em_v (w1 := (fun (u : (Nat → Int32) × (Nat → Int32) × Int32) => (WZ_Law2 cI cJ mr (upd mi 4 u.2.2) (va_up (va_up mf 1 u.1) 3 u.2.1) mg))) E hr hlk (g_4, g_6, (mi 14)) hw9 ⟨rfl, hcp_8⟩ (Nat.le_of_ble_eq_true rfl) (Nat.le_of_ble_eq_true rfl) dX2_take_39
set_option maxHeartbeats 4000000 in
set_option maxRecDepth 100000 in
theorem t_reading (l : Launch) (D : va_G) (cI cJ : ClassId) (sz : Nat) (mr : Nat → Nat) (mi : Nat → Int32) (mf : Nat → Nat → Int32) (mg : Nat → Nat → Int64) (z_which : Int32)  : Met l yX2_reading (Cond.code yX2_reading cX2_reading 2 (some .int) :: GW) ({ frames := 1, cells := 0, slots := 0, locals := 40 } : Room) (va_Pc [.int z_which, .ref (mr 0)] (PW D cI cJ sz (WZ_Ard cI cJ mr mi mf mg) xT)) (va_Qi (fun (r : Int32) (u : Unit) => True) (fun u => QW D cI cJ (va_A (WZ_Ard cI cJ mr mi mf mg) sz) ((fun (u : Unit) => (WZ_Ard cI cJ mr mi mf mg)) u)) (va_A (WZ_Ard cI cJ mr mi mf mg) sz)) 0 0 (va_A (WZ_Ard cI cJ mr mi mf mg) sz) := by
  refine mk_met (y := yX2_reading) (bytes := cX2_reading) (maxL := 2) (avs := [.int z_which, .ref (mr 0)]) (WS := (WZ_Ard cI cJ mr mi mf mg)) (Qf := fun A => va_Qi (fun (r : Int32) (u : Unit) => True) (fun u => QW D cI cJ A ((fun (u : Unit) => (WZ_Ard cI cJ mr mi mf mg)) u)) A) (by decide) (Nat.le_of_ble_eq_true rfl) ?_
  intro p e s m below meth c A ls E hr hlk hnm hX hw1 hl2
  have hl3 : lv_has ls 2 [(0, .int z_which), (1, .ref (mr 0))] := hl2
  refine lv_iload_n (pc := 0) E.1 E.2.1 dX2_reading_0 rfl (lv_at hl3 0 rfl) ?_
  refine lv_if_lt (pc := 1) (tgt := 16) E.1 E.2.1 dX2_reading_1 (by decide) (fun c_4 => ?_) (fun c_4 => ?_)
  · skip
    have hc_4 := ltE (a := z_which.toInt) (b := 0) rfl (by decide +kernel) c_4
    refine lv_iconst (pc := 16) (v := 0) E.1 E.2.1 dX2_reading_16 (by decide +kernel) ?_
    exact em_i (w1 := (fun (u : Unit) => (WZ_Ard cI cJ mr mi mf mg))) E hr hlk () hw1 trivial (Nat.le_of_ble_eq_true rfl) (Nat.le_of_ble_eq_true rfl) dX2_reading_17
  · skip
    have hc_4 := nltE (a := z_which.toInt) (b := 0) rfl (by decide +kernel) c_4
    refine lv_iload_n (pc := 4) E.1 E.2.1 dX2_reading_4 rfl (lv_at hl3 0 rfl) ?_
    refine lv_aload_n (pc := 5) E.1 E.2.1 dX2_reading_5 rfl (lv_at hl3 1 rfl) ?_
    refine va_alen (pc := 6) E.1 E.2.1 E.2.2.2.2.2 hw1.1 0 0 rfl rfl (v := 10) (show Int32.ofNat 10 = 10 from by decide +kernel) dX2_reading_6 ?_
    refine lv_icmp_ge (pc := 7) (tgt := 16) E.1 E.2.1 dX2_reading_7 (by decide) (fun c_5 => ?_) (fun c_5 => ?_)
    · skip
      have hc_5 := leE (a := 10) (b := z_which.toInt) (by decide +kernel) rfl c_5
      refine lv_iconst (pc := 16) (v := 0) E.1 E.2.1 dX2_reading_16 (by decide +kernel) ?_
      exact em_i (w1 := (fun (u : Unit) => (WZ_Ard cI cJ mr mi mf mg))) E hr hlk () hw1 trivial (Nat.le_of_ble_eq_true rfl) (Nat.le_of_ble_eq_true rfl) dX2_reading_17
    · skip
      have hc_5 := nleE (a := 10) (b := z_which.toInt) (by decide +kernel) rfl c_5
      refine lv_aload_n (pc := 10) E.1 E.2.1 dX2_reading_10 rfl (lv_at hl3 1 rfl) ?_
      refine lv_iload_n (pc := 11) E.1 E.2.1 dX2_reading_11 rfl (lv_at hl3 0 rfl) ?_
      refine x_iald (pc := 12) (f := (mf 0)) E hw1 0 rfl (inbE (a := z_which.toInt) rfl (by omega)) dX2_reading_12 ?_
      refine lv_topi (fun v_6 ev_6 => ?_)
      refine lv_goto (pc := 13) (tgt := 17) E.1 E.2.1 dX2_reading_13 (by decide) ?_
      exact em_i (w1 := (fun (u : Unit) => (WZ_Ard cI cJ mr mi mf mg))) E hr hlk () hw1 trivial (Nat.le_of_ble_eq_true rfl) (Nat.le_of_ble_eq_true rfl) dX2_reading_17
