set_option maxHeartbeats 4000000 in
set_option maxRecDepth 100000 in
theorem t_add (l : Launch) (D : va_G) (cI cJ : ClassId) (sz : Nat) (mr : Nat → Nat) (mi : Nat → Int32) (mf : Nat → Nat → Int32) (mg : Nat → Nat → Int64) (z_stop : Int32) (z_nights : Int32) (h0 : 0 ≤ (mi 2).toInt) (h1 : (mi 2).toInt ≤ 157857660) (h2 : 0 ≤ z_nights.toInt ∧ z_nights.toInt ≤ 60) : Met l yX7_add (Cond.code yX7_add cX7_add 4 none :: GW) ({ frames := 1, cells := 0, slots := 0, locals := 40 } : Room) (va_Pc [.ref (mr 0), .int z_stop, .int z_nights] (PW D cI cJ sz (WZ_Round cI cJ mr mi mf mg) xT)) (va_Qv (fun (u : (Nat → Int32) × Int32) => (u.2.toInt = (mi 2).toInt + z_nights.toInt)) (fun u => QW D cI cJ (va_A (WZ_Round cI cJ mr mi mf mg) sz) ((fun (u : (Nat → Int32) × Int32) => (WZ_Round cI cJ mr (upd mi 2 u.2) (va_up mf 1 u.1) mg)) u)) (va_A (WZ_Round cI cJ mr mi mf mg) sz)) 0 0 (va_A (WZ_Round cI cJ mr mi mf mg) sz) := by
  refine mk_met (y := yX7_add) (bytes := cX7_add) (maxL := 4) (avs := [.ref (mr 0), .int z_stop, .int z_nights]) (WS := (WZ_Round cI cJ mr mi mf mg)) (Qf := fun A => va_Qv (fun (u : (Nat → Int32) × Int32) => (u.2.toInt = (mi 2).toInt + z_nights.toInt)) (fun u => QW D cI cJ A ((fun (u : (Nat → Int32) × Int32) => (WZ_Round cI cJ mr (upd mi 2 u.2) (va_up mf 1 u.1) mg)) u)) A) (by decide) (Nat.le_of_ble_eq_true rfl) ?_
  intro p e s m below meth c A ls E hr hlk hnm hX hw1 hl2
  have hl3 : lv_has ls 4 [(0, .ref (mr 0)), (1, .int z_stop), (2, .int z_nights)] := hl2
  refine lv_aload_n (pc := 0) E.1 E.2.1 dX7_add_0 rfl (lv_at hl3 0 rfl) ?_
  refine x_get (pc := 1) (T := TX7) (N := 5) (ci := 7) (v := .int (mi 2)) E hw1 inX7 0 1 q_421 rfl rfl (by decide) rfl rfl dX7_add_1 ?_
  refine lv_istore_n (pc := 4) (lv' := [(3, .int (mi 2)), (0, .ref (mr 0)), (1, .int z_stop), (2, .int z_nights)]) E.1 E.2.1 dX7_add_4 rfl hl3 (by decide) rfl (fun ls hl4 => ?_)
  have loop_5 : ∀ (k : Nat) (x_6 : Int32) (g_7 : Nat → Int32) (H : Heap) (locs : List Loc) (ls : Array Slot), ((mi 2).toInt ≤ x_6.toInt) ∧ (x_6.toInt ≤ (mi 2).toInt + z_nights.toInt) → (mi 2).toInt + z_nights.toInt - x_6.toInt < (k : Int) → WD D A s.heap (WZ_Round cI cJ mr mi (va_up mf 1 g_7) mg) H locs → lv_has ls 4 [(3, .int x_6), (0, .ref (mr 0)), (1, .int z_stop), (2, .int z_nights)] → W p l e ({ frames := 1, cells := 0, slots := 0, locals := 40 } : Room) s m ([.ref (mr 0), .int z_stop, .int z_nights] : List Value).toArray below meth c H locs 0 0 (MQ below (va_Qv (fun (u : (Nat → Int32) × Int32) => (u.2.toInt = (mi 2).toInt + z_nights.toInt)) (fun u => QW D cI cJ A ((fun (u : (Nat → Int32) × Int32) => (WZ_Round cI cJ mr (upd mi 2 u.2) (va_up mf 1 u.1) mg)) u)) A) ([.ref (mr 0), .int z_stop, .int z_nights] : List Value).toArray s 0 0 A) (F0 m 5 ls []) := by
    intro k
    induction k with
    | zero =>
      intro x_6 g_7 _ _ _ hinv hm
      obtain ⟨hi_7_0, hi_7_1⟩ := hinv
      exact absurd hm (by omega)
    | succ k ih_8 =>
      intro x_6 g_7 H locs ls hinv hm hw9 hl10
      obtain ⟨hi_7_0, hi_7_1⟩ := hinv
      refine lv_iload_n (pc := 5) E.1 E.2.1 dX7_add_5 rfl (lv_at hl10 0 rfl) ?_
      refine lv_aload_n (pc := 6) E.1 E.2.1 dX7_add_6 rfl (lv_at hl10 1 rfl) ?_
      refine x_get (pc := 7) (T := TX7) (N := 5) (ci := 7) (v := .int (mi 2)) E hw9 inX7 0 1 q_421 rfl rfl (by decide) rfl rfl dX7_add_7 ?_
      refine lv_iload_n (pc := 10) E.1 E.2.1 dX7_add_10 rfl (lv_at hl10 3 rfl) ?_
      refine lv_iadd (pc := 11) E.1 E.2.1 dX7_add_11 ?_
      refine lv_topi (fun v_11 ev_11 => ?_)
      have hv_11 : v_11.toInt = (mi 2).toInt + z_nights.toInt := by rw [ev_11]; exact addE rfl rfl (by omega)
      refine lv_icmp_ge (pc := 12) (tgt := 35) E.1 E.2.1 dX7_add_12 (by decide) (fun c_12 => ?_) (fun c_12 => ?_)
      · skip
        have hc_12 := leE (a := v_11.toInt) (b := x_6.toInt) rfl rfl c_12
        refine lv_aload_n (pc := 35) E.1 E.2.1 dX7_add_35 rfl (lv_at hl10 1 rfl) ?_
        refine lv_dup (pc := 36) E.1 E.2.1 dX7_add_36 rfl ?_
        refine x_get (pc := 37) (T := TX7) (N := 5) (ci := 7) (v := .int (mi 2)) E hw9 inX7 0 1 q_421 rfl rfl (by decide) rfl rfl dX7_add_37 ?_
        refine lv_iload_n (pc := 40) E.1 E.2.1 dX7_add_40 rfl (lv_at hl10 3 rfl) ?_
        refine lv_iadd (pc := 41) E.1 E.2.1 dX7_add_41 ?_
        refine lv_topi (fun v_13 ev_13 => ?_)
        have hv_13 : v_13.toInt = (mi 2).toInt + z_nights.toInt := by rw [ev_13]; exact addE rfl rfl (by omega)
        refine x_put (pc := 42) (T := TX7) (N := 5) (ci := 7) (ws' := (WZ_Round cI cJ mr (upd mi 2 v_13) (va_up mf 1 g_7) mg)) E hw9 inX7 tyX7_ok nmX7 0 1 q_421 rfl rfl (by decide) rfl rfl rfl rfl (Nat.le_of_ble_eq_true rfl) rfl dX7_add_42 (fun H locs hw14 => ?_)
        exact em_v (w1 := (fun (u : (Nat → Int32) × Int32) => (WZ_Round cI cJ mr (upd mi 2 u.2) (va_up mf 1 u.1) mg))) E hr hlk (g_7, v_13) hw14 (by show v_13.toInt = (mi 2).toInt + z_nights.toInt; omega) (Nat.le_of_ble_eq_true rfl) (Nat.le_of_ble_eq_true rfl) dX7_add_45
      · skip
        have hc_12 := nleE (a := v_11.toInt) (b := x_6.toInt) rfl rfl c_12
        refine lv_iload_n (pc := 15) E.1 E.2.1 dX7_add_15 rfl (lv_at hl10 0 rfl) ?_
        refine lv_sipush (pc := 16) (v := 200) E.1 E.2.1 dX7_add_16 (by decide +kernel) ?_
        refine lv_icmp_ge (pc := 19) (tgt := 35) E.1 E.2.1 dX7_add_19 (by decide) (fun c_15 => ?_) (fun c_15 => ?_)
        · skip
          have hc_15 := leE (a := 200) (b := x_6.toInt) (by decide +kernel) rfl c_15
          refine lv_aload_n (pc := 35) E.1 E.2.1 dX7_add_35 rfl (lv_at hl10 1 rfl) ?_
          refine lv_dup (pc := 36) E.1 E.2.1 dX7_add_36 rfl ?_
          refine x_get (pc := 37) (T := TX7) (N := 5) (ci := 7) (v := .int (mi 2)) E hw9 inX7 0 1 q_421 rfl rfl (by decide) rfl rfl dX7_add_37 ?_
          refine lv_iload_n (pc := 40) E.1 E.2.1 dX7_add_40 rfl (lv_at hl10 3 rfl) ?_
          refine lv_iadd (pc := 41) E.1 E.2.1 dX7_add_41 ?_
          refine lv_topi (fun v_16 ev_16 => ?_)
          have hv_16 : v_16.toInt = (mi 2).toInt + z_nights.toInt := by rw [ev_16]; exact addE rfl rfl (by omega)
          refine x_put (pc := 42) (T := TX7) (N := 5) (ci := 7) (ws' := (WZ_Round cI cJ mr (upd mi 2 v_16) (va_up mf 1 g_7) mg)) E hw9 inX7 tyX7_ok nmX7 0 1 q_421 rfl rfl (by decide) rfl rfl rfl rfl (Nat.le_of_ble_eq_true rfl) rfl dX7_add_42 (fun H locs hw17 => ?_)
          exact em_v (w1 := (fun (u : (Nat → Int32) × Int32) => (WZ_Round cI cJ mr (upd mi 2 u.2) (va_up mf 1 u.1) mg))) E hr hlk (g_7, v_16) hw17 (by show v_16.toInt = (mi 2).toInt + z_nights.toInt; omega) (Nat.le_of_ble_eq_true rfl) (Nat.le_of_ble_eq_true rfl) dX7_add_45
        · skip
          have hc_15 := nleE (a := 200) (b := x_6.toInt) (by decide +kernel) rfl c_15
          refine lv_aload_n (pc := 22) E.1 E.2.1 dX7_add_22 rfl (lv_at hl10 1 rfl) ?_
          refine x_get (pc := 23) (T := TX7) (N := 5) (ci := 7) (v := .ref (mr 1)) E hw9 inX7 0 0 q_419 rfl rfl (by decide) rfl rfl dX7_add_23 ?_
          refine lv_iload_n (pc := 26) E.1 E.2.1 dX7_add_26 rfl (lv_at hl10 0 rfl) ?_
          refine lv_iload_n (pc := 27) E.1 E.2.1 dX7_add_27 rfl (lv_at hl10 2 rfl) ?_
          refine x_iastG (pc := 28) (f := g_7) (wf := fun g => (WZ_Round cI cJ mr mi (va_up mf 1 g) mg)) E hw9 1 rfl (inbE (a := x_6.toInt) rfl (by omega)) (fun _ => rfl) dX7_add_28 (fun g_18 H locs eg_18 hw19 => ?_)
          obtain ⟨v_20, ev_20⟩ : ∃ z : Int32, x_6 + Int32.ofInt (1) = z := ⟨_, rfl⟩
          have hv_20 : v_20.toInt = x_6.toInt + (1) := by rw [← ev_20]; exact incE rfl (by decide) (by omega)
          refine lv_iinc (pc := 29) (v := v_20) (lv' := [(3, .int v_20), (0, .ref (mr 0)), (1, .int z_stop), (2, .int z_nights)]) E.1 E.2.1 dX7_add_29 hl10 (k := 0) rfl ev_20 (by decide) rfl (fun ls hl21 => ?_)
          refine lv_goto (pc := 32) (tgt := 5) E.1 E.2.1 dX7_add_32 (by decide) ?_
          exact ih_8 v_20 g_18 _ _ _ ⟨(by show (mi 2).toInt ≤ v_20.toInt; omega), (by show v_20.toInt ≤ (mi 2).toInt + z_nights.toInt; omega)⟩ (by omega) hw19 (lv_sub hl21 [0, 1, 2, 3] rfl)
  exact loop_5 (Int.toNat ((mi 2).toInt + z_nights.toInt - (mi 2).toInt) + 1) (mi 2) (mf 1) _ _ _ ⟨(by show (mi 2).toInt ≤ (mi 2).toInt; omega), (by show (mi 2).toInt ≤ (mi 2).toInt + z_nights.toInt; omega)⟩ (by omega) hw1 (lv_sub hl4 [0, 1, 2, 3] rfl)
set_option maxHeartbeats 4000000 in
set_option maxRecDepth 100000 in
theorem t_repeat (l : Launch) (D : va_G) (cI cJ : ClassId) (sz : Nat) (mr : Nat → Nat) (mi : Nat → Int32) (mf : Nat → Nat → Int32) (mg : Nat → Nat → Int64)  (h0 : 1 ≤ (mi 5).toInt ∧ (mi 5).toInt ≤ 4) (h1 : 0 ≤ (mi 2).toInt) (h2 : (mi 2).toInt ≤ 157857660) (x_ri : RI (mf 3) (mf 4) ((mi 5).toInt).toNat (mi 2).toInt 157857660) : Met l yX7_repeat (Cond.code yX7_repeat cX7_repeat 4 none :: GW) ({ frames := 1, cells := 0, slots := 0, locals := 40 } : Room) (va_Pc [.ref (mr 0)] (PW D cI cJ sz (WZ_Round cI cJ mr mi mf mg) xT)) (va_Qv (fun (u : Int32 × (Nat → Int32) × Int32) => (u.1.toInt = (mi 5).toInt - 1) ∧ (0 ≤ u.2.2.toInt) ∧ (RI (mf 3) (mf 4) (u.1.toInt).toNat u.2.2.toInt (FX (mf 3) (mf 4) ((mi 5).toInt).toNat ((mi 2).toInt)))) (fun u => QW D cI cJ (va_A (WZ_Round cI cJ mr mi mf mg) sz) ((fun (u : Int32 × (Nat → Int32) × Int32) => (WZ_Round cI cJ mr (upd (upd mi 5 u.1) 2 u.2.2) (va_up mf 1 u.2.1) mg)) u)) (va_A (WZ_Round cI cJ mr mi mf mg) sz)) 0 0 (va_A (WZ_Round cI cJ mr mi mf mg) sz) := by
  refine mk_met (y := yX7_repeat) (bytes := cX7_repeat) (maxL := 4) (avs := [.ref (mr 0)]) (WS := (WZ_Round cI cJ mr mi mf mg)) (Qf := fun A => va_Qv (fun (u : Int32 × (Nat → Int32) × Int32) => (u.1.toInt = (mi 5).toInt - 1) ∧ (0 ≤ u.2.2.toInt) ∧ (RI (mf 3) (mf 4) (u.1.toInt).toNat u.2.2.toInt (FX (mf 3) (mf 4) ((mi 5).toInt).toNat ((mi 2).toInt)))) (fun u => QW D cI cJ A ((fun (u : Int32 × (Nat → Int32) × Int32) => (WZ_Round cI cJ mr (upd (upd mi 5 u.1) 2 u.2.2) (va_up mf 1 u.2.1) mg)) u)) A) (by decide) (Nat.le_of_ble_eq_true rfl) ?_
  intro p e s m below meth c A ls E hr hlk hnm hX hw1 hl2
  have hl3 : lv_has ls 4 [(0, .ref (mr 0))] := hl2
  refine lv_aload_n (pc := 0) E.1 E.2.1 dX7_repeat_0 rfl (lv_at hl3 0 rfl) ?_
  refine x_get (pc := 1) (T := TX7) (N := 5) (ci := 7) (v := .int (mi 5)) E hw1 inX7 0 4 q_426 rfl rfl (by decide) rfl rfl dX7_repeat_1 ?_
  refine lv_if_gt (pc := 4) (tgt := 8) E.1 E.2.1 dX7_repeat_4 (by decide) (fun _ => ?_) (fun c_4 => absurd (mltE (a := 0) (b := (mi 5).toInt) (by decide +kernel) rfl (by omega)) c_4)
  refine lv_aload_n (pc := 8) E.1 E.2.1 dX7_repeat_8 rfl (lv_at hl3 0 rfl) ?_
  refine lv_dup (pc := 9) E.1 E.2.1 dX7_repeat_9 rfl ?_
  refine x_get (pc := 10) (T := TX7) (N := 5) (ci := 7) (v := .int (mi 5)) E hw1 inX7 0 4 q_426 rfl rfl (by decide) rfl rfl dX7_repeat_10 ?_
  refine lv_iconst (pc := 13) (v := 1) E.1 E.2.1 dX7_repeat_13 (by decide +kernel) ?_
  refine lv_isub (pc := 14) E.1 E.2.1 dX7_repeat_14 ?_
  refine lv_topi (fun v_5 ev_5 => ?_)
  have hv_5 : v_5.toInt = (mi 5).toInt - 1 := by rw [ev_5]; exact subE rfl (by decide +kernel) (by omega)
  refine x_put (pc := 15) (T := TX7) (N := 5) (ci := 7) (ws' := (WZ_Round cI cJ mr (upd mi 5 v_5) mf mg)) E hw1 inX7 tyX7_ok nmX7 0 4 q_426 rfl rfl (by decide) rfl rfl rfl rfl (Nat.le_of_ble_eq_true rfl) rfl dX7_repeat_15 (fun H locs hw6 => ?_)
  refine lv_aload_n (pc := 18) E.1 E.2.1 dX7_repeat_18 rfl (lv_at hl3 0 rfl) ?_
  refine x_get (pc := 19) (T := TX7) (N := 5) (ci := 7) (v := .int (mi 2)) E hw6 inX7 0 1 q_421 rfl rfl (by decide) rfl rfl dX7_repeat_19 ?_
  refine lv_aload_n (pc := 22) E.1 E.2.1 dX7_repeat_22 rfl (lv_at hl3 0 rfl) ?_
  refine x_get (pc := 23) (T := TX7) (N := 5) (ci := 7) (v := .ref (mr 3)) E hw6 inX7 0 2 q_424 rfl rfl (by decide) rfl rfl dX7_repeat_23 ?_
  refine lv_aload_n (pc := 26) E.1 E.2.1 dX7_repeat_26 rfl (lv_at hl3 0 rfl) ?_
  refine x_get (pc := 27) (T := TX7) (N := 5) (ci := 7) (v := .int v_5) E hw6 inX7 0 4 q_426 rfl rfl (by decide) rfl rfl dX7_repeat_27 ?_
  refine x_iald (pc := 30) (f := (mf 3)) E hw6 2 rfl (inbE (a := v_5.toInt) rfl (by omega)) dX7_repeat_30 ?_
  refine lv_topi (fun v_7 ev_7 => ?_)
  have hsa := x_ri.1 v_5.toNatClampNeg (by have q := idxI (x := v_5) (by omega); omega)
  rw [← ev_7] at hsa
  have hsb : 0 ≤ v_7.toInt ∧ v_7.toInt ≤ (mi 2).toInt := hsa.1
  refine lv_isub (pc := 31) E.1 E.2.1 dX7_repeat_31 ?_
  refine lv_topi (fun v_8 ev_8 => ?_)
  have hv_8 : v_8.toInt = (mi 2).toInt - v_7.toInt := by rw [ev_8]; exact subE rfl rfl (by omega)
  refine lv_istore_n (pc := 32) (lv' := [(1, .int v_8), (0, .ref (mr 0))]) E.1 E.2.1 dX7_repeat_32 rfl hl3 (by decide) rfl (fun ls hl9 => ?_)
  refine lv_aload_n (pc := 33) E.1 E.2.1 dX7_repeat_33 rfl (lv_at hl9 1 rfl) ?_
  refine x_get (pc := 34) (T := TX7) (N := 5) (ci := 7) (v := .ref (mr 3)) E hw6 inX7 0 2 q_424 rfl rfl (by decide) rfl rfl dX7_repeat_34 ?_
  refine lv_aload_n (pc := 37) E.1 E.2.1 dX7_repeat_37 rfl (lv_at hl9 1 rfl) ?_
  refine x_get (pc := 38) (T := TX7) (N := 5) (ci := 7) (v := .int v_5) E hw6 inX7 0 4 q_426 rfl rfl (by decide) rfl rfl dX7_repeat_38 ?_
  refine x_iald (pc := 41) (f := (mf 3)) E hw6 2 rfl (inbE (a := v_5.toInt) rfl (by omega)) dX7_repeat_41 ?_
  refine lv_topi (fun v_10 ev_10 => ?_)
  have hsv_10 : v_10.toInt = v_7.toInt := by rw [ev_10, ev_7]
  refine lv_iload_n (pc := 42) E.1 E.2.1 dX7_repeat_42 rfl (lv_at hl9 0 rfl) ?_
  refine lv_aload_n (pc := 43) E.1 E.2.1 dX7_repeat_43 rfl (lv_at hl9 1 rfl) ?_
  refine x_get (pc := 44) (T := TX7) (N := 5) (ci := 7) (v := .ref (mr 4)) E hw6 inX7 0 3 q_425 rfl rfl (by decide) rfl rfl dX7_repeat_44 ?_
  refine lv_aload_n (pc := 47) E.1 E.2.1 dX7_repeat_47 rfl (lv_at hl9 1 rfl) ?_
  refine x_get (pc := 48) (T := TX7) (N := 5) (ci := 7) (v := .int v_5) E hw6 inX7 0 4 q_426 rfl rfl (by decide) rfl rfl dX7_repeat_48 ?_
  refine x_iald (pc := 51) (f := (mf 4)) E hw6 3 rfl (inbE (a := v_5.toInt) rfl (by omega)) dX7_repeat_51 ?_
  refine lv_topi (fun v_11 ev_11 => ?_)
  have hta := x_ri.1 v_5.toNatClampNeg (by have q := idxI (x := v_5) (by omega); omega)
  rw [← ev_11] at hta
  have htb : 1 ≤ v_11.toInt ∧ v_11.toInt ≤ 9 := hta.2
  refine lv_imul (pc := 52) E.1 E.2.1 dX7_repeat_52 ?_
  refine lv_topi (fun v_12 ev_12 => ?_)
  have hbv_12 : 0 ≤ v_12.toInt ∧ v_12.toInt ≤ 1420718940 := by rw [ev_12]; exact mulB (a := 157857660) (b := 9) (by omega) (by omega) (by decide)
  have hmv_12 : v_12.toInt = v_8.toInt * v_11.toInt := by rw [ev_12]; exact mulBE (a := 157857660) (b := 9) (by omega) (by omega) (by decide)
  refine lv_iadd (pc := 53) E.1 E.2.1 dX7_repeat_53 ?_
  refine lv_topi (fun v_13 ev_13 => ?_)
  have hv_13 : v_13.toInt = v_10.toInt + v_12.toInt := by rw [ev_13]; exact addE rfl rfl (by omega)
  refine lv_istore_n (pc := 54) (lv' := [(2, .int v_13), (1, .int v_8), (0, .ref (mr 0))]) E.1 E.2.1 dX7_repeat_54 rfl hl9 (by decide) rfl (fun ls hl14 => ?_)
  have hpp : v_8.toInt = (mi 2).toInt - v_7.toInt := by omega
  rw [hpp] at hmv_12
  have hgr := grow (x := (mi 2).toInt) (s := v_7.toInt) (t := v_11.toInt) (by omega) (by omega)
  have hge : (mi 2).toInt ≤ v_13.toInt := by omega
  have hcl : RI (mf 3) (mf 4) (v_5.toInt).toNat v_13.toInt (FX (mf 3) (mf 4) ((mi 5).toInt).toNat ((mi 2).toInt)) := RI_close ⟨x_ri.1, Int.le_refl _⟩ (o' := (v_5.toInt).toNat) (by omega) (by have q1 : (mf 3) ((v_5.toInt).toNat) = v_7 := (pd_eq ev_7 rfl (by omega)); have q2 : (mf 4) ((v_5.toInt).toNat) = v_11 := (pd_eq ev_11 rfl (by omega)); rw [q1, q2]; omega)
  refine lv_aload_n (pc := 55) E.1 E.2.1 dX7_repeat_55 rfl (lv_at hl14 2 rfl) ?_
  refine x_get (pc := 56) (T := TX7) (N := 5) (ci := 7) (v := .int (mi 2)) E hw6 inX7 0 1 q_421 rfl rfl (by decide) rfl rfl dX7_repeat_56 ?_
  refine lv_istore_n (pc := 59) (lv' := [(3, .int (mi 2)), (2, .int v_13), (1, .int v_8), (0, .ref (mr 0))]) E.1 E.2.1 dX7_repeat_59 rfl hl14 (by decide) rfl (fun ls hl15 => ?_)
  have loop_16 : ∀ (k : Nat) (x_17 : Int32) (g_18 : Nat → Int32) (H : Heap) (locs : List Loc) (ls : Array Slot), ((mi 2).toInt ≤ x_17.toInt) ∧ (x_17.toInt ≤ v_13.toInt) → v_13.toInt - x_17.toInt < (k : Int) → WD D A s.heap (WZ_Round cI cJ mr (upd mi 5 v_5) (va_up mf 1 g_18) mg) H locs → lv_has ls 4 [(3, .int x_17), (2, .int v_13), (1, .int v_8), (0, .ref (mr 0))] → W p l e ({ frames := 1, cells := 0, slots := 0, locals := 40 } : Room) s m ([.ref (mr 0)] : List Value).toArray below meth c H locs 0 0 (MQ below (va_Qv (fun (u : Int32 × (Nat → Int32) × Int32) => (u.1.toInt = (mi 5).toInt - 1) ∧ (0 ≤ u.2.2.toInt) ∧ (RI (mf 3) (mf 4) (u.1.toInt).toNat u.2.2.toInt (FX (mf 3) (mf 4) ((mi 5).toInt).toNat ((mi 2).toInt)))) (fun u => QW D cI cJ A ((fun (u : Int32 × (Nat → Int32) × Int32) => (WZ_Round cI cJ mr (upd (upd mi 5 u.1) 2 u.2.2) (va_up mf 1 u.2.1) mg)) u)) A) ([.ref (mr 0)] : List Value).toArray s 0 0 A) (F0 m 60 ls []) := by
    intro k
    induction k with
    | zero =>
      intro x_17 g_18 _ _ _ hinv hm
      obtain ⟨hi_18_0, hi_18_1⟩ := hinv
      exact absurd hm (by omega)
    | succ k ih_19 =>
      intro x_17 g_18 H locs ls hinv hm hw20 hl21
      obtain ⟨hi_18_0, hi_18_1⟩ := hinv
      refine lv_iload_n (pc := 60) E.1 E.2.1 dX7_repeat_60 rfl (lv_at hl21 0 rfl) ?_
      refine lv_iload_n (pc := 61) E.1 E.2.1 dX7_repeat_61 rfl (lv_at hl21 1 rfl) ?_
      refine lv_icmp_ge (pc := 62) (tgt := 92) E.1 E.2.1 dX7_repeat_62 (by decide) (fun c_22 => ?_) (fun c_22 => ?_)
      · skip
        have hc_22 := leE (a := v_13.toInt) (b := x_17.toInt) rfl rfl c_22
        refine lv_aload_n (pc := 92) E.1 E.2.1 dX7_repeat_92 rfl (lv_at hl21 3 rfl) ?_
        refine lv_iload_n (pc := 93) E.1 E.2.1 dX7_repeat_93 rfl (lv_at hl21 1 rfl) ?_
        refine x_put (pc := 94) (T := TX7) (N := 5) (ci := 7) (ws' := (WZ_Round cI cJ mr (upd (upd mi 2 v_13) 5 v_5) (va_up mf 1 g_18) mg)) E hw20 inX7 tyX7_ok nmX7 0 1 q_421 rfl rfl (by decide) rfl rfl rfl rfl (Nat.le_of_ble_eq_true rfl) rfl dX7_repeat_94 (fun H locs hw23 => ?_)
        exact em_v (w1 := (fun (u : Int32 × (Nat → Int32) × Int32) => (WZ_Round cI cJ mr (upd (upd mi 5 u.1) 2 u.2.2) (va_up mf 1 u.2.1) mg))) E hr hlk (v_5, g_18, v_13) hw23 ⟨(by show v_5.toInt = (mi 5).toInt - 1; omega), (by show 0 ≤ v_13.toInt; omega), (show RI (mf 3) (mf 4) (v_5.toInt).toNat v_13.toInt (FX (mf 3) (mf 4) ((mi 5).toInt).toNat ((mi 2).toInt)) from hcl)⟩ (Nat.le_of_ble_eq_true rfl) (Nat.le_of_ble_eq_true rfl) dX7_repeat_97
      · skip
        have hc_22 := nleE (a := v_13.toInt) (b := x_17.toInt) rfl rfl c_22
        refine lv_iload_n (pc := 65) E.1 E.2.1 dX7_repeat_65 rfl (lv_at hl21 0 rfl) ?_
        refine lv_sipush (pc := 66) (v := 200) E.1 E.2.1 dX7_repeat_66 (by decide +kernel) ?_
        refine lv_icmp_ge (pc := 69) (tgt := 92) E.1 E.2.1 dX7_repeat_69 (by decide) (fun c_24 => ?_) (fun c_24 => ?_)
        · skip
          have hc_24 := leE (a := 200) (b := x_17.toInt) (by decide +kernel) rfl c_24
          refine lv_aload_n (pc := 92) E.1 E.2.1 dX7_repeat_92 rfl (lv_at hl21 3 rfl) ?_
          refine lv_iload_n (pc := 93) E.1 E.2.1 dX7_repeat_93 rfl (lv_at hl21 1 rfl) ?_
          refine x_put (pc := 94) (T := TX7) (N := 5) (ci := 7) (ws' := (WZ_Round cI cJ mr (upd (upd mi 2 v_13) 5 v_5) (va_up mf 1 g_18) mg)) E hw20 inX7 tyX7_ok nmX7 0 1 q_421 rfl rfl (by decide) rfl rfl rfl rfl (Nat.le_of_ble_eq_true rfl) rfl dX7_repeat_94 (fun H locs hw25 => ?_)
          exact em_v (w1 := (fun (u : Int32 × (Nat → Int32) × Int32) => (WZ_Round cI cJ mr (upd (upd mi 5 u.1) 2 u.2.2) (va_up mf 1 u.2.1) mg))) E hr hlk (v_5, g_18, v_13) hw25 ⟨(by show v_5.toInt = (mi 5).toInt - 1; omega), (by show 0 ≤ v_13.toInt; omega), (show RI (mf 3) (mf 4) (v_5.toInt).toNat v_13.toInt (FX (mf 3) (mf 4) ((mi 5).toInt).toNat ((mi 2).toInt)) from hcl)⟩ (Nat.le_of_ble_eq_true rfl) (Nat.le_of_ble_eq_true rfl) dX7_repeat_97
        · skip
          have hc_24 := nleE (a := 200) (b := x_17.toInt) (by decide +kernel) rfl c_24
          refine lv_aload_n (pc := 72) E.1 E.2.1 dX7_repeat_72 rfl (lv_at hl21 3 rfl) ?_
          refine x_get (pc := 73) (T := TX7) (N := 5) (ci := 7) (v := .ref (mr 1)) E hw20 inX7 0 0 q_419 rfl rfl (by decide) rfl rfl dX7_repeat_73 ?_
          refine lv_iload_n (pc := 76) E.1 E.2.1 dX7_repeat_76 rfl (lv_at hl21 0 rfl) ?_
          refine lv_aload_n (pc := 77) E.1 E.2.1 dX7_repeat_77 rfl (lv_at hl21 3 rfl) ?_
          refine x_get (pc := 78) (T := TX7) (N := 5) (ci := 7) (v := .ref (mr 1)) E hw20 inX7 0 0 q_419 rfl rfl (by decide) rfl rfl dX7_repeat_78 ?_
          refine lv_iload_n (pc := 81) E.1 E.2.1 dX7_repeat_81 rfl (lv_at hl21 0 rfl) ?_
          refine lv_iload_n (pc := 82) E.1 E.2.1 dX7_repeat_82 rfl (lv_at hl21 2 rfl) ?_
          refine lv_isub (pc := 83) E.1 E.2.1 dX7_repeat_83 ?_
          refine lv_topi (fun v_26 ev_26 => ?_)
          have hv_26 : v_26.toInt = x_17.toInt - v_8.toInt := by rw [ev_26]; exact subE rfl rfl (by omega)
          refine x_iald (pc := 84) (f := g_18) E hw20 1 rfl (inbE (a := v_26.toInt) rfl (by omega)) dX7_repeat_84 ?_
          refine lv_topi (fun v_27 ev_27 => ?_)
          refine x_iastG (pc := 85) (f := g_18) (wf := fun g => (WZ_Round cI cJ mr (upd mi 5 v_5) (va_up mf 1 g) mg)) E hw20 1 rfl (inbE (a := x_17.toInt) rfl (by omega)) (fun _ => rfl) dX7_repeat_85 (fun g_28 H locs eg_28 hw29 => ?_)
          obtain ⟨v_30, ev_30⟩ : ∃ z : Int32, x_17 + Int32.ofInt (1) = z := ⟨_, rfl⟩
          have hv_30 : v_30.toInt = x_17.toInt + (1) := by rw [← ev_30]; exact incE rfl (by decide) (by omega)
          refine lv_iinc (pc := 86) (v := v_30) (lv' := [(3, .int v_30), (2, .int v_13), (1, .int v_8), (0, .ref (mr 0))]) E.1 E.2.1 dX7_repeat_86 hl21 (k := 0) rfl ev_30 (by decide) rfl (fun ls hl31 => ?_)
          refine lv_goto (pc := 89) (tgt := 60) E.1 E.2.1 dX7_repeat_89 (by decide) ?_
          exact ih_19 v_30 g_28 _ _ _ ⟨(by show (mi 2).toInt ≤ v_30.toInt; omega), (by show v_30.toInt ≤ v_13.toInt; omega)⟩ (by omega) hw29 (lv_sub hl31 [0, 1, 2, 3] rfl)
  exact loop_16 (Int.toNat (v_13.toInt - (mi 2).toInt) + 1) (mi 2) (mf 1) _ _ _ ⟨(by show (mi 2).toInt ≤ (mi 2).toInt; omega), (by show (mi 2).toInt ≤ v_13.toInt; omega)⟩ (by omega) hw6 (lv_sub hl15 [0, 1, 2, 3] rfl)
