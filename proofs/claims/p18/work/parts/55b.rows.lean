set_option maxHeartbeats 4000000 in
set_option maxRecDepth 100000 in
theorem t_has (l : Launch) (D : va_G) (cI cJ : ClassId) (sz : Nat) (mr : Nat → Nat) (mi : Nat → Int32) (mf : Nat → Nat → Int32) (mg : Nat → Nat → Int64) (z_h : Int32) (mv : Nat → Value)  : Met l yX1_has (Cond.code yX1_has cX1_has 2 (some .boolean) :: GW) ({ frames := 1, cells := 0, slots := 0, locals := 40 } : Room) (va_Pc [.ref (mr 0), .int z_h] (PW D cI cJ sz (WZ_HousesO cI cJ mv mr mi mf mg) xT)) (va_Qi (fun (r : Int32) (u : Unit) => ((r = 1 ∧ 0 ≤ z_h.toInt ∧ z_h.toInt + 1 ≤ (mi 6).toInt ∧ z_h.toInt ≤ 9) ∨ (r = 0 ∧ z_h.toInt + 1 ≤ 0) ∨ (r = 0 ∧ (mi 6).toInt ≤ z_h.toInt) ∨ (r = 0 ∧ 10 ≤ z_h.toInt))) (fun u => QW D cI cJ (va_A (WZ_HousesO cI cJ mv mr mi mf mg) sz) ((fun (u : Unit) => (WZ_HousesO cI cJ mv mr mi mf mg)) u)) (va_A (WZ_HousesO cI cJ mv mr mi mf mg) sz)) 0 0 (va_A (WZ_HousesO cI cJ mv mr mi mf mg) sz) := by
  refine mk_met (y := yX1_has) (bytes := cX1_has) (maxL := 2) (avs := [.ref (mr 0), .int z_h]) (WS := (WZ_HousesO cI cJ mv mr mi mf mg)) (Qf := fun A => va_Qi (fun (r : Int32) (u : Unit) => ((r = 1 ∧ 0 ≤ z_h.toInt ∧ z_h.toInt + 1 ≤ (mi 6).toInt ∧ z_h.toInt ≤ 9) ∨ (r = 0 ∧ z_h.toInt + 1 ≤ 0) ∨ (r = 0 ∧ (mi 6).toInt ≤ z_h.toInt) ∨ (r = 0 ∧ 10 ≤ z_h.toInt))) (fun u => QW D cI cJ A ((fun (u : Unit) => (WZ_HousesO cI cJ mv mr mi mf mg)) u)) A) (by decide) (Nat.le_of_ble_eq_true rfl) ?_
  intro p e s m below meth c A ls E hr hlk hnm hX hw1 hl2
  have hl3 : lv_has ls 2 [(0, .ref (mr 0)), (1, .int z_h)] := hl2
  refine lv_iload_n (pc := 0) E.1 E.2.1 dX1_has_0 rfl (lv_at hl3 1 rfl) ?_
  refine lv_if_lt (pc := 1) (tgt := 22) E.1 E.2.1 dX1_has_1 (by decide) (fun c_4 => ?_) (fun c_4 => ?_)
  · skip
    have hc_4 := ltE (a := z_h.toInt) (b := 0) rfl (by decide +kernel) c_4
    refine lv_iconst (pc := 22) (v := 0) E.1 E.2.1 dX1_has_22 (by decide +kernel) ?_
    exact em_z (w1 := (fun (u : Unit) => (WZ_HousesO cI cJ mv mr mi mf mg))) E hr hlk () hw1 (Or.inr (Or.inl ⟨rfl, (by show z_h.toInt + 1 ≤ 0; omega)⟩)) (by decide +kernel) (Nat.le_of_ble_eq_true rfl) (Nat.le_of_ble_eq_true rfl) dX1_has_23
  · skip
    have hc_4 := nltE (a := z_h.toInt) (b := 0) rfl (by decide +kernel) c_4
    refine lv_iload_n (pc := 4) E.1 E.2.1 dX1_has_4 rfl (lv_at hl3 1 rfl) ?_
    refine lv_aload_n (pc := 5) E.1 E.2.1 dX1_has_5 rfl (lv_at hl3 0 rfl) ?_
    refine x_get (pc := 6) (T := TX1) (N := 9) (ci := 1) (v := .int (mi 6)) E hw1 inX1 0 5 q_281 rfl rfl (by decide) rfl rfl dX1_has_6 ?_
    refine lv_icmp_ge (pc := 9) (tgt := 22) E.1 E.2.1 dX1_has_9 (by decide) (fun c_5 => ?_) (fun c_5 => ?_)
    · skip
      have hc_5 := leE (a := (mi 6).toInt) (b := z_h.toInt) rfl rfl c_5
      refine lv_iconst (pc := 22) (v := 0) E.1 E.2.1 dX1_has_22 (by decide +kernel) ?_
      exact em_z (w1 := (fun (u : Unit) => (WZ_HousesO cI cJ mv mr mi mf mg))) E hr hlk () hw1 (Or.inr (Or.inr (Or.inl ⟨rfl, (by show (mi 6).toInt ≤ z_h.toInt; omega)⟩))) (by decide +kernel) (Nat.le_of_ble_eq_true rfl) (Nat.le_of_ble_eq_true rfl) dX1_has_23
    · skip
      have hc_5 := nleE (a := (mi 6).toInt) (b := z_h.toInt) rfl rfl c_5
      refine lv_iload_n (pc := 12) E.1 E.2.1 dX1_has_12 rfl (lv_at hl3 1 rfl) ?_
      refine lv_bipush (pc := 13) (v := 10) E.1 E.2.1 dX1_has_13 (by decide +kernel) ?_
      refine lv_icmp_ge (pc := 15) (tgt := 22) E.1 E.2.1 dX1_has_15 (by decide) (fun c_6 => ?_) (fun c_6 => ?_)
      · skip
        have hc_6 := leE (a := 10) (b := z_h.toInt) (by decide +kernel) rfl c_6
        refine lv_iconst (pc := 22) (v := 0) E.1 E.2.1 dX1_has_22 (by decide +kernel) ?_
        exact em_z (w1 := (fun (u : Unit) => (WZ_HousesO cI cJ mv mr mi mf mg))) E hr hlk () hw1 (Or.inr (Or.inr (Or.inr (⟨rfl, (by show 10 ≤ z_h.toInt; omega)⟩)))) (by decide +kernel) (Nat.le_of_ble_eq_true rfl) (Nat.le_of_ble_eq_true rfl) dX1_has_23
      · skip
        have hc_6 := nleE (a := 10) (b := z_h.toInt) (by decide +kernel) rfl c_6
        refine lv_iconst (pc := 18) (v := 1) E.1 E.2.1 dX1_has_18 (by decide +kernel) ?_
        refine lv_goto (pc := 19) (tgt := 23) E.1 E.2.1 dX1_has_19 (by decide) ?_
        exact em_z (w1 := (fun (u : Unit) => (WZ_HousesO cI cJ mv mr mi mf mg))) E hr hlk () hw1 (Or.inl ⟨rfl, (by show 0 ≤ z_h.toInt; omega), (by show z_h.toInt + 1 ≤ (mi 6).toInt; omega), (by show z_h.toInt ≤ 9; omega)⟩) (by decide +kernel) (Nat.le_of_ble_eq_true rfl) (Nat.le_of_ble_eq_true rfl) dX1_has_23
set_option maxHeartbeats 4000000 in
set_option maxRecDepth 100000 in
theorem t_all (l : Launch) (D : va_G) (cI cJ : ClassId) (sz : Nat) (mr : Nat → Nat) (mi : Nat → Int32) (mf : Nat → Nat → Int32) (mg : Nat → Nat → Int64)  (mv : Nat → Value) (h0 : 0 ≤ (mi 6).toInt ∧ (mi 6).toInt ≤ 10) : Met l yX1_all (Cond.code yX1_all cX1_all 1 (some .int) :: GW) ({ frames := 1, cells := 0, slots := 0, locals := 40 } : Room) (va_Pc [.ref (mr 0)] (PW D cI cJ sz (WZ_HousesO cI cJ mv mr mi mf mg) xT)) (va_Qi (fun (r : Int32) (u : Unit) => (0 ≤ r.toInt) ∧ (r.toInt ≤ 1023)) (fun u => QW D cI cJ (va_A (WZ_HousesO cI cJ mv mr mi mf mg) sz) ((fun (u : Unit) => (WZ_HousesO cI cJ mv mr mi mf mg)) u)) (va_A (WZ_HousesO cI cJ mv mr mi mf mg) sz)) 0 0 (va_A (WZ_HousesO cI cJ mv mr mi mf mg) sz) := by
  refine mk_met (y := yX1_all) (bytes := cX1_all) (maxL := 1) (avs := [.ref (mr 0)]) (WS := (WZ_HousesO cI cJ mv mr mi mf mg)) (Qf := fun A => va_Qi (fun (r : Int32) (u : Unit) => (0 ≤ r.toInt) ∧ (r.toInt ≤ 1023)) (fun u => QW D cI cJ A ((fun (u : Unit) => (WZ_HousesO cI cJ mv mr mi mf mg)) u)) A) (by decide) (Nat.le_of_ble_eq_true rfl) ?_
  intro p e s m below meth c A ls E hr hlk hnm hX hw1 hl2
  have hl3 : lv_has ls 1 [(0, .ref (mr 0))] := hl2
  refine lv_iconst (pc := 0) (v := 1) E.1 E.2.1 dX1_all_0 (by decide +kernel) ?_
  refine lv_aload_n (pc := 1) E.1 E.2.1 dX1_all_1 rfl (lv_at hl3 0 rfl) ?_
  refine x_get (pc := 2) (T := TX1) (N := 9) (ci := 1) (v := .int (mi 6)) E hw1 inX1 0 5 q_281 rfl rfl (by decide) rfl rfl dX1_all_2 ?_
  refine lv_ishl (pc := 5) E.1 E.2.1 dX1_all_5 ?_
  refine lv_topi (fun v_4 ev_4 => ?_)
  have hb1v_4 : 1 ≤ v_4.toInt ∧ v_4.toInt ≤ 1024 := by rw [ev_4]; exact shl10 (by omega)
  refine lv_iconst (pc := 6) (v := 1) E.1 E.2.1 dX1_all_6 (by decide +kernel) ?_
  refine lv_isub (pc := 7) E.1 E.2.1 dX1_all_7 ?_
  refine lv_topi (fun v_5 ev_5 => ?_)
  have hv_5 : v_5.toInt = v_4.toInt - 1 := by rw [ev_5]; exact subE rfl (by decide +kernel) (by omega)
  exact em_i (w1 := (fun (u : Unit) => (WZ_HousesO cI cJ mv mr mi mf mg))) E hr hlk () hw1 ⟨(by show 0 ≤ v_5.toInt; omega), (by show v_5.toInt ≤ 1023; omega)⟩ (Nat.le_of_ble_eq_true rfl) (Nat.le_of_ble_eq_true rfl) dX1_all_8
set_option maxHeartbeats 4000000 in
set_option maxRecDepth 100000 in
theorem t_enviedBy (l : Launch) (D : va_G) (cI cJ : ClassId) (sz : Nat) (mr : Nat → Nat) (mi : Nat → Int32) (mf : Nat → Nat → Int32) (mg : Nat → Nat → Int64) (z_a : Int32) (z_margin : Int32) (mv : Nat → Value) (h0 : 0 ≤ (mi 6).toInt ∧ (mi 6).toInt ≤ 10) (h1 : 0 ≤ z_a.toInt ∧ z_a.toInt ≤ 9) : Met l yX1_enviedBy (Cond.code yX1_enviedBy cX1_enviedBy 6 (some .int) :: GW) ({ frames := 1, cells := 0, slots := 0, locals := 40 } : Room) (va_Pc [.ref (mr 0), .int z_a, .ref (mr 9), .int z_margin] (PW D cI cJ sz (WZ_HousesOhadr cI cJ mv mr mi mf mg) xT)) (va_Qi (fun (r : Int32) (u : Unit) => True) (fun u => QW D cI cJ (va_A (WZ_HousesOhadr cI cJ mv mr mi mf mg) sz) ((fun (u : Unit) => (WZ_HousesOhadr cI cJ mv mr mi mf mg)) u)) (va_A (WZ_HousesOhadr cI cJ mv mr mi mf mg) sz)) 0 0 (va_A (WZ_HousesOhadr cI cJ mv mr mi mf mg) sz) := by
  refine mk_met (y := yX1_enviedBy) (bytes := cX1_enviedBy) (maxL := 6) (avs := [.ref (mr 0), .int z_a, .ref (mr 9), .int z_margin]) (WS := (WZ_HousesOhadr cI cJ mv mr mi mf mg)) (Qf := fun A => va_Qi (fun (r : Int32) (u : Unit) => True) (fun u => QW D cI cJ A ((fun (u : Unit) => (WZ_HousesOhadr cI cJ mv mr mi mf mg)) u)) A) (by decide) (Nat.le_of_ble_eq_true rfl) ?_
  intro p e s m below meth c A ls E hr hlk hnm hX hw1 hl2
  have hl3 : lv_has ls 6 [(0, .ref (mr 0)), (1, .int z_a), (2, .ref (mr 9)), (3, .int z_margin)] := hl2
  refine lv_iconst (pc := 0) (v := 0) E.1 E.2.1 dX1_enviedBy_0 (by decide +kernel) ?_
  refine lv_istore (pc := 1) (lv' := [(4, .int 0), (0, .ref (mr 0)), (1, .int z_a), (2, .ref (mr 9)), (3, .int z_margin)]) E.1 E.2.1 dX1_enviedBy_1 hl3 (by decide) rfl (fun ls hl4 => ?_)
  refine lv_iconst (pc := 3) (v := 0) E.1 E.2.1 dX1_enviedBy_3 (by decide +kernel) ?_
  refine lv_istore (pc := 4) (lv' := [(5, .int 0), (4, .int 0), (0, .ref (mr 0)), (1, .int z_a), (2, .ref (mr 9)), (3, .int z_margin)]) E.1 E.2.1 dX1_enviedBy_4 hl4 (by decide) rfl (fun ls hl5 => ?_)
  have loop_6 : ∀ (k : Nat) (x_7 : Int32) (x_8 : Int32) (H : Heap) (locs : List Loc) (ls : Array Slot), (0 ≤ x_7.toInt) ∧ (x_7.toInt ≤ (mi 6).toInt) → (mi 6).toInt - x_7.toInt < (k : Int) → WD D A s.heap (WZ_HousesOhadr cI cJ mv mr mi mf mg) H locs → lv_has ls 6 [(5, .int x_7), (4, .int x_8), (0, .ref (mr 0)), (1, .int z_a), (2, .ref (mr 9)), (3, .int z_margin)] → W p l e ({ frames := 1, cells := 0, slots := 0, locals := 40 } : Room) s m ([.ref (mr 0), .int z_a, .ref (mr 9), .int z_margin] : List Value).toArray below meth c H locs 0 0 (MQ below (va_Qi (fun (r : Int32) (u : Unit) => True) (fun u => QW D cI cJ A ((fun (u : Unit) => (WZ_HousesOhadr cI cJ mv mr mi mf mg)) u)) A) ([.ref (mr 0), .int z_a, .ref (mr 9), .int z_margin] : List Value).toArray s 0 0 A) (F0 m 6 ls []) := by
    intro k
    induction k with
    | zero =>
      intro x_7 x_8 _ _ _ hinv hm
      obtain ⟨hi_8_0, hi_8_1⟩ := hinv
      exact absurd hm (by omega)
    | succ k ih_9 =>
      intro x_7 x_8 H locs ls hinv hm hw10 hl11
      obtain ⟨hi_8_0, hi_8_1⟩ := hinv
      refine lv_iload (pc := 6) E.1 E.2.1 dX1_enviedBy_6 (lv_at hl11 0 rfl) ?_
      refine lv_aload_n (pc := 8) E.1 E.2.1 dX1_enviedBy_8 rfl (lv_at hl11 2 rfl) ?_
      refine x_get (pc := 9) (T := TX1) (N := 9) (ci := 1) (v := .int (mi 6)) E hw10 inX1 0 5 q_281 rfl rfl (by decide) rfl rfl dX1_enviedBy_9 ?_
      refine lv_icmp_ge (pc := 12) (tgt := 57) E.1 E.2.1 dX1_enviedBy_12 (by decide) (fun c_12 => ?_) (fun c_12 => ?_)
      · skip
        have hc_12 := leE (a := (mi 6).toInt) (b := x_7.toInt) rfl rfl c_12
        refine lv_iload (pc := 57) E.1 E.2.1 dX1_enviedBy_57 (lv_at hl11 1 rfl) ?_
        exact em_i (w1 := (fun (u : Unit) => (WZ_HousesOhadr cI cJ mv mr mi mf mg))) E hr hlk () hw10 trivial (Nat.le_of_ble_eq_true rfl) (Nat.le_of_ble_eq_true rfl) dX1_enviedBy_59
      · skip
        have hc_12 := nleE (a := (mi 6).toInt) (b := x_7.toInt) rfl rfl c_12
        refine lv_aload_n (pc := 15) E.1 E.2.1 dX1_enviedBy_15 rfl (lv_at hl11 4 rfl) ?_
        refine lv_iload (pc := 16) E.1 E.2.1 dX1_enviedBy_16 (lv_at hl11 0 rfl) ?_
        refine x_iald (pc := 18) (f := (mf 9)) E hw10 8 rfl (inbE (a := x_7.toInt) rfl (by omega)) dX1_enviedBy_18 ?_
        refine lv_topi (fun v_13 ev_13 => ?_)
        refine lv_aload_n (pc := 19) E.1 E.2.1 dX1_enviedBy_19 rfl (lv_at hl11 2 rfl) ?_
        refine x_get (pc := 20) (T := TX1) (N := 9) (ci := 1) (v := .ref (mr 2)) E hw10 inX1 0 1 q_268 rfl rfl (by decide) rfl rfl dX1_enviedBy_20 ?_
        refine lv_iload_n (pc := 23) E.1 E.2.1 dX1_enviedBy_23 rfl (lv_at hl11 3 rfl) ?_
        refine x_iald (pc := 24) (f := (mf 2)) E hw10 2 rfl (inbE (a := z_a.toInt) rfl (by omega)) dX1_enviedBy_24 ?_
        refine lv_topi (fun v_14 ev_14 => ?_)
        refine lv_imul (pc := 25) E.1 E.2.1 dX1_enviedBy_25 ?_
        refine lv_topi (fun v_15 ev_15 => ?_)
        refine lv_aload_n (pc := 26) E.1 E.2.1 dX1_enviedBy_26 rfl (lv_at hl11 4 rfl) ?_
        refine lv_iload_n (pc := 27) E.1 E.2.1 dX1_enviedBy_27 rfl (lv_at hl11 3 rfl) ?_
        refine x_iald (pc := 28) (f := (mf 9)) E hw10 8 rfl (inbE (a := z_a.toInt) rfl (by omega)) dX1_enviedBy_28 ?_
        refine lv_topi (fun v_16 ev_16 => ?_)
        refine lv_iload_n (pc := 29) E.1 E.2.1 dX1_enviedBy_29 rfl (lv_at hl11 5 rfl) ?_
        refine lv_iadd (pc := 30) E.1 E.2.1 dX1_enviedBy_30 ?_
        refine lv_topi (fun v_17 ev_17 => ?_)
        refine lv_aload_n (pc := 31) E.1 E.2.1 dX1_enviedBy_31 rfl (lv_at hl11 2 rfl) ?_
        refine x_get (pc := 32) (T := TX1) (N := 9) (ci := 1) (v := .ref (mr 2)) E hw10 inX1 0 1 q_268 rfl rfl (by decide) rfl rfl dX1_enviedBy_32 ?_
        refine lv_iload (pc := 35) E.1 E.2.1 dX1_enviedBy_35 (lv_at hl11 0 rfl) ?_
        refine x_iald (pc := 37) (f := (mf 2)) E hw10 2 rfl (inbE (a := x_7.toInt) rfl (by omega)) dX1_enviedBy_37 ?_
        refine lv_topi (fun v_18 ev_18 => ?_)
        refine lv_imul (pc := 38) E.1 E.2.1 dX1_enviedBy_38 ?_
        refine lv_topi (fun v_19 ev_19 => ?_)
        refine lv_icmp_le (pc := 39) (tgt := 51) E.1 E.2.1 dX1_enviedBy_39 (by decide) (fun c_20 => ?_) (fun c_20 => ?_)
        · skip
          have hc_20 := leE (a := v_15.toInt) (b := v_19.toInt) rfl rfl c_20
          obtain ⟨v_21, ev_21⟩ : ∃ z : Int32, x_7 + Int32.ofInt (1) = z := ⟨_, rfl⟩
          have hv_21 : v_21.toInt = x_7.toInt + (1) := by rw [← ev_21]; exact incE rfl (by decide) (by omega)
          refine lv_iinc (pc := 51) (v := v_21) (lv' := [(5, .int v_21), (4, .int x_8), (0, .ref (mr 0)), (1, .int z_a), (2, .ref (mr 9)), (3, .int z_margin)]) E.1 E.2.1 dX1_enviedBy_51 hl11 (k := 0) rfl ev_21 (by decide) rfl (fun ls hl22 => ?_)
          refine lv_goto (pc := 54) (tgt := 6) E.1 E.2.1 dX1_enviedBy_54 (by decide) ?_
          exact ih_9 v_21 x_8 _ _ _ ⟨(by show 0 ≤ v_21.toInt; omega), (by show v_21.toInt ≤ (mi 6).toInt; omega)⟩ (by omega) hw10 (lv_sub hl22 [0, 1, 2, 3, 4, 5] rfl)
        · skip
          have hc_20 := nleE (a := v_15.toInt) (b := v_19.toInt) rfl rfl c_20
          refine lv_iload (pc := 42) E.1 E.2.1 dX1_enviedBy_42 (lv_at hl11 1 rfl) ?_
          refine lv_iconst (pc := 44) (v := 1) E.1 E.2.1 dX1_enviedBy_44 (by decide +kernel) ?_
          refine lv_iload (pc := 45) E.1 E.2.1 dX1_enviedBy_45 (lv_at hl11 0 rfl) ?_
          refine lv_ishl (pc := 47) E.1 E.2.1 dX1_enviedBy_47 ?_
          refine lv_topi (fun v_23 ev_23 => ?_)
          have hb1v_23 : 1 ≤ v_23.toInt ∧ v_23.toInt ≤ 512 := by rw [ev_23]; exact shl9 (by omega)
          refine lv_ior (pc := 48) E.1 E.2.1 dX1_enviedBy_48 ?_
          refine lv_topi (fun v_24 ev_24 => ?_)
          refine lv_istore (pc := 49) (lv' := [(4, .int v_24), (5, .int x_7), (0, .ref (mr 0)), (1, .int z_a), (2, .ref (mr 9)), (3, .int z_margin)]) E.1 E.2.1 dX1_enviedBy_49 hl11 (by decide) rfl (fun ls hl25 => ?_)
          obtain ⟨v_26, ev_26⟩ : ∃ z : Int32, x_7 + Int32.ofInt (1) = z := ⟨_, rfl⟩
          have hv_26 : v_26.toInt = x_7.toInt + (1) := by rw [← ev_26]; exact incE rfl (by decide) (by omega)
          refine lv_iinc (pc := 51) (v := v_26) (lv' := [(5, .int v_26), (4, .int v_24), (0, .ref (mr 0)), (1, .int z_a), (2, .ref (mr 9)), (3, .int z_margin)]) E.1 E.2.1 dX1_enviedBy_51 hl25 (k := 1) rfl ev_26 (by decide) rfl (fun ls hl27 => ?_)
          refine lv_goto (pc := 54) (tgt := 6) E.1 E.2.1 dX1_enviedBy_54 (by decide) ?_
          exact ih_9 v_26 v_24 _ _ _ ⟨(by show 0 ≤ v_26.toInt; omega), (by show v_26.toInt ≤ (mi 6).toInt; omega)⟩ (by omega) hw10 (lv_sub hl27 [0, 1, 2, 3, 4, 5] rfl)
  exact loop_6 (Int.toNat ((mi 6).toInt - 0) + 1) 0 0 _ _ _ ⟨(by show 0 ≤ (0 : Int32).toInt; have k_0 : (0 : Int32).toInt = 0 := (by decide +kernel); omega), (by show (0 : Int32).toInt ≤ (mi 6).toInt; have k_0 : (0 : Int32).toInt = 0 := (by decide +kernel); omega)⟩ (by have k_0 : (0 : Int32).toInt = 0 := (by decide +kernel); have k_1 : (0 : Int32).toInt = 0 := (by decide +kernel); omega) hw1 (lv_sub hl5 [0, 1, 2, 3, 4, 5] rfl)
set_option maxHeartbeats 4000000 in
set_option maxRecDepth 100000 in
theorem t_leastUnenvying (l : Launch) (D : va_G) (cI cJ : ClassId) (sz : Nat) (mr : Nat → Nat) (mi : Nat → Int32) (mf : Nat → Nat → Int32) (mg : Nat → Nat → Int64) (z_a : Int32) (z_margin : Int32) (mv : Nat → Value) (h0 : 0 ≤ (mi 6).toInt ∧ (mi 6).toInt ≤ 10) (h1 : 0 ≤ z_a.toInt ∧ z_a.toInt ≤ 9) : Met l yX1_leastUnenvying (Cond.code yX1_leastUnenvying cX1_leastUnenvying 6 (some .int) :: GW) ({ frames := 1, cells := 0, slots := 0, locals := 40 } : Room) (va_Pc [.ref (mr 0), .int z_a, .int z_margin] (PW D cI cJ sz (WZ_HousesO cI cJ mv mr mi mf mg) xT)) (va_Qi (fun (r : Int32) (u : Unit) => True) (fun u => QW D cI cJ (va_A (WZ_HousesO cI cJ mv mr mi mf mg) sz) ((fun (u : Unit) => (WZ_HousesO cI cJ mv mr mi mf mg)) u)) (va_A (WZ_HousesO cI cJ mv mr mi mf mg) sz)) 0 0 (va_A (WZ_HousesO cI cJ mv mr mi mf mg) sz) := by
  refine mk_met (y := yX1_leastUnenvying) (bytes := cX1_leastUnenvying) (maxL := 6) (avs := [.ref (mr 0), .int z_a, .int z_margin]) (WS := (WZ_HousesO cI cJ mv mr mi mf mg)) (Qf := fun A => va_Qi (fun (r : Int32) (u : Unit) => True) (fun u => QW D cI cJ A ((fun (u : Unit) => (WZ_HousesO cI cJ mv mr mi mf mg)) u)) A) (by decide) (Nat.le_of_ble_eq_true rfl) ?_
  intro p e s m below meth c A ls E hr hlk hnm hX hw1 hl2
  have hl3 : lv_has ls 6 [(0, .ref (mr 0)), (1, .int z_a), (2, .int z_margin)] := hl2
  refine lv_iconst (pc := 0) (v := 0) E.1 E.2.1 dX1_leastUnenvying_0 (by decide +kernel) ?_
  refine lv_istore_n (pc := 1) (lv' := [(3, .int 0), (0, .ref (mr 0)), (1, .int z_a), (2, .int z_margin)]) E.1 E.2.1 dX1_leastUnenvying_1 rfl hl3 (by decide) rfl (fun ls hl4 => ?_)
  refine lv_iconst (pc := 2) (v := 0) E.1 E.2.1 dX1_leastUnenvying_2 (by decide +kernel) ?_
  refine lv_istore (pc := 3) (lv' := [(4, .int 0), (3, .int 0), (0, .ref (mr 0)), (1, .int z_a), (2, .int z_margin)]) E.1 E.2.1 dX1_leastUnenvying_3 hl4 (by decide) rfl (fun ls hl5 => ?_)
  have loop_6 : ∀ (k : Nat) (x_7 : Int32) (x_8 : Int32) (H : Heap) (locs : List Loc) (ls : Array Slot), (0 ≤ x_7.toInt) ∧ (x_7.toInt ≤ (mi 6).toInt) → (mi 6).toInt - x_7.toInt < (k : Int) → WD D A s.heap (WZ_HousesO cI cJ mv mr mi mf mg) H locs → lv_has ls 6 [(4, .int x_7), (3, .int x_8), (0, .ref (mr 0)), (1, .int z_a), (2, .int z_margin)] → W p l e ({ frames := 1, cells := 0, slots := 0, locals := 40 } : Room) s m ([.ref (mr 0), .int z_a, .int z_margin] : List Value).toArray below meth c H locs 0 0 (MQ below (va_Qi (fun (r : Int32) (u : Unit) => True) (fun u => QW D cI cJ A ((fun (u : Unit) => (WZ_HousesO cI cJ mv mr mi mf mg)) u)) A) ([.ref (mr 0), .int z_a, .int z_margin] : List Value).toArray s 0 0 A) (F0 m 5 ls []) := by
    intro k
    induction k with
    | zero =>
      intro x_7 x_8 _ _ _ hinv hm
      obtain ⟨hi_8_0, hi_8_1⟩ := hinv
      exact absurd hm (by omega)
    | succ k ih_9 =>
      intro x_7 x_8 H locs ls hinv hm hw10 hl11
      obtain ⟨hi_8_0, hi_8_1⟩ := hinv
      refine lv_iload (pc := 5) E.1 E.2.1 dX1_leastUnenvying_5 (lv_at hl11 0 rfl) ?_
      refine lv_aload_n (pc := 7) E.1 E.2.1 dX1_leastUnenvying_7 rfl (lv_at hl11 2 rfl) ?_
      refine x_get (pc := 8) (T := TX1) (N := 9) (ci := 1) (v := .int (mi 6)) E hw10 inX1 0 5 q_281 rfl rfl (by decide) rfl rfl dX1_leastUnenvying_8 ?_
      refine lv_icmp_ge (pc := 11) (tgt := 63) E.1 E.2.1 dX1_leastUnenvying_11 (by decide) (fun c_12 => ?_) (fun c_12 => ?_)
      · skip
        have hc_12 := leE (a := (mi 6).toInt) (b := x_7.toInt) rfl rfl c_12
        refine lv_iload_n (pc := 63) E.1 E.2.1 dX1_leastUnenvying_63 rfl (lv_at hl11 1 rfl) ?_
        exact em_i (w1 := (fun (u : Unit) => (WZ_HousesO cI cJ mv mr mi mf mg))) E hr hlk () hw10 trivial (Nat.le_of_ble_eq_true rfl) (Nat.le_of_ble_eq_true rfl) dX1_leastUnenvying_64
      · skip
        have hc_12 := nleE (a := (mi 6).toInt) (b := x_7.toInt) rfl rfl c_12
        refine lv_aload_n (pc := 14) E.1 E.2.1 dX1_leastUnenvying_14 rfl (lv_at hl11 2 rfl) ?_
        refine x_get (pc := 15) (T := TX1) (N := 9) (ci := 1) (v := .ref (mr 2)) E hw10 inX1 0 1 q_268 rfl rfl (by decide) rfl rfl dX1_leastUnenvying_15 ?_
        refine lv_iload (pc := 18) E.1 E.2.1 dX1_leastUnenvying_18 (lv_at hl11 0 rfl) ?_
        refine x_iald (pc := 20) (f := (mf 2)) E hw10 2 rfl (inbE (a := x_7.toInt) rfl (by omega)) dX1_leastUnenvying_20 ?_
        refine lv_topi (fun v_13 ev_13 => ?_)
        refine lv_istore (pc := 21) (lv' := [(5, .int v_13), (4, .int x_7), (3, .int x_8), (0, .ref (mr 0)), (1, .int z_a), (2, .int z_margin)]) E.1 E.2.1 dX1_leastUnenvying_21 hl11 (by decide) rfl (fun ls hl14 => ?_)
        refine lv_iload (pc := 23) E.1 E.2.1 dX1_leastUnenvying_23 (lv_at hl14 0 rfl) ?_
        refine lv_if_le (pc := 25) (tgt := 57) E.1 E.2.1 dX1_leastUnenvying_25 (by decide) (fun c_15 => ?_) (fun c_15 => ?_)
        · skip
          have hc_15 := leE (a := v_13.toInt) (b := 0) rfl (by decide +kernel) c_15
          obtain ⟨v_16, ev_16⟩ : ∃ z : Int32, x_7 + Int32.ofInt (1) = z := ⟨_, rfl⟩
          have hv_16 : v_16.toInt = x_7.toInt + (1) := by rw [← ev_16]; exact incE rfl (by decide) (by omega)
          refine lv_iinc (pc := 57) (v := v_16) (lv' := [(4, .int v_16), (5, .int v_13), (3, .int x_8), (0, .ref (mr 0)), (1, .int z_a), (2, .int z_margin)]) E.1 E.2.1 dX1_leastUnenvying_57 hl14 (k := 1) rfl ev_16 (by decide) rfl (fun ls hl17 => ?_)
          refine lv_goto (pc := 60) (tgt := 5) E.1 E.2.1 dX1_leastUnenvying_60 (by decide) ?_
          exact ih_9 v_16 x_8 _ _ _ ⟨(by show 0 ≤ v_16.toInt; omega), (by show v_16.toInt ≤ (mi 6).toInt; omega)⟩ (by omega) hw10 (lv_sub hl17 [0, 2, 3, 4, 5] rfl)
        · skip
          have hc_15 := nleE (a := v_13.toInt) (b := 0) rfl (by decide +kernel) c_15
          refine lv_iload_n (pc := 28) E.1 E.2.1 dX1_leastUnenvying_28 rfl (lv_at hl14 2 rfl) ?_
          refine lv_aload_n (pc := 29) E.1 E.2.1 dX1_leastUnenvying_29 rfl (lv_at hl14 3 rfl) ?_
          refine x_get (pc := 30) (T := TX1) (N := 9) (ci := 1) (v := .ref (mr 7)) E hw10 inX1 0 6 q_284 rfl rfl (by decide) rfl rfl dX1_leastUnenvying_30 ?_
          refine lv_iload (pc := 33) E.1 E.2.1 dX1_leastUnenvying_33 (lv_at hl14 1 rfl) ?_
          refine x_iald (pc := 35) (f := (mf 7)) E hw10 6 rfl (inbE (a := x_7.toInt) rfl (by omega)) dX1_leastUnenvying_35 ?_
          refine lv_topi (fun v_18 ev_18 => ?_)
          refine lv_aload_n (pc := 36) E.1 E.2.1 dX1_leastUnenvying_36 rfl (lv_at hl14 3 rfl) ?_
          refine x_get (pc := 37) (T := TX1) (N := 9) (ci := 1) (v := .ref (mr 2)) E hw10 inX1 0 1 q_268 rfl rfl (by decide) rfl rfl dX1_leastUnenvying_37 ?_
          refine lv_iload_n (pc := 40) E.1 E.2.1 dX1_leastUnenvying_40 rfl (lv_at hl14 4 rfl) ?_
          refine x_iald (pc := 41) (f := (mf 2)) E hw10 2 rfl (inbE (a := z_a.toInt) rfl (by omega)) dX1_leastUnenvying_41 ?_
          refine lv_topi (fun v_19 ev_19 => ?_)
          refine lv_imul (pc := 42) E.1 E.2.1 dX1_leastUnenvying_42 ?_
          refine lv_topi (fun v_20 ev_20 => ?_)
          refine lv_iload (pc := 43) E.1 E.2.1 dX1_leastUnenvying_43 (lv_at hl14 0 rfl) ?_
          refine lv_iadd (pc := 45) E.1 E.2.1 dX1_leastUnenvying_45 ?_
          refine lv_topi (fun v_21 ev_21 => ?_)
          refine lv_iconst (pc := 46) (v := 1) E.1 E.2.1 dX1_leastUnenvying_46 (by decide +kernel) ?_
          refine lv_isub (pc := 47) E.1 E.2.1 dX1_leastUnenvying_47 ?_
          refine lv_topi (fun v_22 ev_22 => ?_)
          refine lv_iload (pc := 48) E.1 E.2.1 dX1_leastUnenvying_48 (lv_at hl14 0 rfl) ?_
          refine lv_idiv (pc := 50) E.1 E.2.1 dX1_leastUnenvying_50 (mneE (a := v_13.toInt) (b := 0) rfl (by decide +kernel) (by omega)) ?_
          refine lv_topi (fun v_23 ev_23 => ?_)
          refine lv_iload_n (pc := 51) E.1 E.2.1 dX1_leastUnenvying_51 rfl (lv_at hl14 5 rfl) ?_
          refine lv_isub (pc := 52) E.1 E.2.1 dX1_leastUnenvying_52 ?_
          refine lv_topi (fun v_24 ev_24 => ?_)
          refine x_max (pc := 53) E hl14.1 q_1259 q_805 q_167 q_806 (Nat.le_of_ble_eq_true rfl) (Nat.le_of_ble_eq_true rfl) (Nat.le_of_ble_eq_true rfl) (Nat.le_of_ble_eq_true rfl) dX1_leastUnenvying_53 (fun v_25 hv_25 => ?_)
          have hv_25a : x_8.toInt ≤ v_25.toInt ∧ v_24.toInt ≤ v_25.toInt := by omega
          clear hv_25
          refine lv_istore_n (pc := 56) (lv' := [(3, .int v_25), (5, .int v_13), (4, .int x_7), (0, .ref (mr 0)), (1, .int z_a), (2, .int z_margin)]) E.1 E.2.1 dX1_leastUnenvying_56 rfl hl14 (by decide) rfl (fun ls hl26 => ?_)
          obtain ⟨v_27, ev_27⟩ : ∃ z : Int32, x_7 + Int32.ofInt (1) = z := ⟨_, rfl⟩
          have hv_27 : v_27.toInt = x_7.toInt + (1) := by rw [← ev_27]; exact incE rfl (by decide) (by omega)
          refine lv_iinc (pc := 57) (v := v_27) (lv' := [(4, .int v_27), (3, .int v_25), (5, .int v_13), (0, .ref (mr 0)), (1, .int z_a), (2, .int z_margin)]) E.1 E.2.1 dX1_leastUnenvying_57 hl26 (k := 2) rfl ev_27 (by decide) rfl (fun ls hl28 => ?_)
          refine lv_goto (pc := 60) (tgt := 5) E.1 E.2.1 dX1_leastUnenvying_60 (by decide) ?_
          exact ih_9 v_27 v_25 _ _ _ ⟨(by show 0 ≤ v_27.toInt; omega), (by show v_27.toInt ≤ (mi 6).toInt; omega)⟩ (by omega) hw10 (lv_sub hl28 [0, 1, 3, 4, 5] rfl)
  exact loop_6 (Int.toNat ((mi 6).toInt - 0) + 1) 0 0 _ _ _ ⟨(by show 0 ≤ (0 : Int32).toInt; have k_0 : (0 : Int32).toInt = 0 := (by decide +kernel); omega), (by show (0 : Int32).toInt ≤ (mi 6).toInt; have k_0 : (0 : Int32).toInt = 0 := (by decide +kernel); omega)⟩ (by have k_0 : (0 : Int32).toInt = 0 := (by decide +kernel); have k_1 : (0 : Int32).toInt = 0 := (by decide +kernel); omega) hw1 (lv_sub hl5 [0, 1, 2, 3, 4] rfl)
set_option maxHeartbeats 4000000 in
set_option maxRecDepth 100000 in
theorem t_canMend (l : Launch) (D : va_G) (cI cJ : ClassId) (sz : Nat) (mr : Nat → Nat) (mi : Nat → Int32) (mf : Nat → Nat → Int32) (mg : Nat → Nat → Int64) (z_margin : Int32) (mv : Nat → Value) (h0 : 0 ≤ (mi 6).toInt ∧ (mi 6).toInt ≤ 10) : Met l yX1_canMend (Cond.code yX1_canMend cX1_canMend 7 (some .boolean) :: GW) ({ frames := 2, cells := 0, slots := 0, locals := 65 } : Room) (va_Pc [.ref (mr 0), .ref (mr 9), .int z_margin] (PW D cI cJ sz (WZ_HousesOhadr cI cJ mv mr mi mf mg) xT)) (va_Qi (fun (r : Int32) (u : (Nat → Int32)) => (0 ≤ r.toInt) ∧ (r.toInt ≤ 1)) (fun u => QW D cI cJ (va_A (WZ_HousesOhadr cI cJ mv mr mi mf mg) sz) ((fun (u : (Nat → Int32)) => (WZ_HousesOhadr cI cJ mv mr mi (va_up mf 7 u) mg)) u)) (va_A (WZ_HousesOhadr cI cJ mv mr mi mf mg) sz)) 0 0 (va_A (WZ_HousesOhadr cI cJ mv mr mi mf mg) sz) := by
  refine mk_met (y := yX1_canMend) (bytes := cX1_canMend) (maxL := 7) (avs := [.ref (mr 0), .ref (mr 9), .int z_margin]) (WS := (WZ_HousesOhadr cI cJ mv mr mi mf mg)) (Qf := fun A => va_Qi (fun (r : Int32) (u : (Nat → Int32)) => (0 ≤ r.toInt) ∧ (r.toInt ≤ 1)) (fun u => QW D cI cJ A ((fun (u : (Nat → Int32)) => (WZ_HousesOhadr cI cJ mv mr mi (va_up mf 7 u) mg)) u)) A) (by decide) (Nat.le_of_ble_eq_true rfl) ?_
  intro p e s m below meth c A ls E hr hlk hnm hX hw1 hl2
  have hl3 : lv_has ls 7 [(0, .ref (mr 0)), (1, .ref (mr 9)), (2, .int z_margin)] := hl2
  refine lv_aload_n (pc := 0) E.1 E.2.1 dX1_canMend_0 rfl (lv_at hl3 1 rfl) ?_
  refine lv_iconst (pc := 1) (v := 0) E.1 E.2.1 dX1_canMend_1 (by decide +kernel) ?_
  refine lv_aload_n (pc := 2) E.1 E.2.1 dX1_canMend_2 rfl (lv_at hl3 0 rfl) ?_
  refine x_get (pc := 3) (T := TX1) (N := 9) (ci := 1) (v := .ref (mr 7)) E hw1 inX1 0 6 q_284 rfl rfl (by decide) rfl rfl dX1_canMend_3 ?_
  refine lv_iconst (pc := 6) (v := 0) E.1 E.2.1 dX1_canMend_6 (by decide +kernel) ?_
  refine lv_bipush (pc := 7) (v := 10) E.1 E.2.1 dX1_canMend_7 (by decide +kernel) ?_
  refine x_copyG (pc := 9) (N := 10) (wf := fun g => (WZ_HousesOhadr cI cJ mv mr mi (va_up mf 7 g) mg)) E hw1 hl3.1 q_1254 q_967 q_966 q_169 8 6 rfl rfl (by decide +kernel) (by decide +kernel) (Nat.le_of_ble_eq_true rfl) (Nat.le_of_ble_eq_true rfl) (fun _ => rfl) (Nat.le_of_ble_eq_true rfl) (Nat.le_of_ble_eq_true rfl) dX1_canMend_9 (fun g_4 H locs eg_4 hw5 => ?_)
  refine lv_iconst (pc := 12) (v := 1) E.1 E.2.1 dX1_canMend_12 (by decide +kernel) ?_
  refine lv_istore_n (pc := 13) (lv' := [(3, .int 1), (0, .ref (mr 0)), (1, .ref (mr 9)), (2, .int z_margin)]) E.1 E.2.1 dX1_canMend_13 rfl hl3 (by decide) rfl (fun ls hl6 => ?_)
  refine lv_iconst (pc := 14) (v := 0) E.1 E.2.1 dX1_canMend_14 (by decide +kernel) ?_
  refine lv_istore (pc := 15) (lv' := [(4, .int 0), (3, .int 1), (0, .ref (mr 0)), (1, .ref (mr 9)), (2, .int z_margin)]) E.1 E.2.1 dX1_canMend_15 hl6 (by decide) rfl (fun ls hl7 => ?_)
  have loop_8 : ∀ (k : Nat) (x_9 : Int32) (x_10 : Int32) (g_11 : Nat → Int32) (H : Heap) (locs : List Loc) (ls : Array Slot), (0 ≤ x_9.toInt) ∧ (x_9.toInt ≤ 10000) ∧ (0 ≤ x_10.toInt) ∧ (x_10.toInt ≤ 1) → 10000 - x_9.toInt < (k : Int) → WD D A s.heap (WZ_HousesOhadr cI cJ mv mr mi (va_up mf 7 g_11) mg) H locs → lv_has ls 7 [(4, .int x_9), (3, .int x_10), (0, .ref (mr 0)), (1, .ref (mr 9)), (2, .int z_margin)] → W p l e ({ frames := 2, cells := 0, slots := 0, locals := 65 } : Room) s m ([.ref (mr 0), .ref (mr 9), .int z_margin] : List Value).toArray below meth c H locs 0 0 (MQ below (va_Qi (fun (r : Int32) (u : (Nat → Int32)) => (0 ≤ r.toInt) ∧ (r.toInt ≤ 1)) (fun u => QW D cI cJ A ((fun (u : (Nat → Int32)) => (WZ_HousesOhadr cI cJ mv mr mi (va_up mf 7 u) mg)) u)) A) ([.ref (mr 0), .ref (mr 9), .int z_margin] : List Value).toArray s 0 0 A) (F0 m 17 ls []) := by
    intro k
    induction k with
    | zero =>
      intro x_9 x_10 g_11 _ _ _ hinv hm
      obtain ⟨hi_11_0, hi_11_1, hi_11_2, hi_11_3⟩ := hinv
      exact absurd hm (by omega)
    | succ k ih_12 =>
      intro x_9 x_10 g_11 H locs ls hinv hm hw13 hl14
      obtain ⟨hi_11_0, hi_11_1, hi_11_2, hi_11_3⟩ := hinv
      refine lv_iload (pc := 17) E.1 E.2.1 dX1_canMend_17 (lv_at hl14 0 rfl) ?_
      refine lv_sipush (pc := 19) (v := 10000) E.1 E.2.1 dX1_canMend_19 (by decide +kernel) ?_
      refine lv_icmp_ge (pc := 22) (tgt := 107) E.1 E.2.1 dX1_canMend_22 (by decide) (fun c_15 => ?_) (fun c_15 => ?_)
      · skip
        have hc_15 := leE (a := 10000) (b := x_9.toInt) (by decide +kernel) rfl c_15
        refine lv_iconst (pc := 107) (v := 1) E.1 E.2.1 dX1_canMend_107 (by decide +kernel) ?_
        exact em_z (w1 := (fun (u : (Nat → Int32)) => (WZ_HousesOhadr cI cJ mv mr mi (va_up mf 7 u) mg))) E hr hlk g_11 hw13 ⟨(by show 0 ≤ (1 : Int32).toInt; have k_0 : (1 : Int32).toInt = 1 := (by decide +kernel); omega), (by show (1 : Int32).toInt ≤ 1; have k_0 : (1 : Int32).toInt = 1 := (by decide +kernel); omega)⟩ (by decide +kernel) (Nat.le_of_ble_eq_true rfl) (Nat.le_of_ble_eq_true rfl) dX1_canMend_108
      · skip
        have hc_15 := nleE (a := 10000) (b := x_9.toInt) (by decide +kernel) rfl c_15
        refine lv_iload_n (pc := 25) E.1 E.2.1 dX1_canMend_25 rfl (lv_at hl14 1 rfl) ?_
        refine lv_if_eq (pc := 26) (tgt := 107) E.1 E.2.1 dX1_canMend_26 (by decide) (fun c_16 => ?_) (fun c_16 => ?_)
        · skip
          have hc_16 := eqE (a := x_10.toInt) (b := 0) rfl (by decide +kernel) c_16
          refine lv_iconst (pc := 107) (v := 1) E.1 E.2.1 dX1_canMend_107 (by decide +kernel) ?_
          exact em_z (w1 := (fun (u : (Nat → Int32)) => (WZ_HousesOhadr cI cJ mv mr mi (va_up mf 7 u) mg))) E hr hlk g_11 hw13 ⟨(by show 0 ≤ (1 : Int32).toInt; have k_0 : (1 : Int32).toInt = 1 := (by decide +kernel); omega), (by show (1 : Int32).toInt ≤ 1; have k_0 : (1 : Int32).toInt = 1 := (by decide +kernel); omega)⟩ (by decide +kernel) (Nat.le_of_ble_eq_true rfl) (Nat.le_of_ble_eq_true rfl) dX1_canMend_108
        · skip
          have hc_16 := neE (a := x_10.toInt) (b := 0) rfl (by decide +kernel) c_16
          refine lv_iconst (pc := 29) (v := 0) E.1 E.2.1 dX1_canMend_29 (by decide +kernel) ?_
          refine lv_istore_n (pc := 30) (lv' := [(3, .int 0), (4, .int x_9), (0, .ref (mr 0)), (1, .ref (mr 9)), (2, .int z_margin)]) E.1 E.2.1 dX1_canMend_30 rfl hl14 (by decide) rfl (fun ls hl17 => ?_)
          refine lv_iconst (pc := 31) (v := 0) E.1 E.2.1 dX1_canMend_31 (by decide +kernel) ?_
          refine lv_istore (pc := 32) (lv' := [(5, .int 0), (3, .int 0), (4, .int x_9), (0, .ref (mr 0)), (1, .ref (mr 9)), (2, .int z_margin)]) E.1 E.2.1 dX1_canMend_32 hl17 (by decide) rfl (fun ls hl18 => ?_)
          have loop_19 : ∀ (k : Nat) (x_20 : Int32) (x_21 : Int32) (g_22 : Nat → Int32) (H : Heap) (locs : List Loc) (ls : Array Slot), (0 ≤ x_20.toInt) ∧ (x_20.toInt ≤ (mi 6).toInt) ∧ (0 ≤ x_21.toInt) ∧ (x_21.toInt ≤ 1) → (mi 6).toInt - x_20.toInt < (k : Int) → WD D A s.heap (WZ_HousesOhadr cI cJ mv mr mi (va_up mf 7 g_22) mg) H locs → lv_has ls 7 [(5, .int x_20), (3, .int x_21), (4, .int x_9), (0, .ref (mr 0)), (1, .ref (mr 9)), (2, .int z_margin)] → W p l e ({ frames := 2, cells := 0, slots := 0, locals := 65 } : Room) s m ([.ref (mr 0), .ref (mr 9), .int z_margin] : List Value).toArray below meth c H locs 0 0 (MQ below (va_Qi (fun (r : Int32) (u : (Nat → Int32)) => (0 ≤ r.toInt) ∧ (r.toInt ≤ 1)) (fun u => QW D cI cJ A ((fun (u : (Nat → Int32)) => (WZ_HousesOhadr cI cJ mv mr mi (va_up mf 7 u) mg)) u)) A) ([.ref (mr 0), .ref (mr 9), .int z_margin] : List Value).toArray s 0 0 A) (F0 m 34 ls []) := by
            intro k
            induction k with
            | zero =>
              intro x_20 x_21 g_22 _ _ _ hinv hm
              obtain ⟨hi_22_0, hi_22_1, hi_22_2, hi_22_3⟩ := hinv
              exact absurd hm (by omega)
            | succ k ih_23 =>
              intro x_20 x_21 g_22 H locs ls hinv hm hw24 hl25
              obtain ⟨hi_22_0, hi_22_1, hi_22_2, hi_22_3⟩ := hinv
              refine lv_iload (pc := 34) E.1 E.2.1 dX1_canMend_34 (lv_at hl25 0 rfl) ?_
              refine lv_aload_n (pc := 36) E.1 E.2.1 dX1_canMend_36 rfl (lv_at hl25 3 rfl) ?_
              refine x_get (pc := 37) (T := TX1) (N := 9) (ci := 1) (v := .int (mi 6)) E hw24 inX1 0 5 q_281 rfl rfl (by decide) rfl rfl dX1_canMend_37 ?_
              refine lv_icmp_ge (pc := 40) (tgt := 101) E.1 E.2.1 dX1_canMend_40 (by decide) (fun c_26 => ?_) (fun c_26 => ?_)
              · skip
                have hc_26 := leE (a := (mi 6).toInt) (b := x_20.toInt) rfl rfl c_26
                obtain ⟨v_27, ev_27⟩ : ∃ z : Int32, x_9 + Int32.ofInt (1) = z := ⟨_, rfl⟩
                have hv_27 : v_27.toInt = x_9.toInt + (1) := by rw [← ev_27]; exact incE rfl (by decide) (by omega)
                refine lv_iinc (pc := 101) (v := v_27) (lv' := [(4, .int v_27), (5, .int x_20), (3, .int x_21), (0, .ref (mr 0)), (1, .ref (mr 9)), (2, .int z_margin)]) E.1 E.2.1 dX1_canMend_101 hl25 (k := 2) rfl ev_27 (by decide) rfl (fun ls hl28 => ?_)
                refine lv_goto (pc := 104) (tgt := 17) E.1 E.2.1 dX1_canMend_104 (by decide) ?_
                exact ih_12 v_27 x_21 g_22 _ _ _ ⟨(by show 0 ≤ v_27.toInt; omega), (by show v_27.toInt ≤ 10000; omega), hi_22_2, hi_22_3⟩ (by omega) hw24 (lv_sub hl28 [0, 2, 3, 4, 5] rfl)
              · skip
                have hc_26 := nleE (a := (mi 6).toInt) (b := x_20.toInt) rfl rfl c_26
                refine lv_aload_n (pc := 43) E.1 E.2.1 dX1_canMend_43 rfl (lv_at hl25 3 rfl) ?_
                refine lv_iload (pc := 44) E.1 E.2.1 dX1_canMend_44 (lv_at hl25 0 rfl) ?_
                refine lv_iload_n (pc := 46) E.1 E.2.1 dX1_canMend_46 rfl (lv_at hl25 5 rfl) ?_
                refine ck_i (pc := 47) (ws' := (fun (u : Unit) => (WZ_HousesOhadr cI cJ mv mr mi (va_up mf 7 g_22) mg))) [true, true, true, true, true, true, true, true, false] hw24 rfl (fun hC_ => (rn_V (As := [.int x_20, .int z_margin]) (rest := []) E hw24 (t_leastUnenvying l D cI cJ _ mr mi (va_up mf 7 g_22) mg x_20 z_margin (vl [mv 0]) h0 (by show 0 ≤ x_20.toInt ∧ x_20.toInt ≤ 9; omega)) (gdV q_1255 q_1257 q_39 q_154 q_1258) hdV_X1_leastUnenvying ⟨rfl, rfl⟩ ⟨(Nat.le_of_ble_eq_true rfl), (Nat.le_of_ble_eq_true rfl)⟩ ⟨(Nat.le_of_ble_eq_true rfl), (Nat.le_of_ble_eq_true rfl)⟩ xT_b xT_at 0 1 rfl rfl rfl _ hC_ (nd_T _ 0) rfl hl25.1 rfl (Nat.le_of_ble_eq_true rfl) dX1_canMend_47)) rfl (fun _ => rfl) (fun _ => rfl) (fun r_30 u_29 H1 locs hp hw31 => ?_)
                generalize H1 = H at hw31 ⊢
                have hw32 : WD D A s.heap (WZ_HousesOhadr cI cJ mv mr mi (va_up mf 7 g_22) mg) H locs := hw31
                refine lv_istore (pc := 50) (lv' := [(6, .int r_30), (5, .int x_20), (3, .int x_21), (4, .int x_9), (0, .ref (mr 0)), (1, .ref (mr 9)), (2, .int z_margin)]) E.1 E.2.1 dX1_canMend_50 hl25 (by decide) rfl (fun ls hl33 => ?_)
                refine lv_aload_n (pc := 52) E.1 E.2.1 dX1_canMend_52 rfl (lv_at hl33 4 rfl) ?_
                refine x_get (pc := 53) (T := TX1) (N := 9) (ci := 1) (v := .ref (mr 7)) E hw32 inX1 0 6 q_284 rfl rfl (by decide) rfl rfl dX1_canMend_53 ?_
                refine lv_iload (pc := 56) E.1 E.2.1 dX1_canMend_56 (lv_at hl33 1 rfl) ?_
                refine x_iald (pc := 58) (f := g_22) E hw32 6 rfl (inbE (a := x_20.toInt) rfl (by omega)) dX1_canMend_58 ?_
                refine lv_topi (fun v_34 ev_34 => ?_)
                refine lv_iload (pc := 59) E.1 E.2.1 dX1_canMend_59 (lv_at hl33 0 rfl) ?_
                refine lv_icmp_ge (pc := 61) (tgt := 75) E.1 E.2.1 dX1_canMend_61 (by decide) (fun c_35 => ?_) (fun c_35 => ?_)
                · skip
                  have hc_35 := leE (a := r_30.toInt) (b := v_34.toInt) rfl rfl c_35
                  refine lv_aload_n (pc := 75) E.1 E.2.1 dX1_canMend_75 rfl (lv_at hl33 4 rfl) ?_
                  refine x_get (pc := 76) (T := TX1) (N := 9) (ci := 1) (v := .ref (mr 7)) E hw32 inX1 0 6 q_284 rfl rfl (by decide) rfl rfl dX1_canMend_76 ?_
                  refine lv_iload (pc := 79) E.1 E.2.1 dX1_canMend_79 (lv_at hl33 1 rfl) ?_
                  refine x_iald (pc := 81) (f := g_22) E hw32 6 rfl (inbE (a := x_20.toInt) rfl (by omega)) dX1_canMend_81 ?_
                  refine lv_topi (fun v_36 ev_36 => ?_)
                  have hsv_36 : v_36.toInt = v_34.toInt := by rw [ev_36, ev_34]
                  refine lv_aload_n (pc := 82) E.1 E.2.1 dX1_canMend_82 rfl (lv_at hl33 5 rfl) ?_
                  refine lv_iload (pc := 83) E.1 E.2.1 dX1_canMend_83 (lv_at hl33 1 rfl) ?_
                  refine x_iald (pc := 85) (f := (mf 9)) E hw32 8 rfl (inbE (a := x_20.toInt) rfl (by omega)) dX1_canMend_85 ?_
                  refine lv_topi (fun v_37 ev_37 => ?_)
                  refine lv_isub (pc := 86) E.1 E.2.1 dX1_canMend_86 ?_
                  refine lv_topi (fun v_38 ev_38 => ?_)
                  refine lv_sipush (pc := 87) (v := 9999) E.1 E.2.1 dX1_canMend_87 (by decide +kernel) ?_
                  refine lv_icmp_le (pc := 90) (tgt := 95) E.1 E.2.1 dX1_canMend_90 (by decide) (fun c_39 => ?_) (fun c_39 => ?_)
                  · skip
                    have hc_39 := leE (a := v_38.toInt) (b := 9999) rfl (by decide +kernel) c_39
                    obtain ⟨v_40, ev_40⟩ : ∃ z : Int32, x_20 + Int32.ofInt (1) = z := ⟨_, rfl⟩
                    have hv_40 : v_40.toInt = x_20.toInt + (1) := by rw [← ev_40]; exact incE rfl (by decide) (by omega)
                    refine lv_iinc (pc := 95) (v := v_40) (lv' := [(5, .int v_40), (6, .int r_30), (3, .int x_21), (4, .int x_9), (0, .ref (mr 0)), (1, .ref (mr 9)), (2, .int z_margin)]) E.1 E.2.1 dX1_canMend_95 hl33 (k := 1) rfl ev_40 (by decide) rfl (fun ls hl41 => ?_)
                    refine lv_goto (pc := 98) (tgt := 34) E.1 E.2.1 dX1_canMend_98 (by decide) ?_
                    exact ih_23 v_40 x_21 g_22 _ _ _ ⟨(by show 0 ≤ v_40.toInt; omega), (by show v_40.toInt ≤ (mi 6).toInt; omega), hi_22_2, hi_22_3⟩ (by omega) hw32 (lv_sub hl41 [0, 2, 3, 4, 5, 6] rfl)
                  · skip
                    have hc_39 := nleE (a := v_38.toInt) (b := 9999) rfl (by decide +kernel) c_39
                    refine lv_iconst (pc := 93) (v := 0) E.1 E.2.1 dX1_canMend_93 (by decide +kernel) ?_
                    exact em_z (w1 := (fun (u : (Nat → Int32)) => (WZ_HousesOhadr cI cJ mv mr mi (va_up mf 7 u) mg))) E hr hlk g_22 hw32 ⟨(by show 0 ≤ (0 : Int32).toInt; have k_0 : (0 : Int32).toInt = 0 := (by decide +kernel); omega), (by show (0 : Int32).toInt ≤ 1; have k_0 : (0 : Int32).toInt = 0 := (by decide +kernel); omega)⟩ (by decide +kernel) (Nat.le_of_ble_eq_true rfl) (Nat.le_of_ble_eq_true rfl) dX1_canMend_94
                · skip
                  have hc_35 := nleE (a := r_30.toInt) (b := v_34.toInt) rfl rfl c_35
                  refine lv_aload_n (pc := 64) E.1 E.2.1 dX1_canMend_64 rfl (lv_at hl33 4 rfl) ?_
                  refine x_get (pc := 65) (T := TX1) (N := 9) (ci := 1) (v := .ref (mr 7)) E hw32 inX1 0 6 q_284 rfl rfl (by decide) rfl rfl dX1_canMend_65 ?_
                  refine lv_iload (pc := 68) E.1 E.2.1 dX1_canMend_68 (lv_at hl33 1 rfl) ?_
                  refine lv_iload (pc := 70) E.1 E.2.1 dX1_canMend_70 (lv_at hl33 0 rfl) ?_
                  refine x_iastG (pc := 72) (f := g_22) (wf := fun g => (WZ_HousesOhadr cI cJ mv mr mi (va_up mf 7 g) mg)) E hw32 6 rfl (inbE (a := x_20.toInt) rfl (by omega)) (fun _ => rfl) dX1_canMend_72 (fun g_42 H locs eg_42 hw43 => ?_)
                  refine lv_iconst (pc := 73) (v := 1) E.1 E.2.1 dX1_canMend_73 (by decide +kernel) ?_
                  refine lv_istore_n (pc := 74) (lv' := [(3, .int 1), (6, .int r_30), (5, .int x_20), (4, .int x_9), (0, .ref (mr 0)), (1, .ref (mr 9)), (2, .int z_margin)]) E.1 E.2.1 dX1_canMend_74 rfl hl33 (by decide) rfl (fun ls hl44 => ?_)
                  refine lv_aload_n (pc := 75) E.1 E.2.1 dX1_canMend_75 rfl (lv_at hl44 4 rfl) ?_
                  refine x_get (pc := 76) (T := TX1) (N := 9) (ci := 1) (v := .ref (mr 7)) E hw43 inX1 0 6 q_284 rfl rfl (by decide) rfl rfl dX1_canMend_76 ?_
                  refine lv_iload (pc := 79) E.1 E.2.1 dX1_canMend_79 (lv_at hl44 2 rfl) ?_
                  refine x_iald (pc := 81) (f := g_42) E hw43 6 rfl (inbE (a := x_20.toInt) rfl (by omega)) dX1_canMend_81 ?_
                  refine lv_topi (fun v_45 ev_45 => ?_)
                  have hsv_45 : v_45.toInt = r_30.toInt := by rw [ev_45, eg_42, show x_20.toNatClampNeg = x_20.toNatClampNeg from (by have q_0 := idxI (x := x_20) (by omega); have q_1 := idxI (x := x_20) (by omega); omega), pk_us]
                  refine lv_aload_n (pc := 82) E.1 E.2.1 dX1_canMend_82 rfl (lv_at hl44 5 rfl) ?_
                  refine lv_iload (pc := 83) E.1 E.2.1 dX1_canMend_83 (lv_at hl44 2 rfl) ?_
                  refine x_iald (pc := 85) (f := (mf 9)) E hw43 8 rfl (inbE (a := x_20.toInt) rfl (by omega)) dX1_canMend_85 ?_
                  refine lv_topi (fun v_46 ev_46 => ?_)
                  refine lv_isub (pc := 86) E.1 E.2.1 dX1_canMend_86 ?_
                  refine lv_topi (fun v_47 ev_47 => ?_)
                  refine lv_sipush (pc := 87) (v := 9999) E.1 E.2.1 dX1_canMend_87 (by decide +kernel) ?_
                  refine lv_icmp_le (pc := 90) (tgt := 95) E.1 E.2.1 dX1_canMend_90 (by decide) (fun c_48 => ?_) (fun c_48 => ?_)
                  · skip
                    have hc_48 := leE (a := v_47.toInt) (b := 9999) rfl (by decide +kernel) c_48
                    obtain ⟨v_49, ev_49⟩ : ∃ z : Int32, x_20 + Int32.ofInt (1) = z := ⟨_, rfl⟩
                    have hv_49 : v_49.toInt = x_20.toInt + (1) := by rw [← ev_49]; exact incE rfl (by decide) (by omega)
                    refine lv_iinc (pc := 95) (v := v_49) (lv' := [(5, .int v_49), (3, .int 1), (6, .int r_30), (4, .int x_9), (0, .ref (mr 0)), (1, .ref (mr 9)), (2, .int z_margin)]) E.1 E.2.1 dX1_canMend_95 hl44 (k := 2) rfl ev_49 (by decide) rfl (fun ls hl50 => ?_)
                    refine lv_goto (pc := 98) (tgt := 34) E.1 E.2.1 dX1_canMend_98 (by decide) ?_
                    exact ih_23 v_49 1 g_42 _ _ _ ⟨(by show 0 ≤ v_49.toInt; omega), (by show v_49.toInt ≤ (mi 6).toInt; omega), (by show 0 ≤ (1 : Int32).toInt; have k_0 : (1 : Int32).toInt = 1 := (by decide +kernel); omega), (by show (1 : Int32).toInt ≤ 1; have k_0 : (1 : Int32).toInt = 1 := (by decide +kernel); omega)⟩ (by have k_0 : (1 : Int32).toInt = 1 := (by decide +kernel); omega) hw43 (lv_sub hl50 [0, 1, 3, 4, 5, 6] rfl)
                  · skip
                    have hc_48 := nleE (a := v_47.toInt) (b := 9999) rfl (by decide +kernel) c_48
                    refine lv_iconst (pc := 93) (v := 0) E.1 E.2.1 dX1_canMend_93 (by decide +kernel) ?_
                    exact em_z (w1 := (fun (u : (Nat → Int32)) => (WZ_HousesOhadr cI cJ mv mr mi (va_up mf 7 u) mg))) E hr hlk g_42 hw43 ⟨(by show 0 ≤ (0 : Int32).toInt; have k_0 : (0 : Int32).toInt = 0 := (by decide +kernel); omega), (by show (0 : Int32).toInt ≤ 1; have k_0 : (0 : Int32).toInt = 0 := (by decide +kernel); omega)⟩ (by decide +kernel) (Nat.le_of_ble_eq_true rfl) (Nat.le_of_ble_eq_true rfl) dX1_canMend_94
          exact loop_19 (Int.toNat ((mi 6).toInt - 0) + 1) 0 0 g_11 _ _ _ ⟨(by show 0 ≤ (0 : Int32).toInt; have k_0 : (0 : Int32).toInt = 0 := (by decide +kernel); omega), (by show (0 : Int32).toInt ≤ (mi 6).toInt; have k_0 : (0 : Int32).toInt = 0 := (by decide +kernel); omega), (by show 0 ≤ (0 : Int32).toInt; have k_0 : (0 : Int32).toInt = 0 := (by decide +kernel); omega), (by show (0 : Int32).toInt ≤ 1; have k_0 : (0 : Int32).toInt = 0 := (by decide +kernel); omega)⟩ (by have k_0 : (0 : Int32).toInt = 0 := (by decide +kernel); have k_1 : (0 : Int32).toInt = 0 := (by decide +kernel); omega) hw13 (lv_sub hl18 [0, 1, 2, 3, 4, 5] rfl)
  exact loop_8 (Int.toNat (10000 - 0) + 1) 0 1 g_4 _ _ _ ⟨(by show 0 ≤ (0 : Int32).toInt; have k_0 : (0 : Int32).toInt = 0 := (by decide +kernel); omega), (by show (0 : Int32).toInt ≤ 10000; have k_0 : (0 : Int32).toInt = 0 := (by decide +kernel); omega), (by show 0 ≤ (1 : Int32).toInt; have k_0 : (1 : Int32).toInt = 1 := (by decide +kernel); omega), (by show (1 : Int32).toInt ≤ 1; have k_0 : (1 : Int32).toInt = 1 := (by decide +kernel); omega)⟩ (by have k_0 : (0 : Int32).toInt = 0 := (by decide +kernel); have k_1 : (1 : Int32).toInt = 1 := (by decide +kernel); omega) hw5 (lv_sub hl7 [0, 1, 2, 3, 4] rfl)
set_option maxHeartbeats 4000000 in
set_option maxRecDepth 100000 in
theorem t_highestBid (l : Launch) (D : va_G) (cI cJ : ClassId) (sz : Nat) (mr : Nat → Nat) (mi : Nat → Int32) (mf : Nat → Nat → Int32) (mg : Nat → Nat → Int64) (z_without : Int32) (mv : Nat → Value) (h0 : 0 ≤ (mi 6).toInt ∧ (mi 6).toInt ≤ 10) : Met l yX1_highestBid (Cond.code yX1_highestBid cX1_highestBid 5 (some .int) :: GW) ({ frames := 1, cells := 0, slots := 0, locals := 40 } : Room) (va_Pc [.ref (mr 0), .int z_without] (PW D cI cJ sz (WZ_HousesO cI cJ mv mr mi mf mg) xT)) (va_Qi (fun (r : Int32) (u : Unit) => ((-1) ≤ r.toInt) ∧ (r.toInt + 1 ≤ (mi 6).toInt)) (fun u => QW D cI cJ (va_A (WZ_HousesO cI cJ mv mr mi mf mg) sz) ((fun (u : Unit) => (WZ_HousesO cI cJ mv mr mi mf mg)) u)) (va_A (WZ_HousesO cI cJ mv mr mi mf mg) sz)) 0 0 (va_A (WZ_HousesO cI cJ mv mr mi mf mg) sz) := by
  refine mk_met (y := yX1_highestBid) (bytes := cX1_highestBid) (maxL := 5) (avs := [.ref (mr 0), .int z_without]) (WS := (WZ_HousesO cI cJ mv mr mi mf mg)) (Qf := fun A => va_Qi (fun (r : Int32) (u : Unit) => ((-1) ≤ r.toInt) ∧ (r.toInt + 1 ≤ (mi 6).toInt)) (fun u => QW D cI cJ A ((fun (u : Unit) => (WZ_HousesO cI cJ mv mr mi mf mg)) u)) A) (by decide) (Nat.le_of_ble_eq_true rfl) ?_
  intro p e s m below meth c A ls E hr hlk hnm hX hw1 hl2
  have hl3 : lv_has ls 5 [(0, .ref (mr 0)), (1, .int z_without)] := hl2
  refine lv_iconst (pc := 0) (v := (-1)) E.1 E.2.1 dX1_highestBid_0 (by decide +kernel) ?_
  refine lv_istore_n (pc := 1) (lv' := [(2, .int (-1)), (0, .ref (mr 0)), (1, .int z_without)]) E.1 E.2.1 dX1_highestBid_1 rfl hl3 (by decide) rfl (fun ls hl4 => ?_)
  refine lv_iconst (pc := 2) (v := 0) E.1 E.2.1 dX1_highestBid_2 (by decide +kernel) ?_
  refine lv_istore_n (pc := 3) (lv' := [(3, .int 0), (2, .int (-1)), (0, .ref (mr 0)), (1, .int z_without)]) E.1 E.2.1 dX1_highestBid_3 rfl hl4 (by decide) rfl (fun ls hl5 => ?_)
  have loop_6 : ∀ (k : Nat) (x_7 : Int32) (x_8 : Int32) (H : Heap) (locs : List Loc) (ls : Array Slot), (0 ≤ x_7.toInt) ∧ (x_7.toInt ≤ (mi 6).toInt) ∧ ((-1) ≤ x_8.toInt) ∧ (x_8.toInt + 1 ≤ (mi 6).toInt) → (mi 6).toInt - x_7.toInt < (k : Int) → WD D A s.heap (WZ_HousesO cI cJ mv mr mi mf mg) H locs → lv_has ls 5 [(3, .int x_7), (2, .int x_8), (0, .ref (mr 0)), (1, .int z_without)] → W p l e ({ frames := 1, cells := 0, slots := 0, locals := 40 } : Room) s m ([.ref (mr 0), .int z_without] : List Value).toArray below meth c H locs 0 0 (MQ below (va_Qi (fun (r : Int32) (u : Unit) => ((-1) ≤ r.toInt) ∧ (r.toInt + 1 ≤ (mi 6).toInt)) (fun u => QW D cI cJ A ((fun (u : Unit) => (WZ_HousesO cI cJ mv mr mi mf mg)) u)) A) ([.ref (mr 0), .int z_without] : List Value).toArray s 0 0 A) (F0 m 4 ls []) := by
    intro k
    induction k with
    | zero =>
      intro x_7 x_8 _ _ _ hinv hm
      obtain ⟨hi_8_0, hi_8_1, hi_8_2, hi_8_3⟩ := hinv
      exact absurd hm (by omega)
    | succ k ih_9 =>
      intro x_7 x_8 H locs ls hinv hm hw10 hl11
      obtain ⟨hi_8_0, hi_8_1, hi_8_2, hi_8_3⟩ := hinv
      refine lv_iload_n (pc := 4) E.1 E.2.1 dX1_highestBid_4 rfl (lv_at hl11 0 rfl) ?_
      refine lv_aload_n (pc := 5) E.1 E.2.1 dX1_highestBid_5 rfl (lv_at hl11 2 rfl) ?_
      refine x_get (pc := 6) (T := TX1) (N := 9) (ci := 1) (v := .int (mi 6)) E hw10 inX1 0 5 q_281 rfl rfl (by decide) rfl rfl dX1_highestBid_6 ?_
      refine lv_icmp_ge (pc := 9) (tgt := 61) E.1 E.2.1 dX1_highestBid_9 (by decide) (fun c_12 => ?_) (fun c_12 => ?_)
      · skip
        have hc_12 := leE (a := (mi 6).toInt) (b := x_7.toInt) rfl rfl c_12
        refine lv_iload_n (pc := 61) E.1 E.2.1 dX1_highestBid_61 rfl (lv_at hl11 1 rfl) ?_
        exact em_i (w1 := (fun (u : Unit) => (WZ_HousesO cI cJ mv mr mi mf mg))) E hr hlk () hw10 ⟨hi_8_2, hi_8_3⟩ (Nat.le_of_ble_eq_true rfl) (Nat.le_of_ble_eq_true rfl) dX1_highestBid_62
      · skip
        have hc_12 := nleE (a := (mi 6).toInt) (b := x_7.toInt) rfl rfl c_12
        refine lv_aload_n (pc := 12) E.1 E.2.1 dX1_highestBid_12 rfl (lv_at hl11 2 rfl) ?_
        refine x_get (pc := 13) (T := TX1) (N := 9) (ci := 1) (v := .ref (mr 3)) E hw10 inX1 0 2 q_271 rfl rfl (by decide) rfl rfl dX1_highestBid_13 ?_
        refine lv_iload_n (pc := 16) E.1 E.2.1 dX1_highestBid_16 rfl (lv_at hl11 0 rfl) ?_
        refine x_iald (pc := 17) (f := (mf 3)) E hw10 3 rfl (inbE (a := x_7.toInt) rfl (by omega)) dX1_highestBid_17 ?_
        refine lv_topi (fun v_13 ev_13 => ?_)
        refine lv_iload_n (pc := 18) E.1 E.2.1 dX1_highestBid_18 rfl (lv_at hl11 1 rfl) ?_
        refine lv_iconst (pc := 19) (v := (-1)) E.1 E.2.1 dX1_highestBid_19 (by decide +kernel) ?_
        refine lv_icmp_ne (pc := 20) (tgt := 27) E.1 E.2.1 dX1_highestBid_20 (by decide) (fun c_14 => ?_) (fun c_14 => ?_)
        · skip
          have hc_14 := neE (a := x_8.toInt) (b := (-1)) rfl (by decide +kernel) c_14
          refine lv_aload_n (pc := 27) E.1 E.2.1 dX1_highestBid_27 rfl (lv_at hl11 2 rfl) ?_
          refine x_get (pc := 28) (T := TX1) (N := 9) (ci := 1) (v := .ref (mr 3)) E hw10 inX1 0 2 q_271 rfl rfl (by decide) rfl rfl dX1_highestBid_28 ?_
          refine lv_iload_n (pc := 31) E.1 E.2.1 dX1_highestBid_31 rfl (lv_at hl11 1 rfl) ?_
          refine x_iald (pc := 32) (f := (mf 3)) E hw10 3 rfl (inbE (a := x_8.toInt) rfl (by omega)) dX1_highestBid_32 ?_
          refine lv_topi (fun v_15 ev_15 => ?_)
          refine lv_icmp_le (pc := 33) (tgt := 40) E.1 E.2.1 dX1_highestBid_33 (by decide) (fun c_16 => ?_) (fun c_16 => ?_)
          · skip
            have hc_16 := leE (a := v_13.toInt) (b := v_15.toInt) rfl rfl c_16
            refine lv_iconst (pc := 40) (v := 0) E.1 E.2.1 dX1_highestBid_40 (by decide +kernel) ?_
            refine lv_istore (pc := 41) (lv' := [(4, .int 0), (3, .int x_7), (2, .int x_8), (0, .ref (mr 0)), (1, .int z_without)]) E.1 E.2.1 dX1_highestBid_41 hl11 (by decide) rfl (fun ls hl17 => ?_)
            refine lv_iload_n (pc := 43) E.1 E.2.1 dX1_highestBid_43 rfl (lv_at hl17 1 rfl) ?_
            refine lv_iload_n (pc := 44) E.1 E.2.1 dX1_highestBid_44 rfl (lv_at hl17 4 rfl) ?_
            refine lv_icmp_eq (pc := 45) (tgt := 55) E.1 E.2.1 dX1_highestBid_45 (by decide) (fun c_18 => ?_) (fun c_18 => ?_)
            · skip
              have hc_18 := eqE (a := x_7.toInt) (b := z_without.toInt) rfl rfl c_18
              obtain ⟨v_19, ev_19⟩ : ∃ z : Int32, x_7 + Int32.ofInt (1) = z := ⟨_, rfl⟩
              have hv_19 : v_19.toInt = x_7.toInt + (1) := by rw [← ev_19]; exact incE rfl (by decide) (by omega)
              refine lv_iinc (pc := 55) (v := v_19) (lv' := [(3, .int v_19), (4, .int 0), (2, .int x_8), (0, .ref (mr 0)), (1, .int z_without)]) E.1 E.2.1 dX1_highestBid_55 hl17 (k := 1) rfl ev_19 (by decide) rfl (fun ls hl20 => ?_)
              refine lv_goto (pc := 58) (tgt := 4) E.1 E.2.1 dX1_highestBid_58 (by decide) ?_
              exact ih_9 v_19 x_8 _ _ _ ⟨(by show 0 ≤ v_19.toInt; omega), (by show v_19.toInt ≤ (mi 6).toInt; omega), hi_8_2, hi_8_3⟩ (by omega) hw10 (lv_sub hl20 [0, 2, 3, 4] rfl)
            · skip
              have hc_18 := neE (a := x_7.toInt) (b := z_without.toInt) rfl rfl c_18
              refine lv_iload (pc := 48) E.1 E.2.1 dX1_highestBid_48 (lv_at hl17 0 rfl) ?_
              refine lv_if_eq (pc := 50) (tgt := 55) E.1 E.2.1 dX1_highestBid_50 (by decide) (fun _ => ?_) (fun c_21 => absurd (meqE (a := 0) (b := 0) (by decide +kernel) (by decide +kernel) (by omega)) c_21)
              obtain ⟨v_22, ev_22⟩ : ∃ z : Int32, x_7 + Int32.ofInt (1) = z := ⟨_, rfl⟩
              have hv_22 : v_22.toInt = x_7.toInt + (1) := by rw [← ev_22]; exact incE rfl (by decide) (by omega)
              refine lv_iinc (pc := 55) (v := v_22) (lv' := [(3, .int v_22), (4, .int 0), (2, .int x_8), (0, .ref (mr 0)), (1, .int z_without)]) E.1 E.2.1 dX1_highestBid_55 hl17 (k := 1) rfl ev_22 (by decide) rfl (fun ls hl23 => ?_)
              refine lv_goto (pc := 58) (tgt := 4) E.1 E.2.1 dX1_highestBid_58 (by decide) ?_
              exact ih_9 v_22 x_8 _ _ _ ⟨(by show 0 ≤ v_22.toInt; omega), (by show v_22.toInt ≤ (mi 6).toInt; omega), hi_8_2, hi_8_3⟩ (by omega) hw10 (lv_sub hl23 [0, 2, 3, 4] rfl)
          · skip
            have hc_16 := nleE (a := v_13.toInt) (b := v_15.toInt) rfl rfl c_16
            refine lv_iconst (pc := 36) (v := 1) E.1 E.2.1 dX1_highestBid_36 (by decide +kernel) ?_
            refine lv_goto (pc := 37) (tgt := 41) E.1 E.2.1 dX1_highestBid_37 (by decide) ?_
            refine lv_istore (pc := 41) (lv' := [(4, .int 1), (3, .int x_7), (2, .int x_8), (0, .ref (mr 0)), (1, .int z_without)]) E.1 E.2.1 dX1_highestBid_41 hl11 (by decide) rfl (fun ls hl24 => ?_)
            refine lv_iload_n (pc := 43) E.1 E.2.1 dX1_highestBid_43 rfl (lv_at hl24 1 rfl) ?_
            refine lv_iload_n (pc := 44) E.1 E.2.1 dX1_highestBid_44 rfl (lv_at hl24 4 rfl) ?_
            refine lv_icmp_eq (pc := 45) (tgt := 55) E.1 E.2.1 dX1_highestBid_45 (by decide) (fun c_25 => ?_) (fun c_25 => ?_)
            · skip
              have hc_25 := eqE (a := x_7.toInt) (b := z_without.toInt) rfl rfl c_25
              obtain ⟨v_26, ev_26⟩ : ∃ z : Int32, x_7 + Int32.ofInt (1) = z := ⟨_, rfl⟩
              have hv_26 : v_26.toInt = x_7.toInt + (1) := by rw [← ev_26]; exact incE rfl (by decide) (by omega)
              refine lv_iinc (pc := 55) (v := v_26) (lv' := [(3, .int v_26), (4, .int 1), (2, .int x_8), (0, .ref (mr 0)), (1, .int z_without)]) E.1 E.2.1 dX1_highestBid_55 hl24 (k := 1) rfl ev_26 (by decide) rfl (fun ls hl27 => ?_)
              refine lv_goto (pc := 58) (tgt := 4) E.1 E.2.1 dX1_highestBid_58 (by decide) ?_
              exact ih_9 v_26 x_8 _ _ _ ⟨(by show 0 ≤ v_26.toInt; omega), (by show v_26.toInt ≤ (mi 6).toInt; omega), hi_8_2, hi_8_3⟩ (by omega) hw10 (lv_sub hl27 [0, 2, 3, 4] rfl)
            · skip
              have hc_25 := neE (a := x_7.toInt) (b := z_without.toInt) rfl rfl c_25
              refine lv_iload (pc := 48) E.1 E.2.1 dX1_highestBid_48 (lv_at hl24 0 rfl) ?_
              refine lv_if_eq (pc := 50) (tgt := 55) E.1 E.2.1 dX1_highestBid_50 (by decide) (fun c_28 => absurd c_28 (mneE (a := 1) (b := 0) (by decide +kernel) (by decide +kernel) (by omega))) (fun _ => ?_)
              refine lv_iload_n (pc := 53) E.1 E.2.1 dX1_highestBid_53 rfl (lv_at hl24 1 rfl) ?_
              refine lv_istore_n (pc := 54) (lv' := [(2, .int x_7), (4, .int 1), (3, .int x_7), (0, .ref (mr 0)), (1, .int z_without)]) E.1 E.2.1 dX1_highestBid_54 rfl hl24 (by decide) rfl (fun ls hl29 => ?_)
              obtain ⟨v_30, ev_30⟩ : ∃ z : Int32, x_7 + Int32.ofInt (1) = z := ⟨_, rfl⟩
              have hv_30 : v_30.toInt = x_7.toInt + (1) := by rw [← ev_30]; exact incE rfl (by decide) (by omega)
              refine lv_iinc (pc := 55) (v := v_30) (lv' := [(3, .int v_30), (2, .int x_7), (4, .int 1), (0, .ref (mr 0)), (1, .int z_without)]) E.1 E.2.1 dX1_highestBid_55 hl29 (k := 2) rfl ev_30 (by decide) rfl (fun ls hl31 => ?_)
              refine lv_goto (pc := 58) (tgt := 4) E.1 E.2.1 dX1_highestBid_58 (by decide) ?_
              exact ih_9 v_30 x_7 _ _ _ ⟨(by show 0 ≤ v_30.toInt; omega), (by show v_30.toInt ≤ (mi 6).toInt; omega), (by show (-1) ≤ x_7.toInt; omega), (by show x_7.toInt + 1 ≤ (mi 6).toInt; omega)⟩ (by omega) hw10 (lv_sub hl31 [0, 1, 3, 4] rfl)
        · skip
          have hc_14 := eqE (a := x_8.toInt) (b := (-1)) rfl (by decide +kernel) c_14
          refine lv_iconst (pc := 23) (v := 0) E.1 E.2.1 dX1_highestBid_23 (by decide +kernel) ?_
          refine lv_goto (pc := 24) (tgt := 33) E.1 E.2.1 dX1_highestBid_24 (by decide) ?_
          refine lv_icmp_le (pc := 33) (tgt := 40) E.1 E.2.1 dX1_highestBid_33 (by decide) (fun c_32 => ?_) (fun c_32 => ?_)
          · skip
            have hc_32 := leE (a := v_13.toInt) (b := 0) rfl (by decide +kernel) c_32
            refine lv_iconst (pc := 40) (v := 0) E.1 E.2.1 dX1_highestBid_40 (by decide +kernel) ?_
            refine lv_istore (pc := 41) (lv' := [(4, .int 0), (3, .int x_7), (2, .int x_8), (0, .ref (mr 0)), (1, .int z_without)]) E.1 E.2.1 dX1_highestBid_41 hl11 (by decide) rfl (fun ls hl33 => ?_)
            refine lv_iload_n (pc := 43) E.1 E.2.1 dX1_highestBid_43 rfl (lv_at hl33 1 rfl) ?_
            refine lv_iload_n (pc := 44) E.1 E.2.1 dX1_highestBid_44 rfl (lv_at hl33 4 rfl) ?_
            refine lv_icmp_eq (pc := 45) (tgt := 55) E.1 E.2.1 dX1_highestBid_45 (by decide) (fun c_34 => ?_) (fun c_34 => ?_)
            · skip
              have hc_34 := eqE (a := x_7.toInt) (b := z_without.toInt) rfl rfl c_34
              obtain ⟨v_35, ev_35⟩ : ∃ z : Int32, x_7 + Int32.ofInt (1) = z := ⟨_, rfl⟩
              have hv_35 : v_35.toInt = x_7.toInt + (1) := by rw [← ev_35]; exact incE rfl (by decide) (by omega)
              refine lv_iinc (pc := 55) (v := v_35) (lv' := [(3, .int v_35), (4, .int 0), (2, .int x_8), (0, .ref (mr 0)), (1, .int z_without)]) E.1 E.2.1 dX1_highestBid_55 hl33 (k := 1) rfl ev_35 (by decide) rfl (fun ls hl36 => ?_)
              refine lv_goto (pc := 58) (tgt := 4) E.1 E.2.1 dX1_highestBid_58 (by decide) ?_
              exact ih_9 v_35 x_8 _ _ _ ⟨(by show 0 ≤ v_35.toInt; omega), (by show v_35.toInt ≤ (mi 6).toInt; omega), hi_8_2, hi_8_3⟩ (by omega) hw10 (lv_sub hl36 [0, 2, 3, 4] rfl)
            · skip
              have hc_34 := neE (a := x_7.toInt) (b := z_without.toInt) rfl rfl c_34
              refine lv_iload (pc := 48) E.1 E.2.1 dX1_highestBid_48 (lv_at hl33 0 rfl) ?_
              refine lv_if_eq (pc := 50) (tgt := 55) E.1 E.2.1 dX1_highestBid_50 (by decide) (fun _ => ?_) (fun c_37 => absurd (meqE (a := 0) (b := 0) (by decide +kernel) (by decide +kernel) (by omega)) c_37)
              obtain ⟨v_38, ev_38⟩ : ∃ z : Int32, x_7 + Int32.ofInt (1) = z := ⟨_, rfl⟩
              have hv_38 : v_38.toInt = x_7.toInt + (1) := by rw [← ev_38]; exact incE rfl (by decide) (by omega)
              refine lv_iinc (pc := 55) (v := v_38) (lv' := [(3, .int v_38), (4, .int 0), (2, .int x_8), (0, .ref (mr 0)), (1, .int z_without)]) E.1 E.2.1 dX1_highestBid_55 hl33 (k := 1) rfl ev_38 (by decide) rfl (fun ls hl39 => ?_)
              refine lv_goto (pc := 58) (tgt := 4) E.1 E.2.1 dX1_highestBid_58 (by decide) ?_
              exact ih_9 v_38 x_8 _ _ _ ⟨(by show 0 ≤ v_38.toInt; omega), (by show v_38.toInt ≤ (mi 6).toInt; omega), hi_8_2, hi_8_3⟩ (by omega) hw10 (lv_sub hl39 [0, 2, 3, 4] rfl)
          · skip
            have hc_32 := nleE (a := v_13.toInt) (b := 0) rfl (by decide +kernel) c_32
            refine lv_iconst (pc := 36) (v := 1) E.1 E.2.1 dX1_highestBid_36 (by decide +kernel) ?_
            refine lv_goto (pc := 37) (tgt := 41) E.1 E.2.1 dX1_highestBid_37 (by decide) ?_
            refine lv_istore (pc := 41) (lv' := [(4, .int 1), (3, .int x_7), (2, .int x_8), (0, .ref (mr 0)), (1, .int z_without)]) E.1 E.2.1 dX1_highestBid_41 hl11 (by decide) rfl (fun ls hl40 => ?_)
            refine lv_iload_n (pc := 43) E.1 E.2.1 dX1_highestBid_43 rfl (lv_at hl40 1 rfl) ?_
            refine lv_iload_n (pc := 44) E.1 E.2.1 dX1_highestBid_44 rfl (lv_at hl40 4 rfl) ?_
            refine lv_icmp_eq (pc := 45) (tgt := 55) E.1 E.2.1 dX1_highestBid_45 (by decide) (fun c_41 => ?_) (fun c_41 => ?_)
            · skip
              have hc_41 := eqE (a := x_7.toInt) (b := z_without.toInt) rfl rfl c_41
              obtain ⟨v_42, ev_42⟩ : ∃ z : Int32, x_7 + Int32.ofInt (1) = z := ⟨_, rfl⟩
              have hv_42 : v_42.toInt = x_7.toInt + (1) := by rw [← ev_42]; exact incE rfl (by decide) (by omega)
              refine lv_iinc (pc := 55) (v := v_42) (lv' := [(3, .int v_42), (4, .int 1), (2, .int x_8), (0, .ref (mr 0)), (1, .int z_without)]) E.1 E.2.1 dX1_highestBid_55 hl40 (k := 1) rfl ev_42 (by decide) rfl (fun ls hl43 => ?_)
              refine lv_goto (pc := 58) (tgt := 4) E.1 E.2.1 dX1_highestBid_58 (by decide) ?_
              exact ih_9 v_42 x_8 _ _ _ ⟨(by show 0 ≤ v_42.toInt; omega), (by show v_42.toInt ≤ (mi 6).toInt; omega), hi_8_2, hi_8_3⟩ (by omega) hw10 (lv_sub hl43 [0, 2, 3, 4] rfl)
            · skip
              have hc_41 := neE (a := x_7.toInt) (b := z_without.toInt) rfl rfl c_41
              refine lv_iload (pc := 48) E.1 E.2.1 dX1_highestBid_48 (lv_at hl40 0 rfl) ?_
              refine lv_if_eq (pc := 50) (tgt := 55) E.1 E.2.1 dX1_highestBid_50 (by decide) (fun c_44 => absurd c_44 (mneE (a := 1) (b := 0) (by decide +kernel) (by decide +kernel) (by omega))) (fun _ => ?_)
              refine lv_iload_n (pc := 53) E.1 E.2.1 dX1_highestBid_53 rfl (lv_at hl40 1 rfl) ?_
              refine lv_istore_n (pc := 54) (lv' := [(2, .int x_7), (4, .int 1), (3, .int x_7), (0, .ref (mr 0)), (1, .int z_without)]) E.1 E.2.1 dX1_highestBid_54 rfl hl40 (by decide) rfl (fun ls hl45 => ?_)
              obtain ⟨v_46, ev_46⟩ : ∃ z : Int32, x_7 + Int32.ofInt (1) = z := ⟨_, rfl⟩
              have hv_46 : v_46.toInt = x_7.toInt + (1) := by rw [← ev_46]; exact incE rfl (by decide) (by omega)
              refine lv_iinc (pc := 55) (v := v_46) (lv' := [(3, .int v_46), (2, .int x_7), (4, .int 1), (0, .ref (mr 0)), (1, .int z_without)]) E.1 E.2.1 dX1_highestBid_55 hl45 (k := 2) rfl ev_46 (by decide) rfl (fun ls hl47 => ?_)
              refine lv_goto (pc := 58) (tgt := 4) E.1 E.2.1 dX1_highestBid_58 (by decide) ?_
              exact ih_9 v_46 x_7 _ _ _ ⟨(by show 0 ≤ v_46.toInt; omega), (by show v_46.toInt ≤ (mi 6).toInt; omega), (by show (-1) ≤ x_7.toInt; omega), (by show x_7.toInt + 1 ≤ (mi 6).toInt; omega)⟩ (by omega) hw10 (lv_sub hl47 [0, 1, 3, 4] rfl)
  exact loop_6 (Int.toNat ((mi 6).toInt - 0) + 1) 0 (-1) _ _ _ ⟨(by show 0 ≤ (0 : Int32).toInt; have k_0 : (0 : Int32).toInt = 0 := (by decide +kernel); omega), (by show (0 : Int32).toInt ≤ (mi 6).toInt; have k_0 : (0 : Int32).toInt = 0 := (by decide +kernel); omega), (by show (-1) ≤ ((-1) : Int32).toInt; have k_0 : ((-1) : Int32).toInt = -1 := (by decide +kernel); omega), (by show ((-1) : Int32).toInt + 1 ≤ (mi 6).toInt; have k_0 : ((-1) : Int32).toInt = -1 := (by decide +kernel); omega)⟩ (by have k_0 : (0 : Int32).toInt = 0 := (by decide +kernel); have k_1 : ((-1) : Int32).toInt = -1 := (by decide +kernel); omega) hw1 (lv_sub hl5 [0, 1, 2, 3] rfl)
set_option maxHeartbeats 4000000 in
set_option maxRecDepth 100000 in
theorem t_isBetween (l : Launch) (D : va_G) (cI cJ : ClassId) (sz : Nat) (mr : Nat → Nat) (mi : Nat → Int32) (mf : Nat → Nat → Int32) (mg : Nat → Nat → Int64) (z_from : Int32) (z_to : Int32) (z_third : Int32)  : Met l yX1_isBetween (Cond.code yX1_isBetween cX1_isBetween 9 (some .boolean) :: GW) ({ frames := 1, cells := 0, slots := 0, locals := 40 } : Room) (va_Pc [.int z_from, .int z_to, .int z_third] (PW D cI cJ sz (WZ_EbO cI cJ mr mi mf mg) xT)) (va_Qi (fun (r : Int32) (u : Unit) => (0 ≤ r.toInt) ∧ (r.toInt ≤ 1)) (fun u => QW D cI cJ (va_A (WZ_EbO cI cJ mr mi mf mg) sz) ((fun (u : Unit) => (WZ_EbO cI cJ mr mi mf mg)) u)) (va_A (WZ_EbO cI cJ mr mi mf mg) sz)) 0 0 (va_A (WZ_EbO cI cJ mr mi mf mg) sz) := by
  refine mk_met (y := yX1_isBetween) (bytes := cX1_isBetween) (maxL := 9) (avs := [.int z_from, .int z_to, .int z_third]) (WS := (WZ_EbO cI cJ mr mi mf mg)) (Qf := fun A => va_Qi (fun (r : Int32) (u : Unit) => (0 ≤ r.toInt) ∧ (r.toInt ≤ 1)) (fun u => QW D cI cJ A ((fun (u : Unit) => (WZ_EbO cI cJ mr mi mf mg)) u)) A) (by decide) (Nat.le_of_ble_eq_true rfl) ?_
  intro p e s m below meth c A ls E hr hlk hnm hX hw1 hl2
  have hl3 : lv_has ls 9 [(0, .int z_from), (1, .int z_to), (2, .int z_third)] := hl2
  refine lv_iload_n (pc := 0) E.1 E.2.1 dX1_isBetween_0 rfl (lv_at hl3 1 rfl) ?_
  refine lv_bipush (pc := 1) (v := 7) E.1 E.2.1 dX1_isBetween_1 (by decide +kernel) ?_
  refine lv_iand (pc := 3) E.1 E.2.1 dX1_isBetween_3 ?_
  refine lv_topi (fun v_4 ev_4 => ?_)
  refine lv_iload_n (pc := 4) E.1 E.2.1 dX1_isBetween_4 rfl (lv_at hl3 0 rfl) ?_
  refine lv_bipush (pc := 5) (v := 7) E.1 E.2.1 dX1_isBetween_5 (by decide +kernel) ?_
  refine lv_iand (pc := 7) E.1 E.2.1 dX1_isBetween_7 ?_
  refine lv_topi (fun v_5 ev_5 => ?_)
  refine lv_isub (pc := 8) E.1 E.2.1 dX1_isBetween_8 ?_
  refine lv_topi (fun v_6 ev_6 => ?_)
  refine lv_istore_n (pc := 9) (lv' := [(3, .int v_6), (0, .int z_from), (1, .int z_to), (2, .int z_third)]) E.1 E.2.1 dX1_isBetween_9 rfl hl3 (by decide) rfl (fun ls hl7 => ?_)
  refine lv_iload_n (pc := 10) E.1 E.2.1 dX1_isBetween_10 rfl (lv_at hl7 2 rfl) ?_
  refine lv_iconst (pc := 11) (v := 3) E.1 E.2.1 dX1_isBetween_11 (by decide +kernel) ?_
  refine lv_ishr (pc := 12) E.1 E.2.1 dX1_isBetween_12 ?_
  refine lv_topi (fun v_8 ev_8 => ?_)
  refine lv_iload_n (pc := 13) E.1 E.2.1 dX1_isBetween_13 rfl (lv_at hl7 1 rfl) ?_
  refine lv_iconst (pc := 14) (v := 3) E.1 E.2.1 dX1_isBetween_14 (by decide +kernel) ?_
  refine lv_ishr (pc := 15) E.1 E.2.1 dX1_isBetween_15 ?_
  refine lv_topi (fun v_9 ev_9 => ?_)
  refine lv_isub (pc := 16) E.1 E.2.1 dX1_isBetween_16 ?_
  refine lv_topi (fun v_10 ev_10 => ?_)
  refine lv_istore (pc := 17) (lv' := [(4, .int v_10), (3, .int v_6), (0, .int z_from), (1, .int z_to), (2, .int z_third)]) E.1 E.2.1 dX1_isBetween_17 hl7 (by decide) rfl (fun ls hl11 => ?_)
  refine lv_iload_n (pc := 19) E.1 E.2.1 dX1_isBetween_19 rfl (lv_at hl11 4 rfl) ?_
  refine lv_bipush (pc := 20) (v := 7) E.1 E.2.1 dX1_isBetween_20 (by decide +kernel) ?_
  refine lv_iand (pc := 22) E.1 E.2.1 dX1_isBetween_22 ?_
  refine lv_topi (fun v_12 ev_12 => ?_)
  refine lv_iload_n (pc := 23) E.1 E.2.1 dX1_isBetween_23 rfl (lv_at hl11 2 rfl) ?_
  refine lv_bipush (pc := 24) (v := 7) E.1 E.2.1 dX1_isBetween_24 (by decide +kernel) ?_
  refine lv_iand (pc := 26) E.1 E.2.1 dX1_isBetween_26 ?_
  refine lv_topi (fun v_13 ev_13 => ?_)
  refine lv_isub (pc := 27) E.1 E.2.1 dX1_isBetween_27 ?_
  refine lv_topi (fun v_14 ev_14 => ?_)
  refine lv_istore (pc := 28) (lv' := [(5, .int v_14), (4, .int v_10), (3, .int v_6), (0, .int z_from), (1, .int z_to), (2, .int z_third)]) E.1 E.2.1 dX1_isBetween_28 hl11 (by decide) rfl (fun ls hl15 => ?_)
  refine lv_iload_n (pc := 30) E.1 E.2.1 dX1_isBetween_30 rfl (lv_at hl15 5 rfl) ?_
  refine lv_iconst (pc := 31) (v := 3) E.1 E.2.1 dX1_isBetween_31 (by decide +kernel) ?_
  refine lv_ishr (pc := 32) E.1 E.2.1 dX1_isBetween_32 ?_
  refine lv_topi (fun v_16 ev_16 => ?_)
  refine lv_iload_n (pc := 33) E.1 E.2.1 dX1_isBetween_33 rfl (lv_at hl15 3 rfl) ?_
  refine lv_iconst (pc := 34) (v := 3) E.1 E.2.1 dX1_isBetween_34 (by decide +kernel) ?_
  refine lv_ishr (pc := 35) E.1 E.2.1 dX1_isBetween_35 ?_
  refine lv_topi (fun v_17 ev_17 => ?_)
  refine lv_isub (pc := 36) E.1 E.2.1 dX1_isBetween_36 ?_
  refine lv_topi (fun v_18 ev_18 => ?_)
  refine lv_istore (pc := 37) (lv' := [(6, .int v_18), (5, .int v_14), (4, .int v_10), (3, .int v_6), (0, .int z_from), (1, .int z_to), (2, .int z_third)]) E.1 E.2.1 dX1_isBetween_37 hl15 (by decide) rfl (fun ls hl19 => ?_)
  refine lv_iload_n (pc := 39) E.1 E.2.1 dX1_isBetween_39 rfl (lv_at hl19 3 rfl) ?_
  refine lv_iload (pc := 40) E.1 E.2.1 dX1_isBetween_40 (lv_at hl19 1 rfl) ?_
  refine lv_imul (pc := 42) E.1 E.2.1 dX1_isBetween_42 ?_
  refine lv_topi (fun v_20 ev_20 => ?_)
  refine lv_iload (pc := 43) E.1 E.2.1 dX1_isBetween_43 (lv_at hl19 2 rfl) ?_
  refine lv_iload (pc := 45) E.1 E.2.1 dX1_isBetween_45 (lv_at hl19 0 rfl) ?_
  refine lv_imul (pc := 47) E.1 E.2.1 dX1_isBetween_47 ?_
  refine lv_topi (fun v_21 ev_21 => ?_)
  refine lv_iadd (pc := 48) E.1 E.2.1 dX1_isBetween_48 ?_
  refine lv_topi (fun v_22 ev_22 => ?_)
  refine lv_istore (pc := 49) (lv' := [(7, .int v_22), (6, .int v_18), (5, .int v_14), (4, .int v_10), (3, .int v_6), (0, .int z_from), (1, .int z_to), (2, .int z_third)]) E.1 E.2.1 dX1_isBetween_49 hl19 (by decide) rfl (fun ls hl23 => ?_)
  refine lv_iload (pc := 51) E.1 E.2.1 dX1_isBetween_51 (lv_at hl23 0 rfl) ?_
  refine lv_if_le (pc := 53) (tgt := 74) E.1 E.2.1 dX1_isBetween_53 (by decide) (fun c_24 => ?_) (fun c_24 => ?_)
  · skip
    have hc_24 := leE (a := v_22.toInt) (b := 0) rfl (by decide +kernel) c_24
    refine lv_iconst (pc := 74) (v := 0) E.1 E.2.1 dX1_isBetween_74 (by decide +kernel) ?_
    refine lv_istore (pc := 75) (lv' := [(8, .int 0), (7, .int v_22), (6, .int v_18), (5, .int v_14), (4, .int v_10), (3, .int v_6), (0, .int z_from), (1, .int z_to), (2, .int z_third)]) E.1 E.2.1 dX1_isBetween_75 hl23 (by decide) rfl (fun ls hl25 => ?_)
    refine lv_iload (pc := 77) E.1 E.2.1 dX1_isBetween_77 (lv_at hl25 0 rfl) ?_
    refine lv_if_eq (pc := 79) (tgt := 98) E.1 E.2.1 dX1_isBetween_79 (by decide) (fun _ => ?_) (fun c_26 => absurd (meqE (a := 0) (b := 0) (by decide +kernel) (by decide +kernel) (by omega)) c_26)
    refine lv_iconst (pc := 98) (v := 0) E.1 E.2.1 dX1_isBetween_98 (by decide +kernel) ?_
    exact em_z (w1 := (fun (u : Unit) => (WZ_EbO cI cJ mr mi mf mg))) E hr hlk () hw1 ⟨(by show 0 ≤ (0 : Int32).toInt; have k_0 : (0 : Int32).toInt = 0 := (by decide +kernel); omega), (by show (0 : Int32).toInt ≤ 1; have k_0 : (0 : Int32).toInt = 0 := (by decide +kernel); omega)⟩ (by decide +kernel) (Nat.le_of_ble_eq_true rfl) (Nat.le_of_ble_eq_true rfl) dX1_isBetween_99
  · skip
    have hc_24 := nleE (a := v_22.toInt) (b := 0) rfl (by decide +kernel) c_24
    refine lv_iload (pc := 56) E.1 E.2.1 dX1_isBetween_56 (lv_at hl23 0 rfl) ?_
    refine lv_iload_n (pc := 58) E.1 E.2.1 dX1_isBetween_58 rfl (lv_at hl23 4 rfl) ?_
    refine lv_iload_n (pc := 59) E.1 E.2.1 dX1_isBetween_59 rfl (lv_at hl23 4 rfl) ?_
    refine lv_imul (pc := 60) E.1 E.2.1 dX1_isBetween_60 ?_
    refine lv_topi (fun v_27 ev_27 => ?_)
    refine lv_iload (pc := 61) E.1 E.2.1 dX1_isBetween_61 (lv_at hl23 3 rfl) ?_
    refine lv_iload (pc := 63) E.1 E.2.1 dX1_isBetween_63 (lv_at hl23 3 rfl) ?_
    refine lv_imul (pc := 65) E.1 E.2.1 dX1_isBetween_65 ?_
    refine lv_topi (fun v_28 ev_28 => ?_)
    refine lv_iadd (pc := 66) E.1 E.2.1 dX1_isBetween_66 ?_
    refine lv_topi (fun v_29 ev_29 => ?_)
    refine lv_icmp_ge (pc := 67) (tgt := 74) E.1 E.2.1 dX1_isBetween_67 (by decide) (fun c_30 => ?_) (fun c_30 => ?_)
    · skip
      have hc_30 := leE (a := v_29.toInt) (b := v_22.toInt) rfl rfl c_30
      refine lv_iconst (pc := 74) (v := 0) E.1 E.2.1 dX1_isBetween_74 (by decide +kernel) ?_
      refine lv_istore (pc := 75) (lv' := [(8, .int 0), (7, .int v_22), (6, .int v_18), (5, .int v_14), (4, .int v_10), (3, .int v_6), (0, .int z_from), (1, .int z_to), (2, .int z_third)]) E.1 E.2.1 dX1_isBetween_75 hl23 (by decide) rfl (fun ls hl31 => ?_)
      refine lv_iload (pc := 77) E.1 E.2.1 dX1_isBetween_77 (lv_at hl31 0 rfl) ?_
      refine lv_if_eq (pc := 79) (tgt := 98) E.1 E.2.1 dX1_isBetween_79 (by decide) (fun _ => ?_) (fun c_32 => absurd (meqE (a := 0) (b := 0) (by decide +kernel) (by decide +kernel) (by omega)) c_32)
      refine lv_iconst (pc := 98) (v := 0) E.1 E.2.1 dX1_isBetween_98 (by decide +kernel) ?_
      exact em_z (w1 := (fun (u : Unit) => (WZ_EbO cI cJ mr mi mf mg))) E hr hlk () hw1 ⟨(by show 0 ≤ (0 : Int32).toInt; have k_0 : (0 : Int32).toInt = 0 := (by decide +kernel); omega), (by show (0 : Int32).toInt ≤ 1; have k_0 : (0 : Int32).toInt = 0 := (by decide +kernel); omega)⟩ (by decide +kernel) (Nat.le_of_ble_eq_true rfl) (Nat.le_of_ble_eq_true rfl) dX1_isBetween_99
    · skip
      have hc_30 := nleE (a := v_29.toInt) (b := v_22.toInt) rfl rfl c_30
      refine lv_iconst (pc := 70) (v := 1) E.1 E.2.1 dX1_isBetween_70 (by decide +kernel) ?_
      refine lv_goto (pc := 71) (tgt := 75) E.1 E.2.1 dX1_isBetween_71 (by decide) ?_
      refine lv_istore (pc := 75) (lv' := [(8, .int 1), (7, .int v_22), (6, .int v_18), (5, .int v_14), (4, .int v_10), (3, .int v_6), (0, .int z_from), (1, .int z_to), (2, .int z_third)]) E.1 E.2.1 dX1_isBetween_75 hl23 (by decide) rfl (fun ls hl33 => ?_)
      refine lv_iload (pc := 77) E.1 E.2.1 dX1_isBetween_77 (lv_at hl33 0 rfl) ?_
      refine lv_if_eq (pc := 79) (tgt := 98) E.1 E.2.1 dX1_isBetween_79 (by decide) (fun c_34 => absurd c_34 (mneE (a := 1) (b := 0) (by decide +kernel) (by decide +kernel) (by omega))) (fun _ => ?_)
      refine lv_iload_n (pc := 82) E.1 E.2.1 dX1_isBetween_82 rfl (lv_at hl33 5 rfl) ?_
      refine lv_iload (pc := 83) E.1 E.2.1 dX1_isBetween_83 (lv_at hl33 2 rfl) ?_
      refine lv_imul (pc := 85) E.1 E.2.1 dX1_isBetween_85 ?_
      refine lv_topi (fun v_35 ev_35 => ?_)
      refine lv_iload (pc := 86) E.1 E.2.1 dX1_isBetween_86 (lv_at hl33 4 rfl) ?_
      refine lv_iload (pc := 88) E.1 E.2.1 dX1_isBetween_88 (lv_at hl33 3 rfl) ?_
      refine lv_imul (pc := 90) E.1 E.2.1 dX1_isBetween_90 ?_
      refine lv_topi (fun v_36 ev_36 => ?_)
      refine lv_icmp_ne (pc := 91) (tgt := 98) E.1 E.2.1 dX1_isBetween_91 (by decide) (fun c_37 => ?_) (fun c_37 => ?_)
      · skip
        have hc_37 := neE (a := v_35.toInt) (b := v_36.toInt) rfl rfl c_37
        refine lv_iconst (pc := 98) (v := 0) E.1 E.2.1 dX1_isBetween_98 (by decide +kernel) ?_
        exact em_z (w1 := (fun (u : Unit) => (WZ_EbO cI cJ mr mi mf mg))) E hr hlk () hw1 ⟨(by show 0 ≤ (0 : Int32).toInt; have k_0 : (0 : Int32).toInt = 0 := (by decide +kernel); omega), (by show (0 : Int32).toInt ≤ 1; have k_0 : (0 : Int32).toInt = 0 := (by decide +kernel); omega)⟩ (by decide +kernel) (Nat.le_of_ble_eq_true rfl) (Nat.le_of_ble_eq_true rfl) dX1_isBetween_99
      · skip
        have hc_37 := eqE (a := v_35.toInt) (b := v_36.toInt) rfl rfl c_37
        refine lv_iconst (pc := 94) (v := 1) E.1 E.2.1 dX1_isBetween_94 (by decide +kernel) ?_
        refine lv_goto (pc := 95) (tgt := 99) E.1 E.2.1 dX1_isBetween_95 (by decide) ?_
        exact em_z (w1 := (fun (u : Unit) => (WZ_EbO cI cJ mr mi mf mg))) E hr hlk () hw1 ⟨(by show 0 ≤ (1 : Int32).toInt; have k_0 : (1 : Int32).toInt = 1 := (by decide +kernel); omega), (by show (1 : Int32).toInt ≤ 1; have k_0 : (1 : Int32).toInt = 1 := (by decide +kernel); omega)⟩ (by decide +kernel) (Nat.le_of_ble_eq_true rfl) (Nat.le_of_ble_eq_true rfl) dX1_isBetween_99
set_option maxHeartbeats 4000000 in
set_option maxRecDepth 100000 in
theorem t_sees (l : Launch) (D : va_G) (cI cJ : ClassId) (sz : Nat) (mr : Nat → Nat) (mi : Nat → Int32) (mf : Nat → Nat → Int32) (mg : Nat → Nat → Int64) (z_from : Int32) (z_to : Int32) (mv : Nat → Value) (h0 : 0 ≤ (mi 6).toInt ∧ (mi 6).toInt ≤ 10) : Met l yX1_sees (Cond.code yX1_sees cX1_sees 5 (some .boolean) :: GW) ({ frames := 2, cells := 0, slots := 0, locals := 68 } : Room) (va_Pc [.ref (mr 0), .int z_from, .int z_to] (PW D cI cJ sz (WZ_HousesO cI cJ mv mr mi mf mg) xT)) (va_Qi (fun (r : Int32) (u : Unit) => (0 ≤ r.toInt) ∧ (r.toInt ≤ 1)) (fun u => QW D cI cJ (va_A (WZ_HousesO cI cJ mv mr mi mf mg) sz) ((fun (u : Unit) => (WZ_HousesO cI cJ mv mr mi mf mg)) u)) (va_A (WZ_HousesO cI cJ mv mr mi mf mg) sz)) 0 0 (va_A (WZ_HousesO cI cJ mv mr mi mf mg) sz) := by
  refine mk_met (y := yX1_sees) (bytes := cX1_sees) (maxL := 5) (avs := [.ref (mr 0), .int z_from, .int z_to]) (WS := (WZ_HousesO cI cJ mv mr mi mf mg)) (Qf := fun A => va_Qi (fun (r : Int32) (u : Unit) => (0 ≤ r.toInt) ∧ (r.toInt ≤ 1)) (fun u => QW D cI cJ A ((fun (u : Unit) => (WZ_HousesO cI cJ mv mr mi mf mg)) u)) A) (by decide) (Nat.le_of_ble_eq_true rfl) ?_
  intro p e s m below meth c A ls E hr hlk hnm hX hw1 hl2
  have hl3 : lv_has ls 5 [(0, .ref (mr 0)), (1, .int z_from), (2, .int z_to)] := hl2
  refine lv_iload_n (pc := 0) E.1 E.2.1 dX1_sees_0 rfl (lv_at hl3 1 rfl) ?_
  refine lv_bipush (pc := 1) (v := 7) E.1 E.2.1 dX1_sees_1 (by decide +kernel) ?_
  refine lv_iand (pc := 3) E.1 E.2.1 dX1_sees_3 ?_
  refine lv_topi (fun v_4 ev_4 => ?_)
  refine lv_iload_n (pc := 4) E.1 E.2.1 dX1_sees_4 rfl (lv_at hl3 2 rfl) ?_
  refine lv_bipush (pc := 5) (v := 7) E.1 E.2.1 dX1_sees_5 (by decide +kernel) ?_
  refine lv_iand (pc := 7) E.1 E.2.1 dX1_sees_7 ?_
  refine lv_topi (fun v_5 ev_5 => ?_)
  refine lv_isub (pc := 8) E.1 E.2.1 dX1_sees_8 ?_
  refine lv_topi (fun v_6 ev_6 => ?_)
  refine x_abs (pc := 9) E hl3.1 q_1123 q_1124 q_167 q_1125 (Nat.le_of_ble_eq_true rfl) (Nat.le_of_ble_eq_true rfl) (Nat.le_of_ble_eq_true rfl) (Nat.le_of_ble_eq_true rfl) dX1_sees_9 (fun v_7 => ?_)
  refine lv_iload_n (pc := 12) E.1 E.2.1 dX1_sees_12 rfl (lv_at hl3 1 rfl) ?_
  refine lv_iconst (pc := 13) (v := 3) E.1 E.2.1 dX1_sees_13 (by decide +kernel) ?_
  refine lv_ishr (pc := 14) E.1 E.2.1 dX1_sees_14 ?_
  refine lv_topi (fun v_8 ev_8 => ?_)
  refine lv_iload_n (pc := 15) E.1 E.2.1 dX1_sees_15 rfl (lv_at hl3 2 rfl) ?_
  refine lv_iconst (pc := 16) (v := 3) E.1 E.2.1 dX1_sees_16 (by decide +kernel) ?_
  refine lv_ishr (pc := 17) E.1 E.2.1 dX1_sees_17 ?_
  refine lv_topi (fun v_9 ev_9 => ?_)
  refine lv_isub (pc := 18) E.1 E.2.1 dX1_sees_18 ?_
  refine lv_topi (fun v_10 ev_10 => ?_)
  refine x_abs (pc := 19) E hl3.1 q_1123 q_1124 q_167 q_1125 (Nat.le_of_ble_eq_true rfl) (Nat.le_of_ble_eq_true rfl) (Nat.le_of_ble_eq_true rfl) (Nat.le_of_ble_eq_true rfl) dX1_sees_19 (fun v_11 => ?_)
  refine lv_iadd (pc := 22) E.1 E.2.1 dX1_sees_22 ?_
  refine lv_topi (fun v_12 ev_12 => ?_)
  refine lv_istore_n (pc := 23) (lv' := [(3, .int v_12), (0, .ref (mr 0)), (1, .int z_from), (2, .int z_to)]) E.1 E.2.1 dX1_sees_23 rfl hl3 (by decide) rfl (fun ls hl13 => ?_)
  refine lv_iload_n (pc := 24) E.1 E.2.1 dX1_sees_24 rfl (lv_at hl13 0 rfl) ?_
  refine lv_iconst (pc := 25) (v := 5) E.1 E.2.1 dX1_sees_25 (by decide +kernel) ?_
  refine lv_icmp_le (pc := 26) (tgt := 31) E.1 E.2.1 dX1_sees_26 (by decide) (fun c_14 => ?_) (fun c_14 => ?_)
  · skip
    have hc_14 := leE (a := v_12.toInt) (b := 5) rfl (by decide +kernel) c_14
    refine lv_iconst (pc := 31) (v := 0) E.1 E.2.1 dX1_sees_31 (by decide +kernel) ?_
    refine lv_istore (pc := 32) (lv' := [(4, .int 0), (3, .int v_12), (0, .ref (mr 0)), (1, .int z_from), (2, .int z_to)]) E.1 E.2.1 dX1_sees_32 hl13 (by decide) rfl (fun ls hl15 => ?_)
    have loop_16 : ∀ (k : Nat) (x_17 : Int32) (H : Heap) (locs : List Loc) (ls : Array Slot), (0 ≤ x_17.toInt) ∧ (x_17.toInt ≤ (mi 6).toInt) → (mi 6).toInt - x_17.toInt < (k : Int) → WD D A s.heap (WZ_HousesO cI cJ mv mr mi mf mg) H locs → lv_has ls 5 [(4, .int x_17), (3, .int v_12), (0, .ref (mr 0)), (1, .int z_from), (2, .int z_to)] → W p l e ({ frames := 2, cells := 0, slots := 0, locals := 68 } : Room) s m ([.ref (mr 0), .int z_from, .int z_to] : List Value).toArray below meth c H locs 0 0 (MQ below (va_Qi (fun (r : Int32) (u : Unit) => (0 ≤ r.toInt) ∧ (r.toInt ≤ 1)) (fun u => QW D cI cJ A ((fun (u : Unit) => (WZ_HousesO cI cJ mv mr mi mf mg)) u)) A) ([.ref (mr 0), .int z_from, .int z_to] : List Value).toArray s 0 0 A) (F0 m 34 ls []) := by
      intro k
      induction k with
      | zero =>
        intro x_17 _ _ _ hinv hm
        obtain ⟨hi_17_0, hi_17_1⟩ := hinv
        exact absurd hm (by omega)
      | succ k ih_18 =>
        intro x_17 H locs ls hinv hm hw19 hl20
        obtain ⟨hi_17_0, hi_17_1⟩ := hinv
        refine lv_iload (pc := 34) E.1 E.2.1 dX1_sees_34 (lv_at hl20 0 rfl) ?_
        refine lv_aload_n (pc := 36) E.1 E.2.1 dX1_sees_36 rfl (lv_at hl20 2 rfl) ?_
        refine x_get (pc := 37) (T := TX1) (N := 9) (ci := 1) (v := .int (mi 6)) E hw19 inX1 0 5 q_281 rfl rfl (by decide) rfl rfl dX1_sees_37 ?_
        refine lv_icmp_ge (pc := 40) (tgt := 66) E.1 E.2.1 dX1_sees_40 (by decide) (fun c_21 => ?_) (fun c_21 => ?_)
        · skip
          have hc_21 := leE (a := (mi 6).toInt) (b := x_17.toInt) rfl rfl c_21
          refine lv_iconst (pc := 66) (v := 1) E.1 E.2.1 dX1_sees_66 (by decide +kernel) ?_
          exact em_z (w1 := (fun (u : Unit) => (WZ_HousesO cI cJ mv mr mi mf mg))) E hr hlk () hw19 ⟨(by show 0 ≤ (1 : Int32).toInt; have k_0 : (1 : Int32).toInt = 1 := (by decide +kernel); omega), (by show (1 : Int32).toInt ≤ 1; have k_0 : (1 : Int32).toInt = 1 := (by decide +kernel); omega)⟩ (by decide +kernel) (Nat.le_of_ble_eq_true rfl) (Nat.le_of_ble_eq_true rfl) dX1_sees_67
        · skip
          have hc_21 := nleE (a := (mi 6).toInt) (b := x_17.toInt) rfl rfl c_21
          refine lv_iload_n (pc := 43) E.1 E.2.1 dX1_sees_43 rfl (lv_at hl20 3 rfl) ?_
          refine lv_iload_n (pc := 44) E.1 E.2.1 dX1_sees_44 rfl (lv_at hl20 4 rfl) ?_
          refine lv_aload_n (pc := 45) E.1 E.2.1 dX1_sees_45 rfl (lv_at hl20 2 rfl) ?_
          refine x_get (pc := 46) (T := TX1) (N := 9) (ci := 1) (v := .ref (mr 1)) E hw19 inX1 0 0 q_266 rfl rfl (by decide) rfl rfl dX1_sees_46 ?_
          refine lv_iload (pc := 49) E.1 E.2.1 dX1_sees_49 (lv_at hl20 0 rfl) ?_
          refine x_iald (pc := 51) (f := (mf 1)) E hw19 1 rfl (inbE (a := x_17.toInt) rfl (by omega)) dX1_sees_51 ?_
          refine lv_topi (fun v_22 ev_22 => ?_)
          refine ck_i (pc := 52) (ws' := (fun (u : Unit) => (WZ_HousesO cI cJ mv mr mi mf mg))) [false, false, false, false, false, false, false, false] hw19 rfl (fun hC_ => (rn_S (As := [.int z_from, .int z_to, .int v_22]) (rest := []) E hw19 (t_isBetween l D cI cJ _ mr mi mf mg z_from z_to v_22) (gdS q_1126 q_1127 q_154 q_1128) hdV_X1_isBetween ⟨rfl, rfl⟩ ⟨(Nat.le_of_ble_eq_true rfl), (Nat.le_of_ble_eq_true rfl)⟩ ⟨(Nat.le_of_ble_eq_true rfl), (Nat.le_of_ble_eq_true rfl)⟩ xT_b xT_at _ hC_ (nd_T _ 0) rfl hl20.1 rfl (Nat.le_of_ble_eq_true rfl) dX1_sees_52)) rfl (fun _ => rfl) (fun _ => rfl) (fun r_24 u_23 H1 locs hp hw25 => ?_)
          generalize H1 = H at hw25 ⊢
          have hw26 : WD D A s.heap (WZ_HousesO cI cJ mv mr mi mf mg) H locs := hw25
          obtain ⟨hp_27, hp_28⟩ := hp
          have hp_27 : 0 ≤ r_24.toInt := hp_27
          have hp_28 : r_24.toInt ≤ 1 := hp_28
          refine lv_if_eq (pc := 55) (tgt := 60) E.1 E.2.1 dX1_sees_55 (by decide) (fun c_29 => ?_) (fun c_29 => ?_)
          · skip
            have hc_29 := eqE (a := r_24.toInt) (b := 0) rfl (by decide +kernel) c_29
            obtain ⟨v_30, ev_30⟩ : ∃ z : Int32, x_17 + Int32.ofInt (1) = z := ⟨_, rfl⟩
            have hv_30 : v_30.toInt = x_17.toInt + (1) := by rw [← ev_30]; exact incE rfl (by decide) (by omega)
            refine lv_iinc (pc := 60) (v := v_30) (lv' := [(4, .int v_30), (3, .int v_12), (0, .ref (mr 0)), (1, .int z_from), (2, .int z_to)]) E.1 E.2.1 dX1_sees_60 hl20 (k := 0) rfl ev_30 (by decide) rfl (fun ls hl31 => ?_)
            refine lv_goto (pc := 63) (tgt := 34) E.1 E.2.1 dX1_sees_63 (by decide) ?_
            exact ih_18 v_30 _ _ _ ⟨(by show 0 ≤ v_30.toInt; omega), (by show v_30.toInt ≤ (mi 6).toInt; omega)⟩ (by omega) hw26 (lv_sub hl31 [0, 1, 2, 3, 4] rfl)
          · skip
            have hc_29 := neE (a := r_24.toInt) (b := 0) rfl (by decide +kernel) c_29
            refine lv_iconst (pc := 58) (v := 0) E.1 E.2.1 dX1_sees_58 (by decide +kernel) ?_
            exact em_z (w1 := (fun (u : Unit) => (WZ_HousesO cI cJ mv mr mi mf mg))) E hr hlk () hw26 ⟨(by show 0 ≤ (0 : Int32).toInt; have k_0 : (0 : Int32).toInt = 0 := (by decide +kernel); omega), (by show (0 : Int32).toInt ≤ 1; have k_0 : (0 : Int32).toInt = 0 := (by decide +kernel); omega)⟩ (by decide +kernel) (Nat.le_of_ble_eq_true rfl) (Nat.le_of_ble_eq_true rfl) dX1_sees_59
    exact loop_16 (Int.toNat ((mi 6).toInt - 0) + 1) 0 _ _ _ ⟨(by show 0 ≤ (0 : Int32).toInt; have k_0 : (0 : Int32).toInt = 0 := (by decide +kernel); omega), (by show (0 : Int32).toInt ≤ (mi 6).toInt; have k_0 : (0 : Int32).toInt = 0 := (by decide +kernel); omega)⟩ (by have k_0 : (0 : Int32).toInt = 0 := (by decide +kernel); omega) hw1 (lv_sub hl15 [0, 1, 2, 3, 4] rfl)
  · skip
    have hc_14 := nleE (a := v_12.toInt) (b := 5) rfl (by decide +kernel) c_14
    refine lv_iconst (pc := 29) (v := 0) E.1 E.2.1 dX1_sees_29 (by decide +kernel) ?_
    exact em_z (w1 := (fun (u : Unit) => (WZ_HousesO cI cJ mv mr mi mf mg))) E hr hlk () hw1 ⟨(by show 0 ≤ (0 : Int32).toInt; have k_0 : (0 : Int32).toInt = 0 := (by decide +kernel); omega), (by show (0 : Int32).toInt ≤ 1; have k_0 : (0 : Int32).toInt = 0 := (by decide +kernel); omega)⟩ (by decide +kernel) (Nat.le_of_ble_eq_true rfl) (Nat.le_of_ble_eq_true rfl) dX1_sees_30
set_option maxHeartbeats 4000000 in
set_option maxRecDepth 100000 in
theorem t_seenBy (l : Launch) (D : va_G) (cI cJ : ClassId) (sz : Nat) (mr : Nat → Nat) (mi : Nat → Int32) (mf : Nat → Nat → Int32) (mg : Nat → Nat → Int64) (z_a : Int32) (mv : Nat → Value) (h0 : 0 ≤ (mi 6).toInt ∧ (mi 6).toInt ≤ 10) (h1 : 0 ≤ z_a.toInt ∧ z_a.toInt ≤ 9) : Met l yX1_seenBy (Cond.code yX1_seenBy cX1_seenBy 4 (some .int) :: GW) ({ frames := 3, cells := 0, slots := 0, locals := 92 } : Room) (va_Pc [.ref (mr 0), .int z_a] (PW D cI cJ sz (WZ_HousesO cI cJ mv mr mi mf mg) xT)) (va_Qi (fun (r : Int32) (u : Unit) => True) (fun u => QW D cI cJ (va_A (WZ_HousesO cI cJ mv mr mi mf mg) sz) ((fun (u : Unit) => (WZ_HousesO cI cJ mv mr mi mf mg)) u)) (va_A (WZ_HousesO cI cJ mv mr mi mf mg) sz)) 0 0 (va_A (WZ_HousesO cI cJ mv mr mi mf mg) sz) := by
  refine mk_met (y := yX1_seenBy) (bytes := cX1_seenBy) (maxL := 4) (avs := [.ref (mr 0), .int z_a]) (WS := (WZ_HousesO cI cJ mv mr mi mf mg)) (Qf := fun A => va_Qi (fun (r : Int32) (u : Unit) => True) (fun u => QW D cI cJ A ((fun (u : Unit) => (WZ_HousesO cI cJ mv mr mi mf mg)) u)) A) (by decide) (Nat.le_of_ble_eq_true rfl) ?_
  intro p e s m below meth c A ls E hr hlk hnm hX hw1 hl2
  have hl3 : lv_has ls 4 [(0, .ref (mr 0)), (1, .int z_a)] := hl2
  refine lv_iconst (pc := 0) (v := 0) E.1 E.2.1 dX1_seenBy_0 (by decide +kernel) ?_
  refine lv_istore_n (pc := 1) (lv' := [(2, .int 0), (0, .ref (mr 0)), (1, .int z_a)]) E.1 E.2.1 dX1_seenBy_1 rfl hl3 (by decide) rfl (fun ls hl4 => ?_)
  refine lv_iconst (pc := 2) (v := 0) E.1 E.2.1 dX1_seenBy_2 (by decide +kernel) ?_
  refine lv_istore_n (pc := 3) (lv' := [(3, .int 0), (2, .int 0), (0, .ref (mr 0)), (1, .int z_a)]) E.1 E.2.1 dX1_seenBy_3 rfl hl4 (by decide) rfl (fun ls hl5 => ?_)
  have loop_6 : ∀ (k : Nat) (x_7 : Int32) (x_8 : Int32) (H : Heap) (locs : List Loc) (ls : Array Slot), (0 ≤ x_7.toInt) ∧ (x_7.toInt ≤ (mi 6).toInt) → (mi 6).toInt - x_7.toInt < (k : Int) → WD D A s.heap (WZ_HousesO cI cJ mv mr mi mf mg) H locs → lv_has ls 4 [(3, .int x_7), (2, .int x_8), (0, .ref (mr 0)), (1, .int z_a)] → W p l e ({ frames := 3, cells := 0, slots := 0, locals := 92 } : Room) s m ([.ref (mr 0), .int z_a] : List Value).toArray below meth c H locs 0 0 (MQ below (va_Qi (fun (r : Int32) (u : Unit) => True) (fun u => QW D cI cJ A ((fun (u : Unit) => (WZ_HousesO cI cJ mv mr mi mf mg)) u)) A) ([.ref (mr 0), .int z_a] : List Value).toArray s 0 0 A) (F0 m 4 ls []) := by
    intro k
    induction k with
    | zero =>
      intro x_7 x_8 _ _ _ hinv hm
      obtain ⟨hi_8_0, hi_8_1⟩ := hinv
      exact absurd hm (by omega)
    | succ k ih_9 =>
      intro x_7 x_8 H locs ls hinv hm hw10 hl11
      obtain ⟨hi_8_0, hi_8_1⟩ := hinv
      refine lv_iload_n (pc := 4) E.1 E.2.1 dX1_seenBy_4 rfl (lv_at hl11 0 rfl) ?_
      refine lv_aload_n (pc := 5) E.1 E.2.1 dX1_seenBy_5 rfl (lv_at hl11 2 rfl) ?_
      refine x_get (pc := 6) (T := TX1) (N := 9) (ci := 1) (v := .int (mi 6)) E hw10 inX1 0 5 q_281 rfl rfl (by decide) rfl rfl dX1_seenBy_6 ?_
      refine lv_icmp_ge (pc := 9) (tgt := 48) E.1 E.2.1 dX1_seenBy_9 (by decide) (fun c_12 => ?_) (fun c_12 => ?_)
      · skip
        have hc_12 := leE (a := (mi 6).toInt) (b := x_7.toInt) rfl rfl c_12
        refine lv_iload_n (pc := 48) E.1 E.2.1 dX1_seenBy_48 rfl (lv_at hl11 1 rfl) ?_
        exact em_i (w1 := (fun (u : Unit) => (WZ_HousesO cI cJ mv mr mi mf mg))) E hr hlk () hw10 trivial (Nat.le_of_ble_eq_true rfl) (Nat.le_of_ble_eq_true rfl) dX1_seenBy_49
      · skip
        have hc_12 := nleE (a := (mi 6).toInt) (b := x_7.toInt) rfl rfl c_12
        refine lv_iload_n (pc := 12) E.1 E.2.1 dX1_seenBy_12 rfl (lv_at hl11 0 rfl) ?_
        refine lv_iload_n (pc := 13) E.1 E.2.1 dX1_seenBy_13 rfl (lv_at hl11 3 rfl) ?_
        refine lv_icmp_eq (pc := 14) (tgt := 42) E.1 E.2.1 dX1_seenBy_14 (by decide) (fun c_13 => ?_) (fun c_13 => ?_)
        · skip
          have hc_13 := eqE (a := x_7.toInt) (b := z_a.toInt) rfl rfl c_13
          obtain ⟨v_14, ev_14⟩ : ∃ z : Int32, x_7 + Int32.ofInt (1) = z := ⟨_, rfl⟩
          have hv_14 : v_14.toInt = x_7.toInt + (1) := by rw [← ev_14]; exact incE rfl (by decide) (by omega)
          refine lv_iinc (pc := 42) (v := v_14) (lv' := [(3, .int v_14), (2, .int x_8), (0, .ref (mr 0)), (1, .int z_a)]) E.1 E.2.1 dX1_seenBy_42 hl11 (k := 0) rfl ev_14 (by decide) rfl (fun ls hl15 => ?_)
          refine lv_goto (pc := 45) (tgt := 4) E.1 E.2.1 dX1_seenBy_45 (by decide) ?_
          exact ih_9 v_14 x_8 _ _ _ ⟨(by show 0 ≤ v_14.toInt; omega), (by show v_14.toInt ≤ (mi 6).toInt; omega)⟩ (by omega) hw10 (lv_sub hl15 [0, 1, 2, 3] rfl)
        · skip
          have hc_13 := neE (a := x_7.toInt) (b := z_a.toInt) rfl rfl c_13
          refine lv_aload_n (pc := 17) E.1 E.2.1 dX1_seenBy_17 rfl (lv_at hl11 2 rfl) ?_
          refine lv_aload_n (pc := 18) E.1 E.2.1 dX1_seenBy_18 rfl (lv_at hl11 2 rfl) ?_
          refine x_get (pc := 19) (T := TX1) (N := 9) (ci := 1) (v := .ref (mr 1)) E hw10 inX1 0 0 q_266 rfl rfl (by decide) rfl rfl dX1_seenBy_19 ?_
          refine lv_iload_n (pc := 22) E.1 E.2.1 dX1_seenBy_22 rfl (lv_at hl11 3 rfl) ?_
          refine x_iald (pc := 23) (f := (mf 1)) E hw10 1 rfl (inbE (a := z_a.toInt) rfl (by omega)) dX1_seenBy_23 ?_
          refine lv_topi (fun v_16 ev_16 => ?_)
          refine lv_aload_n (pc := 24) E.1 E.2.1 dX1_seenBy_24 rfl (lv_at hl11 2 rfl) ?_
          refine x_get (pc := 25) (T := TX1) (N := 9) (ci := 1) (v := .ref (mr 1)) E hw10 inX1 0 0 q_266 rfl rfl (by decide) rfl rfl dX1_seenBy_25 ?_
          refine lv_iload_n (pc := 28) E.1 E.2.1 dX1_seenBy_28 rfl (lv_at hl11 0 rfl) ?_
          refine x_iald (pc := 29) (f := (mf 1)) E hw10 1 rfl (inbE (a := x_7.toInt) rfl (by omega)) dX1_seenBy_29 ?_
          refine lv_topi (fun v_17 ev_17 => ?_)
          refine ck_i (pc := 30) (ws' := (fun (u : Unit) => (WZ_HousesO cI cJ mv mr mi mf mg))) [true, true, true, true, true, true, true, true] hw10 rfl (fun hC_ => (rn_V (As := [.int v_16, .int v_17]) (rest := []) E hw10 (t_sees l D cI cJ _ mr mi mf mg v_16 v_17 (vl [mv 0]) h0) (gdV q_1119 q_1121 q_30 q_154 q_1122) hdV_X1_sees ⟨rfl, rfl⟩ ⟨(Nat.le_of_ble_eq_true rfl), (Nat.le_of_ble_eq_true rfl)⟩ ⟨(Nat.le_of_ble_eq_true rfl), (Nat.le_of_ble_eq_true rfl)⟩ xT_b xT_at 0 1 rfl rfl rfl _ hC_ (nd_T _ 0) rfl hl11.1 rfl (Nat.le_of_ble_eq_true rfl) dX1_seenBy_30)) rfl (fun _ => rfl) (fun _ => rfl) (fun r_19 u_18 H1 locs hp hw20 => ?_)
          generalize H1 = H at hw20 ⊢
          have hw21 : WD D A s.heap (WZ_HousesO cI cJ mv mr mi mf mg) H locs := hw20
          obtain ⟨hp_22, hp_23⟩ := hp
          have hp_22 : 0 ≤ r_19.toInt := hp_22
          have hp_23 : r_19.toInt ≤ 1 := hp_23
          refine lv_if_eq (pc := 33) (tgt := 42) E.1 E.2.1 dX1_seenBy_33 (by decide) (fun c_24 => ?_) (fun c_24 => ?_)
          · skip
            have hc_24 := eqE (a := r_19.toInt) (b := 0) rfl (by decide +kernel) c_24
            obtain ⟨v_25, ev_25⟩ : ∃ z : Int32, x_7 + Int32.ofInt (1) = z := ⟨_, rfl⟩
            have hv_25 : v_25.toInt = x_7.toInt + (1) := by rw [← ev_25]; exact incE rfl (by decide) (by omega)
            refine lv_iinc (pc := 42) (v := v_25) (lv' := [(3, .int v_25), (2, .int x_8), (0, .ref (mr 0)), (1, .int z_a)]) E.1 E.2.1 dX1_seenBy_42 hl11 (k := 0) rfl ev_25 (by decide) rfl (fun ls hl26 => ?_)
            refine lv_goto (pc := 45) (tgt := 4) E.1 E.2.1 dX1_seenBy_45 (by decide) ?_
            exact ih_9 v_25 x_8 _ _ _ ⟨(by show 0 ≤ v_25.toInt; omega), (by show v_25.toInt ≤ (mi 6).toInt; omega)⟩ (by omega) hw21 (lv_sub hl26 [0, 1, 2, 3] rfl)
          · skip
            have hc_24 := neE (a := r_19.toInt) (b := 0) rfl (by decide +kernel) c_24
            refine lv_iload_n (pc := 36) E.1 E.2.1 dX1_seenBy_36 rfl (lv_at hl11 1 rfl) ?_
            refine lv_iconst (pc := 37) (v := 1) E.1 E.2.1 dX1_seenBy_37 (by decide +kernel) ?_
            refine lv_iload_n (pc := 38) E.1 E.2.1 dX1_seenBy_38 rfl (lv_at hl11 0 rfl) ?_
            refine lv_ishl (pc := 39) E.1 E.2.1 dX1_seenBy_39 ?_
            refine lv_topi (fun v_27 ev_27 => ?_)
            have hb1v_27 : 1 ≤ v_27.toInt ∧ v_27.toInt ≤ 512 := by rw [ev_27]; exact shl9 (by omega)
            refine lv_ior (pc := 40) E.1 E.2.1 dX1_seenBy_40 ?_
            refine lv_topi (fun v_28 ev_28 => ?_)
            refine lv_istore_n (pc := 41) (lv' := [(2, .int v_28), (3, .int x_7), (0, .ref (mr 0)), (1, .int z_a)]) E.1 E.2.1 dX1_seenBy_41 rfl hl11 (by decide) rfl (fun ls hl29 => ?_)
            obtain ⟨v_30, ev_30⟩ : ∃ z : Int32, x_7 + Int32.ofInt (1) = z := ⟨_, rfl⟩
            have hv_30 : v_30.toInt = x_7.toInt + (1) := by rw [← ev_30]; exact incE rfl (by decide) (by omega)
            refine lv_iinc (pc := 42) (v := v_30) (lv' := [(3, .int v_30), (2, .int v_28), (0, .ref (mr 0)), (1, .int z_a)]) E.1 E.2.1 dX1_seenBy_42 hl29 (k := 1) rfl ev_30 (by decide) rfl (fun ls hl31 => ?_)
            refine lv_goto (pc := 45) (tgt := 4) E.1 E.2.1 dX1_seenBy_45 (by decide) ?_
            exact ih_9 v_30 v_28 _ _ _ ⟨(by show 0 ≤ v_30.toInt; omega), (by show v_30.toInt ≤ (mi 6).toInt; omega)⟩ (by omega) hw21 (lv_sub hl31 [0, 1, 2, 3] rfl)
  exact loop_6 (Int.toNat ((mi 6).toInt - 0) + 1) 0 0 _ _ _ ⟨(by show 0 ≤ (0 : Int32).toInt; have k_0 : (0 : Int32).toInt = 0 := (by decide +kernel); omega), (by show (0 : Int32).toInt ≤ (mi 6).toInt; have k_0 : (0 : Int32).toInt = 0 := (by decide +kernel); omega)⟩ (by have k_0 : (0 : Int32).toInt = 0 := (by decide +kernel); have k_1 : (0 : Int32).toInt = 0 := (by decide +kernel); omega) hw1 (lv_sub hl5 [0, 1, 2, 3] rfl)
