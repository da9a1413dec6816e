set_option maxHeartbeats 4000000 in
set_option maxRecDepth 100000 in
theorem t_worthOf1 (l : Launch) (D : va_G) (cI cJ : ClassId) (sz : Nat) (mr : Nat → Nat) (mi : Nat → Int32) (mf : Nat → Nat → Int32) (mg : Nat → Nat → Int64) (z_set : Int32) (h0 : 0 ≤ (mi 40).toInt ∧ (mi 40).toInt ≤ 10) (h1 : 0 ≤ (mi 49).toInt ∧ (mi 49).toInt ≤ 40) (h2 : 0 ≤ (mi 58).toInt ∧ (mi 58).toInt ≤ 10) (h3 : 0 ≤ (mi 8).toInt ∧ (mi 8).toInt ≤ 10) (a_wanted : w9 (mf 7)) : Met l yX6_worthOf (Cond.code yX6_worthOf cX6_worthOf 5 (some .int) :: GW) ({ frames := 1, cells := 0, slots := 0, locals := 40 } : Room) (va_Pc [.ref (mr 0), .ref (mr 11), .int z_set] (PW D cI cJ sz (WZ_PV1 cI cJ mr mi mf mg) xT)) (va_Qi (fun (r : Int32) (u : Unit) => True) (fun u => QW D cI cJ (va_A (WZ_PV1 cI cJ mr mi mf mg) sz) ((fun (u : Unit) => (WZ_PV1 cI cJ mr mi mf mg)) u)) (va_A (WZ_PV1 cI cJ mr mi mf mg) sz)) 0 0 (va_A (WZ_PV1 cI cJ mr mi mf mg) sz) := by
  refine mk_met (y := yX6_worthOf) (bytes := cX6_worthOf) (maxL := 5) (avs := [.ref (mr 0), .ref (mr 11), .int z_set]) (WS := (WZ_PV1 cI cJ mr mi mf mg)) (Qf := fun A => va_Qi (fun (r : Int32) (u : Unit) => True) (fun u => QW D cI cJ A ((fun (u : Unit) => (WZ_PV1 cI cJ mr mi mf mg)) u)) A) (by decide) (Nat.le_of_ble_eq_true rfl) ?_
  intro p e s m below meth c A ls E hr hlk hnm hX hw1 hl2
  have hl3 : lv_has ls 5 [(0, .ref (mr 0)), (1, .ref (mr 11)), (2, .int z_set)] := hl2
  refine lv_iconst (pc := 0) (v := 0) E.1 E.2.1 dX6_worthOf_0 (by decide +kernel) ?_
  refine lv_istore_n (pc := 1) (lv' := [(3, .int 0), (0, .ref (mr 0)), (1, .ref (mr 11)), (2, .int z_set)]) E.1 E.2.1 dX6_worthOf_1 rfl hl3 (by decide) rfl (fun ls hl4 => ?_)
  refine lv_iconst (pc := 2) (v := 0) E.1 E.2.1 dX6_worthOf_2 (by decide +kernel) ?_
  refine lv_istore (pc := 3) (lv' := [(4, .int 0), (3, .int 0), (0, .ref (mr 0)), (1, .ref (mr 11)), (2, .int z_set)]) E.1 E.2.1 dX6_worthOf_3 hl4 (by decide) rfl (fun ls hl5 => ?_)
  have loop_6 : ∀ (k : Nat) (x_7 : Int32) (x_8 : Int32) (H : Heap) (locs : List Loc) (ls : Array Slot), (0 ≤ x_7.toInt) ∧ (x_7.toInt ≤ (mi 8).toInt) → (mi 8).toInt - x_7.toInt < (k : Int) → WD D A s.heap (WZ_PV1 cI cJ mr mi mf mg) H locs → lv_has ls 5 [(4, .int x_7), (3, .int x_8), (0, .ref (mr 0)), (1, .ref (mr 11)), (2, .int z_set)] → W p l e ({ frames := 1, cells := 0, slots := 0, locals := 40 } : Room) s m ([.ref (mr 0), .ref (mr 11), .int z_set] : List Value).toArray below meth c H locs 0 0 (MQ below (va_Qi (fun (r : Int32) (u : Unit) => True) (fun u => QW D cI cJ A ((fun (u : Unit) => (WZ_PV1 cI cJ mr mi mf mg)) u)) A) ([.ref (mr 0), .ref (mr 11), .int z_set] : List Value).toArray s 0 0 A) (F0 m 5 ls []) := by
    intro k
    induction k with
    | zero =>
      intro x_7 x_8 _ _ _ hinv hm
      obtain ⟨hi_8_0, hi_8_1⟩ := hinv
      exact absurd hm (by omega)
    | succ k ih_9 =>
      intro x_7 x_8 H locs ls hinv hm hw10 hl11
      obtain ⟨hi_8_0, hi_8_1⟩ := hinv
      refine lv_iload (pc := 5) E.1 E.2.1 dX6_worthOf_5 (lv_at hl11 0 rfl) ?_
      refine lv_aload_n (pc := 7) E.1 E.2.1 dX6_worthOf_7 rfl (lv_at hl11 2 rfl) ?_
      refine x_get (pc := 8) (T := TX6) (N := 10) (ci := 6) (v := .int (mi 8)) E hw10 inX6 0 7 q_1169 rfl rfl (by decide) rfl rfl dX6_worthOf_8 ?_
      refine lv_icmp_ge (pc := 11) (tgt := 48) E.1 E.2.1 dX6_worthOf_11 (by decide) (fun c_12 => ?_) (fun c_12 => ?_)
      · skip
        have hc_12 := leE (a := (mi 8).toInt) (b := x_7.toInt) rfl rfl c_12
        refine lv_iload_n (pc := 48) E.1 E.2.1 dX6_worthOf_48 rfl (lv_at hl11 1 rfl) ?_
        exact em_i (w1 := (fun (u : Unit) => (WZ_PV1 cI cJ mr mi mf mg))) E hr hlk () hw10 trivial (Nat.le_of_ble_eq_true rfl) (Nat.le_of_ble_eq_true rfl) dX6_worthOf_49
      · skip
        have hc_12 := nleE (a := (mi 8).toInt) (b := x_7.toInt) rfl rfl c_12
        refine lv_iload_n (pc := 14) E.1 E.2.1 dX6_worthOf_14 rfl (lv_at hl11 4 rfl) ?_
        refine lv_iload (pc := 15) E.1 E.2.1 dX6_worthOf_15 (lv_at hl11 0 rfl) ?_
        refine lv_ishr (pc := 17) E.1 E.2.1 dX6_worthOf_17 ?_
        refine lv_topi (fun v_13 ev_13 => ?_)
        refine lv_iconst (pc := 18) (v := 1) E.1 E.2.1 dX6_worthOf_18 (by decide +kernel) ?_
        refine lv_iand (pc := 19) E.1 E.2.1 dX6_worthOf_19 ?_
        refine lv_topi (fun v_14 ev_14 => ?_)
        refine lv_iconst (pc := 20) (v := 1) E.1 E.2.1 dX6_worthOf_20 (by decide +kernel) ?_
        refine lv_icmp_ne (pc := 21) (tgt := 42) E.1 E.2.1 dX6_worthOf_21 (by decide) (fun c_15 => ?_) (fun c_15 => ?_)
        · skip
          have hc_15 := neE (a := v_14.toInt) (b := 1) rfl (by decide +kernel) c_15
          obtain ⟨v_16, ev_16⟩ : ∃ z : Int32, x_7 + Int32.ofInt (1) = z := ⟨_, rfl⟩
          have hv_16 : v_16.toInt = x_7.toInt + (1) := by rw [← ev_16]; exact incE rfl (by decide) (by omega)
          refine lv_iinc (pc := 42) (v := v_16) (lv' := [(4, .int v_16), (3, .int x_8), (0, .ref (mr 0)), (1, .ref (mr 11)), (2, .int z_set)]) E.1 E.2.1 dX6_worthOf_42 hl11 (k := 0) rfl ev_16 (by decide) rfl (fun ls hl17 => ?_)
          refine lv_goto (pc := 45) (tgt := 5) E.1 E.2.1 dX6_worthOf_45 (by decide) ?_
          exact ih_9 v_16 x_8 _ _ _ ⟨(by show 0 ≤ v_16.toInt; omega), (by show v_16.toInt ≤ (mi 8).toInt; omega)⟩ (by omega) hw10 (lv_sub hl17 [0, 1, 2, 3, 4] rfl)
        · skip
          have hc_15 := eqE (a := v_14.toInt) (b := 1) rfl (by decide +kernel) c_15
          refine lv_iload_n (pc := 24) E.1 E.2.1 dX6_worthOf_24 rfl (lv_at hl11 1 rfl) ?_
          refine lv_aload_n (pc := 25) E.1 E.2.1 dX6_worthOf_25 rfl (lv_at hl11 3 rfl) ?_
          refine x_get (pc := 26) (T := TX10) (N := 17) (ci := 10) (v := .ref (mr 52)) E hw10 inX10 7 3 q_468 rfl rfl (by decide) rfl rfl dX6_worthOf_26 ?_
          refine x_get (pc := 29) (T := TX3) (N := 6) (ci := 3) (v := .ref (mr 57)) E hw10 inX3 35 4 q_359 rfl rfl (by decide) rfl rfl dX6_worthOf_29 ?_
          refine lv_aload_n (pc := 32) E.1 E.2.1 dX6_worthOf_32 rfl (lv_at hl11 2 rfl) ?_
          refine x_get (pc := 33) (T := TX6) (N := 10) (ci := 6) (v := .ref (mr 7)) E hw10 inX6 0 6 q_1168 rfl rfl (by decide) rfl rfl dX6_worthOf_33 ?_
          refine lv_iload (pc := 36) E.1 E.2.1 dX6_worthOf_36 (lv_at hl11 0 rfl) ?_
          refine x_iald (pc := 38) (f := (mf 7)) E hw10 4 rfl (inbE (a := x_7.toInt) rfl (by omega)) dX6_worthOf_38 ?_
          refine lv_topi (fun v_18 ev_18 => ?_)
          have hbv_18 := allR_at (n := 10) (lo := 0) (hi := 9) a_wanted ev_18 (by show 0 ≤ x_7.toInt ∧ _; omega)
          refine x_iald (pc := 39) (f := (mf 57)) E hw10 40 rfl (inbE (a := v_18.toInt) rfl (by omega)) dX6_worthOf_39 ?_
          refine lv_topi (fun v_19 ev_19 => ?_)
          refine lv_iadd (pc := 40) E.1 E.2.1 dX6_worthOf_40 ?_
          refine lv_topi (fun v_20 ev_20 => ?_)
          refine lv_istore_n (pc := 41) (lv' := [(3, .int v_20), (4, .int x_7), (0, .ref (mr 0)), (1, .ref (mr 11)), (2, .int z_set)]) E.1 E.2.1 dX6_worthOf_41 rfl hl11 (by decide) rfl (fun ls hl21 => ?_)
          obtain ⟨v_22, ev_22⟩ : ∃ z : Int32, x_7 + Int32.ofInt (1) = z := ⟨_, rfl⟩
          have hv_22 : v_22.toInt = x_7.toInt + (1) := by rw [← ev_22]; exact incE rfl (by decide) (by omega)
          refine lv_iinc (pc := 42) (v := v_22) (lv' := [(4, .int v_22), (3, .int v_20), (0, .ref (mr 0)), (1, .ref (mr 11)), (2, .int z_set)]) E.1 E.2.1 dX6_worthOf_42 hl21 (k := 1) rfl ev_22 (by decide) rfl (fun ls hl23 => ?_)
          refine lv_goto (pc := 45) (tgt := 5) E.1 E.2.1 dX6_worthOf_45 (by decide) ?_
          exact ih_9 v_22 v_20 _ _ _ ⟨(by show 0 ≤ v_22.toInt; omega), (by show v_22.toInt ≤ (mi 8).toInt; omega)⟩ (by omega) hw10 (lv_sub hl23 [0, 1, 2, 3, 4] rfl)
  exact loop_6 (Int.toNat ((mi 8).toInt - 0) + 1) 0 0 _ _ _ ⟨(by show 0 ≤ (0 : Int32).toInt; have k_0 : (0 : Int32).toInt = 0 := (by decide +kernel); omega), (by show (0 : Int32).toInt ≤ (mi 8).toInt; have k_0 : (0 : Int32).toInt = 0 := (by decide +kernel); omega)⟩ (by have k_0 : (0 : Int32).toInt = 0 := (by decide +kernel); have k_1 : (0 : Int32).toInt = 0 := (by decide +kernel); omega) hw1 (lv_sub hl5 [0, 1, 2, 3, 4] rfl)
set_option maxHeartbeats 4000000 in
set_option maxRecDepth 100000 in
theorem t_choose1 (l : Launch) (D : va_G) (cI cJ : ClassId) (sz : Nat) (mr : Nat → Nat) (mi : Nat → Int32) (mf : Nat → Nat → Int32) (mg : Nat → Nat → Int64) (z_houses : Int32) (z_sets : Int32) (h0 : 0 ≤ (mi 40).toInt ∧ (mi 40).toInt ≤ 10) (h1 : 0 ≤ (mi 49).toInt ∧ (mi 49).toInt ≤ 40) (h2 : 0 ≤ (mi 58).toInt ∧ (mi 58).toInt ≤ 10) (h3 : 0 ≤ (mi 8).toInt ∧ (mi 8).toInt ≤ 10) (h4 : 0 ≤ z_houses.toInt ∧ z_houses.toInt ≤ 10) (h5 : 1 ≤ z_sets.toInt ∧ z_sets.toInt ≤ 1024) (a_wanted : w9 (mf 7)) : Met l yX6_choose (Cond.code yX6_choose cX6_choose 10 none :: GW) ({ frames := 2, cells := 0, slots := 0, locals := 64 } : Room) (va_Pc [.ref (mr 0), .ref (mr 11), .int z_houses, .int z_sets] (PW D cI cJ sz (WZ_PV1 cI cJ mr mi mf mg) xT)) (va_Qv (fun (u : Int32 × (Nat → Int64)) => True) (fun u => QW D cI cJ (va_A (WZ_PV1 cI cJ mr mi mf mg) sz) ((fun (u : Int32 × (Nat → Int64)) => (WZ_PV1 cI cJ mr (upd mi 2 u.1) mf (va_up mg 3 u.2))) u)) (va_A (WZ_PV1 cI cJ mr mi mf mg) sz)) 0 0 (va_A (WZ_PV1 cI cJ mr mi mf mg) sz) := by
  refine mk_met (y := yX6_choose) (bytes := cX6_choose) (maxL := 10) (avs := [.ref (mr 0), .ref (mr 11), .int z_houses, .int z_sets]) (WS := (WZ_PV1 cI cJ mr mi mf mg)) (Qf := fun A => va_Qv (fun (u : Int32 × (Nat → Int64)) => True) (fun u => QW D cI cJ A ((fun (u : Int32 × (Nat → Int64)) => (WZ_PV1 cI cJ mr (upd mi 2 u.1) mf (va_up mg 3 u.2))) u)) A) (by decide) (Nat.le_of_ble_eq_true rfl) ?_
  intro p e s m below meth c A ls E hr hlk hnm hX hw1 hl2
  have hl3 : lv_has ls 10 [(0, .ref (mr 0)), (1, .ref (mr 11)), (2, .int z_houses), (3, .int z_sets)] := hl2
  refine lv_aload_n (pc := 0) E.1 E.2.1 dX6_choose_0 rfl (lv_at hl3 0 rfl) ?_
  refine lv_iconst (pc := 1) (v := (-1)) E.1 E.2.1 dX6_choose_1 (by decide +kernel) ?_
  refine x_put (pc := 2) (T := TX6) (N := 10) (ci := 6) (ws' := (WZ_PV1 cI cJ mr (upd mi 2 (-1)) mf mg)) E hw1 inX6 tyX6_ok nmX6 0 1 q_1162 rfl rfl (by decide) rfl rfl rfl rfl (Nat.le_of_ble_eq_true rfl) rfl dX6_choose_2 (fun H locs hw4 => ?_)
  refine lv_aload_n (pc := 5) E.1 E.2.1 dX6_choose_5 rfl (lv_at hl3 0 rfl) ?_
  refine lv_lconst (pc := 6) (v := 0) E.1 E.2.1 dX6_choose_6 (by decide +kernel) ?_
  refine x_put (pc := 7) (T := TX6) (N := 10) (ci := 6) (ws' := (WZ_PV1 cI cJ mr (upd mi 2 (-1)) mf (va_up mg 3 (fun _ => 0)))) E hw4 inX6 tyX6_ok nmX6 0 2 q_1164 rfl rfl (by decide) rfl rfl rfl rfl (Nat.le_of_ble_eq_true rfl) rfl dX6_choose_7 (fun H locs hw5 => ?_)
  refine lv_iconst (pc := 10) (v := 0) E.1 E.2.1 dX6_choose_10 (by decide +kernel) ?_
  refine lv_istore (pc := 11) (lv' := [(4, .int 0), (0, .ref (mr 0)), (1, .ref (mr 11)), (2, .int z_houses), (3, .int z_sets)]) E.1 E.2.1 dX6_choose_11 hl3 (by decide) rfl (fun ls hl6 => ?_)
  have loop_7 : ∀ (k : Nat) (x_8 : Int32) (x_9 : Int32) (g_10 : Nat → Int64) (H : Heap) (locs : List Loc) (ls : Array Slot), (0 ≤ x_8.toInt) ∧ (x_8.toInt ≤ z_sets.toInt) → z_sets.toInt - x_8.toInt < (k : Int) → WD D A s.heap (WZ_PV1 cI cJ mr (upd mi 2 x_9) mf (va_up mg 3 g_10)) H locs → lv_has ls 10 [(4, .int x_8), (0, .ref (mr 0)), (1, .ref (mr 11)), (2, .int z_houses), (3, .int z_sets)] → W p l e ({ frames := 2, cells := 0, slots := 0, locals := 64 } : Room) s m ([.ref (mr 0), .ref (mr 11), .int z_houses, .int z_sets] : List Value).toArray below meth c H locs 0 0 (MQ below (va_Qv (fun (u : Int32 × (Nat → Int64)) => True) (fun u => QW D cI cJ A ((fun (u : Int32 × (Nat → Int64)) => (WZ_PV1 cI cJ mr (upd mi 2 u.1) mf (va_up mg 3 u.2))) u)) A) ([.ref (mr 0), .ref (mr 11), .int z_houses, .int z_sets] : List Value).toArray s 0 0 A) (F0 m 13 ls []) := by
    intro k
    induction k with
    | zero =>
      intro x_8 x_9 g_10 _ _ _ hinv hm
      obtain ⟨hi_10_0, hi_10_1⟩ := hinv
      exact absurd hm (by omega)
    | succ k ih_11 =>
      intro x_8 x_9 g_10 H locs ls hinv hm hw12 hl13
      obtain ⟨hi_10_0, hi_10_1⟩ := hinv
      refine lv_iload (pc := 13) E.1 E.2.1 dX6_choose_13 (lv_at hl13 0 rfl) ?_
      refine lv_iload_n (pc := 15) E.1 E.2.1 dX6_choose_15 rfl (lv_at hl13 4 rfl) ?_
      refine lv_icmp_ge (pc := 16) (tgt := 124) E.1 E.2.1 dX6_choose_16 (by decide) (fun c_14 => ?_) (fun c_14 => ?_)
      · skip
        have hc_14 := leE (a := z_sets.toInt) (b := x_8.toInt) rfl rfl c_14
        exact em_v (w1 := (fun (u : Int32 × (Nat → Int64)) => (WZ_PV1 cI cJ mr (upd mi 2 u.1) mf (va_up mg 3 u.2)))) E hr hlk (x_9, g_10) hw12 trivial (Nat.le_of_ble_eq_true rfl) (Nat.le_of_ble_eq_true rfl) dX6_choose_124
      · skip
        have hc_14 := nleE (a := z_sets.toInt) (b := x_8.toInt) rfl rfl c_14
        refine lv_aload_n (pc := 19) E.1 E.2.1 dX6_choose_19 rfl (lv_at hl13 1 rfl) ?_
        refine lv_aload_n (pc := 20) E.1 E.2.1 dX6_choose_20 rfl (lv_at hl13 2 rfl) ?_
        refine lv_iload (pc := 21) E.1 E.2.1 dX6_choose_21 (lv_at hl13 0 rfl) ?_
        refine cq_i (pc := 23) (ws' := (fun (u : Unit) => (WZ_PV1 cI cJ mr (upd mi 2 x_9) mf (va_up mg 3 g_10)))) hw12 [0, 1, 2, 3, 4, 5, 6, 7, 8, 9, 10, 11, 12, 13, 14, 15, 16, 17, 18, 19, 20, 21, 22, 23, 24, 25, 26, 27, 28, 29, 30, 31, 32, 33, 34, 35, 36, 37, 38, 39, 40, 41, 42, 43, 44, 45, 46, 47, 48, 49, 50, 51, 52, 53, 54, 55, 56, 57] [] [0, 1, 2, 3, 4, 5, 6, 7, 8, 9, 10, 11, 12, 13, 14, 15, 16, 17, 18, 19, 20, 21, 22, 23, 24, 25, 26, 27, 28, 29, 30, 31, 32, 33, 34, 35, 36, 37, 38, 39, 40, 41, 42, 43, 44, 45, 46, 47, 48, 49, 50, 51, 52, 53, 54, 55, 56, 57] rfl rfl (by decide) (by decide) (fun _ => rfl) (by decide) (rn_V (As := [.ref (mr 11), .int x_8]) (rest := []) E hw12 (t_worthOf1 l D cI cJ _ (ixf [0, 1, 2, 3, 4, 5, 6, 7, 8, 9, 10, 11, 12, 13, 14, 15, 16, 17, 18, 19, 20, 21, 22, 23, 24, 25, 26, 27, 28, 29, 30, 31, 32, 33, 34, 35, 36, 37, 38, 39, 40, 41, 42, 43, 44, 45, 46, 47, 48, 49, 50, 51, 52, 53, 54, 55, 56, 57, 58, 59, 60, 61, 62, 63, 64, 65, 66, 67, 68, 69, 70, 71, 72, 73, 74, 75, 76, 77, 78, 79, 80, 81, 82, 83, 84, 85, 86, 87, 88] mr) (ixf [0, 1, 2, 3, 4, 5, 6, 7, 8, 9, 10, 11, 12, 13, 14, 15, 16, 17, 18, 19, 20, 21, 22, 23, 24, 25, 26, 27, 28, 29, 30, 31, 32, 33, 34, 35, 36, 37, 38, 39, 40, 41, 42, 43, 44, 45, 46, 47, 48, 49, 50, 51, 52, 53, 54, 55, 56, 57, 58, 59, 60, 61, 62, 63, 64, 65, 66, 67, 68, 69, 70, 71, 72, 73, 74, 75, 76, 77, 78, 79, 80, 81, 82, 83, 84, 85, 86, 87, 88] (upd mi 2 x_9)) (ixf [0, 1, 2, 3, 4, 5, 6, 7, 8, 9, 10, 11, 12, 13, 14, 15, 16, 17, 18, 19, 20, 21, 22, 23, 24, 25, 26, 27, 28, 29, 30, 31, 32, 33, 34, 35, 36, 37, 38, 39, 40, 41, 42, 43, 44, 45, 46, 47, 48, 49, 50, 51, 52, 53, 54, 55, 56, 57, 58, 59, 60, 61, 62, 63, 64, 65, 66, 67, 68, 69, 70, 71, 72, 73, 74, 75, 76, 77, 78, 79, 80, 81, 82, 83, 84, 85, 86, 87, 88] mf) (ixf [0, 1, 2, 3, 4, 5, 6, 7, 8, 9, 10, 11, 12, 13, 14, 15, 16, 17, 18, 19, 20, 21, 22, 23, 24, 25, 26, 27, 28, 29, 30, 31, 32, 33, 34, 35, 36, 37, 38, 39, 40, 41, 42, 43, 44, 45, 46, 47, 48, 49, 50, 51, 52, 53, 54, 55, 56, 57, 58, 59, 60, 61, 62, 63, 64, 65, 66, 67, 68, 69, 70, 71, 72, 73, 74, 75, 76, 77, 78, 79, 80, 81, 82, 83, 84, 85, 86, 87, 88] (va_up mg 3 g_10)) x_8 (by show 0 ≤ (mi 40).toInt ∧ (mi 40).toInt ≤ 10; omega) (by show 0 ≤ (mi 49).toInt ∧ (mi 49).toInt ≤ 40; omega) (by show 0 ≤ (mi 58).toInt ∧ (mi 58).toInt ≤ 10; omega) (by show 0 ≤ (mi 8).toInt ∧ (mi 8).toInt ≤ 10; omega) a_wanted) (gdV q_1234 q_1236 q_38 q_170 q_1237) hdV_X6_worthOf ⟨rfl, rfl⟩ ⟨(Nat.le_of_ble_eq_true rfl), (Nat.le_of_ble_eq_true rfl)⟩ ⟨(Nat.le_of_ble_eq_true rfl), (Nat.le_of_ble_eq_true rfl)⟩ xT_b xT_at 0 6 rfl rfl rfl [0, 1, 2, 3, 4, 5, 6, 7, 8, 9, 10, 11, 12, 13, 14, 15, 16, 17, 18, 19, 20, 21, 22, 23, 24, 25, 26, 27, 28, 29, 30, 31, 32, 33, 34, 35, 36, 37, 38, 39, 40, 41, 42, 43, 44, 45, 46, 47, 48, 49, 50, 51, 52, 53, 54, 55, 56, 57] rfl (by decide) rfl hl13.1 rfl (Nat.le_of_ble_eq_true rfl) dX6_choose_23) (fun r_16 u_15 H1 locs hp hw17 => ?_)
        generalize H1 = H at hw17 ⊢
        have hw18 : WD D A s.heap (WZ_PV1 cI cJ mr (upd mi 2 x_9) mf (va_up mg 3 g_10)) H locs := hw17
        refine lv_istore (pc := 26) (lv' := [(5, .int r_16), (4, .int x_8), (0, .ref (mr 0)), (1, .ref (mr 11)), (2, .int z_houses), (3, .int z_sets)]) E.1 E.2.1 dX6_choose_26 hl13 (by decide) rfl (fun ls hl19 => ?_)
        refine lv_iconst (pc := 28) (v := 0) E.1 E.2.1 dX6_choose_28 (by decide +kernel) ?_
        refine lv_istore (pc := 29) (lv' := [(6, .int 0), (5, .int r_16), (4, .int x_8), (0, .ref (mr 0)), (1, .ref (mr 11)), (2, .int z_houses), (3, .int z_sets)]) E.1 E.2.1 dX6_choose_29 hl19 (by decide) rfl (fun ls hl20 => ?_)
        have loop_21 : ∀ (k : Nat) (x_22 : Int32) (x_23 : Int32) (g_24 : Nat → Int64) (H : Heap) (locs : List Loc) (ls : Array Slot), (0 ≤ x_22.toInt) ∧ (x_22.toInt ≤ z_houses.toInt) → z_houses.toInt - x_22.toInt < (k : Int) → WD D A s.heap (WZ_PV1 cI cJ mr (upd mi 2 x_23) mf (va_up mg 3 g_24)) H locs → lv_has ls 10 [(6, .int x_22), (5, .int r_16), (4, .int x_8), (0, .ref (mr 0)), (1, .ref (mr 11)), (2, .int z_houses), (3, .int z_sets)] → W p l e ({ frames := 2, cells := 0, slots := 0, locals := 64 } : Room) s m ([.ref (mr 0), .ref (mr 11), .int z_houses, .int z_sets] : List Value).toArray below meth c H locs 0 0 (MQ below (va_Qv (fun (u : Int32 × (Nat → Int64)) => True) (fun u => QW D cI cJ A ((fun (u : Int32 × (Nat → Int64)) => (WZ_PV1 cI cJ mr (upd mi 2 u.1) mf (va_up mg 3 u.2))) u)) A) ([.ref (mr 0), .ref (mr 11), .int z_houses, .int z_sets] : List Value).toArray s 0 0 A) (F0 m 31 ls []) := by
          intro k
          induction k with
          | zero =>
            intro x_22 x_23 g_24 _ _ _ hinv hm
            obtain ⟨hi_24_0, hi_24_1⟩ := hinv
            exact absurd hm (by omega)
          | succ k ih_25 =>
            intro x_22 x_23 g_24 H locs ls hinv hm hw26 hl27
            obtain ⟨hi_24_0, hi_24_1⟩ := hinv
            refine lv_iload (pc := 31) E.1 E.2.1 dX6_choose_31 (lv_at hl27 0 rfl) ?_
            refine lv_iload_n (pc := 33) E.1 E.2.1 dX6_choose_33 rfl (lv_at hl27 5 rfl) ?_
            refine lv_icmp_ge (pc := 34) (tgt := 118) E.1 E.2.1 dX6_choose_34 (by decide) (fun c_28 => ?_) (fun c_28 => ?_)
            · skip
              have hc_28 := leE (a := z_houses.toInt) (b := x_22.toInt) rfl rfl c_28
              obtain ⟨v_29, ev_29⟩ : ∃ z : Int32, x_8 + Int32.ofInt (1) = z := ⟨_, rfl⟩
              have hv_29 : v_29.toInt = x_8.toInt + (1) := by rw [← ev_29]; exact incE rfl (by decide) (by omega)
              refine lv_iinc (pc := 118) (v := v_29) (lv' := [(4, .int v_29), (6, .int x_22), (5, .int r_16), (0, .ref (mr 0)), (1, .ref (mr 11)), (2, .int z_houses), (3, .int z_sets)]) E.1 E.2.1 dX6_choose_118 hl27 (k := 2) rfl ev_29 (by decide) rfl (fun ls hl30 => ?_)
              refine lv_goto (pc := 121) (tgt := 13) E.1 E.2.1 dX6_choose_121 (by decide) ?_
              exact ih_11 v_29 x_23 g_24 _ _ _ ⟨(by show 0 ≤ v_29.toInt; omega), (by show v_29.toInt ≤ z_sets.toInt; omega)⟩ (by omega) hw26 (lv_sub hl30 [0, 3, 4, 5, 6] rfl)
            · skip
              have hc_28 := nleE (a := z_houses.toInt) (b := x_22.toInt) rfl rfl c_28
              refine lv_aload_n (pc := 37) E.1 E.2.1 dX6_choose_37 rfl (lv_at hl27 3 rfl) ?_
              refine x_get (pc := 38) (T := TX6) (N := 10) (ci := 6) (v := .ref (mr 4)) E hw26 inX6 0 3 q_1165 rfl rfl (by decide) rfl rfl dX6_choose_38 ?_
              refine lv_iload (pc := 41) E.1 E.2.1 dX6_choose_41 (lv_at hl27 2 rfl) ?_
              refine lv_iload_n (pc := 43) E.1 E.2.1 dX6_choose_43 rfl (lv_at hl27 5 rfl) ?_
              refine lv_imul (pc := 44) E.1 E.2.1 dX6_choose_44 ?_
              refine lv_topi (fun v_31 ev_31 => ?_)
              have hbv_31 : 0 ≤ v_31.toInt ∧ v_31.toInt ≤ 10230 := by rw [ev_31]; exact mulB (a := 1023) (b := 10) (by omega) (by omega) (by decide)
              refine lv_iload (pc := 45) E.1 E.2.1 dX6_choose_45 (lv_at hl27 0 rfl) ?_
              refine lv_iadd (pc := 47) E.1 E.2.1 dX6_choose_47 ?_
              refine lv_topi (fun v_32 ev_32 => ?_)
              have hv_32 : v_32.toInt = v_31.toInt + x_22.toInt := by rw [ev_32]; exact addE rfl rfl (by omega)
              refine x_lald (pc := 48) (f := (mg 4)) E hw26 1 rfl (inbE (a := v_32.toInt) rfl (by omega)) dX6_choose_48 (fun w_33 => ?_)
              refine lv_lstore (pc := 49) (lv' := [(7, .long w_33), (6, .int x_22), (5, .int r_16), (4, .int x_8), (0, .ref (mr 0)), (1, .ref (mr 11)), (2, .int z_houses), (3, .int z_sets)]) E.1 E.2.1 dX6_choose_49 hl27 (by decide) rfl (fun ls hl34 => ?_)
              refine lv_iload (pc := 51) E.1 E.2.1 dX6_choose_51 (lv_at hl34 2 rfl) ?_
              refine lv_aload_n (pc := 53) E.1 E.2.1 dX6_choose_53 rfl (lv_at hl34 4 rfl) ?_
              refine x_get (pc := 54) (T := TX6) (N := 10) (ci := 6) (v := .int x_23) E hw26 inX6 0 1 q_1162 rfl rfl (by decide) rfl rfl dX6_choose_54 ?_
              refine lv_icmp_gt (pc := 57) (tgt := 79) E.1 E.2.1 dX6_choose_57 (by decide) (fun c_35 => ?_) (fun c_35 => ?_)
              · skip
                have hc_35 := ltE (a := x_23.toInt) (b := r_16.toInt) rfl rfl c_35
                refine lv_iconst (pc := 79) (v := 1) E.1 E.2.1 dX6_choose_79 (by decide +kernel) ?_
                refine lv_goto (pc := 80) (tgt := 84) E.1 E.2.1 dX6_choose_80 (by decide) ?_
                refine lv_istore (pc := 84) (lv' := [(9, .int 1), (7, .long w_33), (6, .int x_22), (5, .int r_16), (4, .int x_8), (0, .ref (mr 0)), (1, .ref (mr 11)), (2, .int z_houses), (3, .int z_sets)]) E.1 E.2.1 dX6_choose_84 hl34 (by decide) rfl (fun ls hl36 => ?_)
                refine lv_lload (pc := 86) E.1 E.2.1 dX6_choose_86 (lv_at hl36 1 rfl) ?_
                refine lv_ldc2 (pc := 88) (v := (-1)) E.1 E.2.1 E.2.2.2.1 (E.2.2.2.2.1 _ q_1206) dX6_choose_88 ?_
                refine W.lcmp (pc := 91) E.1 E.2.1 dX6_choose_91 ?_
                refine lv_topi (fun v_37 ev_37 => ?_)
                refine lv_if_eq (pc := 92) (tgt := 112) E.1 E.2.1 dX6_choose_92 (by decide) (fun c_38 => ?_) (fun c_38 => ?_)
                · skip
                  have hc_38 := eqE (a := v_37.toInt) (b := 0) rfl (by decide +kernel) c_38
                  obtain ⟨v_39, ev_39⟩ : ∃ z : Int32, x_22 + Int32.ofInt (1) = z := ⟨_, rfl⟩
                  have hv_39 : v_39.toInt = x_22.toInt + (1) := by rw [← ev_39]; exact incE rfl (by decide) (by omega)
                  refine lv_iinc (pc := 112) (v := v_39) (lv' := [(6, .int v_39), (9, .int 1), (7, .long w_33), (5, .int r_16), (4, .int x_8), (0, .ref (mr 0)), (1, .ref (mr 11)), (2, .int z_houses), (3, .int z_sets)]) E.1 E.2.1 dX6_choose_112 hl36 (k := 2) rfl ev_39 (by decide) rfl (fun ls hl40 => ?_)
                  refine lv_goto (pc := 115) (tgt := 31) E.1 E.2.1 dX6_choose_115 (by decide) ?_
                  exact ih_25 v_39 x_23 g_24 _ _ _ ⟨(by show 0 ≤ v_39.toInt; omega), (by show v_39.toInt ≤ z_houses.toInt; omega)⟩ (by omega) hw26 (lv_sub hl40 [0, 3, 4, 5, 6, 7, 8] rfl)
                · skip
                  have hc_38 := neE (a := v_37.toInt) (b := 0) rfl (by decide +kernel) c_38
                  refine lv_iload (pc := 95) E.1 E.2.1 dX6_choose_95 (lv_at hl36 0 rfl) ?_
                  refine lv_if_eq (pc := 97) (tgt := 112) E.1 E.2.1 dX6_choose_97 (by decide) (fun c_41 => absurd c_41 (mneE (a := 1) (b := 0) (by decide +kernel) (by decide +kernel) (by omega))) (fun _ => ?_)
                  refine lv_aload_n (pc := 100) E.1 E.2.1 dX6_choose_100 rfl (lv_at hl36 5 rfl) ?_
                  refine lv_iload (pc := 101) E.1 E.2.1 dX6_choose_101 (lv_at hl36 3 rfl) ?_
                  refine x_put (pc := 103) (T := TX6) (N := 10) (ci := 6) (ws' := (WZ_PV1 cI cJ mr (upd mi 2 r_16) mf (va_up mg 3 g_24))) E hw26 inX6 tyX6_ok nmX6 0 1 q_1162 rfl rfl (by decide) rfl rfl rfl rfl (Nat.le_of_ble_eq_true rfl) rfl dX6_choose_103 (fun H locs hw42 => ?_)
                  refine lv_aload_n (pc := 106) E.1 E.2.1 dX6_choose_106 rfl (lv_at hl36 5 rfl) ?_
                  refine lv_lload (pc := 107) E.1 E.2.1 dX6_choose_107 (lv_at hl36 1 rfl) ?_
                  refine x_put (pc := 109) (T := TX6) (N := 10) (ci := 6) (ws' := (WZ_PV1 cI cJ mr (upd mi 2 r_16) mf (va_up mg 3 (fun _ => w_33)))) E hw42 inX6 tyX6_ok nmX6 0 2 q_1164 rfl rfl (by decide) rfl rfl rfl rfl (Nat.le_of_ble_eq_true rfl) rfl dX6_choose_109 (fun H locs hw43 => ?_)
                  obtain ⟨v_44, ev_44⟩ : ∃ z : Int32, x_22 + Int32.ofInt (1) = z := ⟨_, rfl⟩
                  have hv_44 : v_44.toInt = x_22.toInt + (1) := by rw [← ev_44]; exact incE rfl (by decide) (by omega)
                  refine lv_iinc (pc := 112) (v := v_44) (lv' := [(6, .int v_44), (9, .int 1), (7, .long w_33), (5, .int r_16), (4, .int x_8), (0, .ref (mr 0)), (1, .ref (mr 11)), (2, .int z_houses), (3, .int z_sets)]) E.1 E.2.1 dX6_choose_112 hl36 (k := 2) rfl ev_44 (by decide) rfl (fun ls hl45 => ?_)
                  refine lv_goto (pc := 115) (tgt := 31) E.1 E.2.1 dX6_choose_115 (by decide) ?_
                  exact ih_25 v_44 r_16 (fun _ => w_33) _ _ _ ⟨(by show 0 ≤ v_44.toInt; omega), (by show v_44.toInt ≤ z_houses.toInt; omega)⟩ (by omega) hw43 (lv_sub hl45 [0, 3, 4, 5, 6, 7, 8] rfl)
              · skip
                have hc_35 := nltE (a := x_23.toInt) (b := r_16.toInt) rfl rfl c_35
                refine lv_iload (pc := 60) E.1 E.2.1 dX6_choose_60 (lv_at hl34 2 rfl) ?_
                refine lv_aload_n (pc := 62) E.1 E.2.1 dX6_choose_62 rfl (lv_at hl34 4 rfl) ?_
                refine x_get (pc := 63) (T := TX6) (N := 10) (ci := 6) (v := .int x_23) E hw26 inX6 0 1 q_1162 rfl rfl (by decide) rfl rfl dX6_choose_63 ?_
                refine lv_icmp_ne (pc := 66) (tgt := 83) E.1 E.2.1 dX6_choose_66 (by decide) (fun c_46 => ?_) (fun c_46 => ?_)
                · skip
                  have hc_46 := neE (a := r_16.toInt) (b := x_23.toInt) rfl rfl c_46
                  refine lv_iconst (pc := 83) (v := 0) E.1 E.2.1 dX6_choose_83 (by decide +kernel) ?_
                  refine lv_istore (pc := 84) (lv' := [(9, .int 0), (7, .long w_33), (6, .int x_22), (5, .int r_16), (4, .int x_8), (0, .ref (mr 0)), (1, .ref (mr 11)), (2, .int z_houses), (3, .int z_sets)]) E.1 E.2.1 dX6_choose_84 hl34 (by decide) rfl (fun ls hl47 => ?_)
                  refine lv_lload (pc := 86) E.1 E.2.1 dX6_choose_86 (lv_at hl47 1 rfl) ?_
                  refine lv_ldc2 (pc := 88) (v := (-1)) E.1 E.2.1 E.2.2.2.1 (E.2.2.2.2.1 _ q_1206) dX6_choose_88 ?_
                  refine W.lcmp (pc := 91) E.1 E.2.1 dX6_choose_91 ?_
                  refine lv_topi (fun v_48 ev_48 => ?_)
                  refine lv_if_eq (pc := 92) (tgt := 112) E.1 E.2.1 dX6_choose_92 (by decide) (fun c_49 => ?_) (fun c_49 => ?_)
                  · skip
                    have hc_49 := eqE (a := v_48.toInt) (b := 0) rfl (by decide +kernel) c_49
                    obtain ⟨v_50, ev_50⟩ : ∃ z : Int32, x_22 + Int32.ofInt (1) = z := ⟨_, rfl⟩
                    have hv_50 : v_50.toInt = x_22.toInt + (1) := by rw [← ev_50]; exact incE rfl (by decide) (by omega)
                    refine lv_iinc (pc := 112) (v := v_50) (lv' := [(6, .int v_50), (9, .int 0), (7, .long w_33), (5, .int r_16), (4, .int x_8), (0, .ref (mr 0)), (1, .ref (mr 11)), (2, .int z_houses), (3, .int z_sets)]) E.1 E.2.1 dX6_choose_112 hl47 (k := 2) rfl ev_50 (by decide) rfl (fun ls hl51 => ?_)
                    refine lv_goto (pc := 115) (tgt := 31) E.1 E.2.1 dX6_choose_115 (by decide) ?_
                    exact ih_25 v_50 x_23 g_24 _ _ _ ⟨(by show 0 ≤ v_50.toInt; omega), (by show v_50.toInt ≤ z_houses.toInt; omega)⟩ (by omega) hw26 (lv_sub hl51 [0, 3, 4, 5, 6, 7, 8] rfl)
                  · skip
                    have hc_49 := neE (a := v_48.toInt) (b := 0) rfl (by decide +kernel) c_49
                    refine lv_iload (pc := 95) E.1 E.2.1 dX6_choose_95 (lv_at hl47 0 rfl) ?_
                    refine lv_if_eq (pc := 97) (tgt := 112) E.1 E.2.1 dX6_choose_97 (by decide) (fun _ => ?_) (fun c_52 => absurd (meqE (a := 0) (b := 0) (by decide +kernel) (by decide +kernel) (by omega)) c_52)
                    obtain ⟨v_53, ev_53⟩ : ∃ z : Int32, x_22 + Int32.ofInt (1) = z := ⟨_, rfl⟩
                    have hv_53 : v_53.toInt = x_22.toInt + (1) := by rw [← ev_53]; exact incE rfl (by decide) (by omega)
                    refine lv_iinc (pc := 112) (v := v_53) (lv' := [(6, .int v_53), (9, .int 0), (7, .long w_33), (5, .int r_16), (4, .int x_8), (0, .ref (mr 0)), (1, .ref (mr 11)), (2, .int z_houses), (3, .int z_sets)]) E.1 E.2.1 dX6_choose_112 hl47 (k := 2) rfl ev_53 (by decide) rfl (fun ls hl54 => ?_)
                    refine lv_goto (pc := 115) (tgt := 31) E.1 E.2.1 dX6_choose_115 (by decide) ?_
                    exact ih_25 v_53 x_23 g_24 _ _ _ ⟨(by show 0 ≤ v_53.toInt; omega), (by show v_53.toInt ≤ z_houses.toInt; omega)⟩ (by omega) hw26 (lv_sub hl54 [0, 3, 4, 5, 6, 7, 8] rfl)
                · skip
                  have hc_46 := eqE (a := r_16.toInt) (b := x_23.toInt) rfl rfl c_46
                  refine lv_lload (pc := 69) E.1 E.2.1 dX6_choose_69 (lv_at hl34 0 rfl) ?_
                  refine lv_aload_n (pc := 71) E.1 E.2.1 dX6_choose_71 rfl (lv_at hl34 4 rfl) ?_
                  refine x_get (pc := 72) (T := TX6) (N := 10) (ci := 6) (v := .long (g_24 0)) E hw26 inX6 0 2 q_1164 rfl rfl (by decide) rfl rfl dX6_choose_72 ?_
                  refine W.lcmp (pc := 75) E.1 E.2.1 dX6_choose_75 ?_
                  refine lv_topi (fun v_55 ev_55 => ?_)
                  refine lv_if_ge (pc := 76) (tgt := 83) E.1 E.2.1 dX6_choose_76 (by decide) (fun c_56 => ?_) (fun c_56 => ?_)
                  · skip
                    have hc_56 := leE (a := 0) (b := v_55.toInt) (by decide +kernel) rfl c_56
                    refine lv_iconst (pc := 83) (v := 0) E.1 E.2.1 dX6_choose_83 (by decide +kernel) ?_
                    refine lv_istore (pc := 84) (lv' := [(9, .int 0), (7, .long w_33), (6, .int x_22), (5, .int r_16), (4, .int x_8), (0, .ref (mr 0)), (1, .ref (mr 11)), (2, .int z_houses), (3, .int z_sets)]) E.1 E.2.1 dX6_choose_84 hl34 (by decide) rfl (fun ls hl57 => ?_)
                    refine lv_lload (pc := 86) E.1 E.2.1 dX6_choose_86 (lv_at hl57 1 rfl) ?_
                    refine lv_ldc2 (pc := 88) (v := (-1)) E.1 E.2.1 E.2.2.2.1 (E.2.2.2.2.1 _ q_1206) dX6_choose_88 ?_
                    refine W.lcmp (pc := 91) E.1 E.2.1 dX6_choose_91 ?_
                    refine lv_topi (fun v_58 ev_58 => ?_)
                    refine lv_if_eq (pc := 92) (tgt := 112) E.1 E.2.1 dX6_choose_92 (by decide) (fun c_59 => ?_) (fun c_59 => ?_)
                    · skip
                      have hc_59 := eqE (a := v_58.toInt) (b := 0) rfl (by decide +kernel) c_59
                      obtain ⟨v_60, ev_60⟩ : ∃ z : Int32, x_22 + Int32.ofInt (1) = z := ⟨_, rfl⟩
                      have hv_60 : v_60.toInt = x_22.toInt + (1) := by rw [← ev_60]; exact incE rfl (by decide) (by omega)
                      refine lv_iinc (pc := 112) (v := v_60) (lv' := [(6, .int v_60), (9, .int 0), (7, .long w_33), (5, .int r_16), (4, .int x_8), (0, .ref (mr 0)), (1, .ref (mr 11)), (2, .int z_houses), (3, .int z_sets)]) E.1 E.2.1 dX6_choose_112 hl57 (k := 2) rfl ev_60 (by decide) rfl (fun ls hl61 => ?_)
                      refine lv_goto (pc := 115) (tgt := 31) E.1 E.2.1 dX6_choose_115 (by decide) ?_
                      exact ih_25 v_60 x_23 g_24 _ _ _ ⟨(by show 0 ≤ v_60.toInt; omega), (by show v_60.toInt ≤ z_houses.toInt; omega)⟩ (by omega) hw26 (lv_sub hl61 [0, 3, 4, 5, 6, 7, 8] rfl)
                    · skip
                      have hc_59 := neE (a := v_58.toInt) (b := 0) rfl (by decide +kernel) c_59
                      refine lv_iload (pc := 95) E.1 E.2.1 dX6_choose_95 (lv_at hl57 0 rfl) ?_
                      refine lv_if_eq (pc := 97) (tgt := 112) E.1 E.2.1 dX6_choose_97 (by decide) (fun _ => ?_) (fun c_62 => absurd (meqE (a := 0) (b := 0) (by decide +kernel) (by decide +kernel) (by omega)) c_62)
                      obtain ⟨v_63, ev_63⟩ : ∃ z : Int32, x_22 + Int32.ofInt (1) = z := ⟨_, rfl⟩
                      have hv_63 : v_63.toInt = x_22.toInt + (1) := by rw [← ev_63]; exact incE rfl (by decide) (by omega)
                      refine lv_iinc (pc := 112) (v := v_63) (lv' := [(6, .int v_63), (9, .int 0), (7, .long w_33), (5, .int r_16), (4, .int x_8), (0, .ref (mr 0)), (1, .ref (mr 11)), (2, .int z_houses), (3, .int z_sets)]) E.1 E.2.1 dX6_choose_112 hl57 (k := 2) rfl ev_63 (by decide) rfl (fun ls hl64 => ?_)
                      refine lv_goto (pc := 115) (tgt := 31) E.1 E.2.1 dX6_choose_115 (by decide) ?_
                      exact ih_25 v_63 x_23 g_24 _ _ _ ⟨(by show 0 ≤ v_63.toInt; omega), (by show v_63.toInt ≤ z_houses.toInt; omega)⟩ (by omega) hw26 (lv_sub hl64 [0, 3, 4, 5, 6, 7, 8] rfl)
                  · skip
                    have hc_56 := nleE (a := 0) (b := v_55.toInt) (by decide +kernel) rfl c_56
                    refine lv_iconst (pc := 79) (v := 1) E.1 E.2.1 dX6_choose_79 (by decide +kernel) ?_
                    refine lv_goto (pc := 80) (tgt := 84) E.1 E.2.1 dX6_choose_80 (by decide) ?_
                    refine lv_istore (pc := 84) (lv' := [(9, .int 1), (7, .long w_33), (6, .int x_22), (5, .int r_16), (4, .int x_8), (0, .ref (mr 0)), (1, .ref (mr 11)), (2, .int z_houses), (3, .int z_sets)]) E.1 E.2.1 dX6_choose_84 hl34 (by decide) rfl (fun ls hl65 => ?_)
                    refine lv_lload (pc := 86) E.1 E.2.1 dX6_choose_86 (lv_at hl65 1 rfl) ?_
                    refine lv_ldc2 (pc := 88) (v := (-1)) E.1 E.2.1 E.2.2.2.1 (E.2.2.2.2.1 _ q_1206) dX6_choose_88 ?_
                    refine W.lcmp (pc := 91) E.1 E.2.1 dX6_choose_91 ?_
                    refine lv_topi (fun v_66 ev_66 => ?_)
                    refine lv_if_eq (pc := 92) (tgt := 112) E.1 E.2.1 dX6_choose_92 (by decide) (fun c_67 => ?_) (fun c_67 => ?_)
                    · skip
                      have hc_67 := eqE (a := v_66.toInt) (b := 0) rfl (by decide +kernel) c_67
                      obtain ⟨v_68, ev_68⟩ : ∃ z : Int32, x_22 + Int32.ofInt (1) = z := ⟨_, rfl⟩
                      have hv_68 : v_68.toInt = x_22.toInt + (1) := by rw [← ev_68]; exact incE rfl (by decide) (by omega)
                      refine lv_iinc (pc := 112) (v := v_68) (lv' := [(6, .int v_68), (9, .int 1), (7, .long w_33), (5, .int r_16), (4, .int x_8), (0, .ref (mr 0)), (1, .ref (mr 11)), (2, .int z_houses), (3, .int z_sets)]) E.1 E.2.1 dX6_choose_112 hl65 (k := 2) rfl ev_68 (by decide) rfl (fun ls hl69 => ?_)
                      refine lv_goto (pc := 115) (tgt := 31) E.1 E.2.1 dX6_choose_115 (by decide) ?_
                      exact ih_25 v_68 x_23 g_24 _ _ _ ⟨(by show 0 ≤ v_68.toInt; omega), (by show v_68.toInt ≤ z_houses.toInt; omega)⟩ (by omega) hw26 (lv_sub hl69 [0, 3, 4, 5, 6, 7, 8] rfl)
                    · skip
                      have hc_67 := neE (a := v_66.toInt) (b := 0) rfl (by decide +kernel) c_67
                      refine lv_iload (pc := 95) E.1 E.2.1 dX6_choose_95 (lv_at hl65 0 rfl) ?_
                      refine lv_if_eq (pc := 97) (tgt := 112) E.1 E.2.1 dX6_choose_97 (by decide) (fun c_70 => absurd c_70 (mneE (a := 1) (b := 0) (by decide +kernel) (by decide +kernel) (by omega))) (fun _ => ?_)
                      refine lv_aload_n (pc := 100) E.1 E.2.1 dX6_choose_100 rfl (lv_at hl65 5 rfl) ?_
                      refine lv_iload (pc := 101) E.1 E.2.1 dX6_choose_101 (lv_at hl65 3 rfl) ?_
                      refine x_put (pc := 103) (T := TX6) (N := 10) (ci := 6) (ws' := (WZ_PV1 cI cJ mr (upd mi 2 r_16) mf (va_up mg 3 g_24))) E hw26 inX6 tyX6_ok nmX6 0 1 q_1162 rfl rfl (by decide) rfl rfl rfl rfl (Nat.le_of_ble_eq_true rfl) rfl dX6_choose_103 (fun H locs hw71 => ?_)
                      refine lv_aload_n (pc := 106) E.1 E.2.1 dX6_choose_106 rfl (lv_at hl65 5 rfl) ?_
                      refine lv_lload (pc := 107) E.1 E.2.1 dX6_choose_107 (lv_at hl65 1 rfl) ?_
                      refine x_put (pc := 109) (T := TX6) (N := 10) (ci := 6) (ws' := (WZ_PV1 cI cJ mr (upd mi 2 r_16) mf (va_up mg 3 (fun _ => w_33)))) E hw71 inX6 tyX6_ok nmX6 0 2 q_1164 rfl rfl (by decide) rfl rfl rfl rfl (Nat.le_of_ble_eq_true rfl) rfl dX6_choose_109 (fun H locs hw72 => ?_)
                      obtain ⟨v_73, ev_73⟩ : ∃ z : Int32, x_22 + Int32.ofInt (1) = z := ⟨_, rfl⟩
                      have hv_73 : v_73.toInt = x_22.toInt + (1) := by rw [← ev_73]; exact incE rfl (by decide) (by omega)
                      refine lv_iinc (pc := 112) (v := v_73) (lv' := [(6, .int v_73), (9, .int 1), (7, .long w_33), (5, .int r_16), (4, .int x_8), (0, .ref (mr 0)), (1, .ref (mr 11)), (2, .int z_houses), (3, .int z_sets)]) E.1 E.2.1 dX6_choose_112 hl65 (k := 2) rfl ev_73 (by decide) rfl (fun ls hl74 => ?_)
                      refine lv_goto (pc := 115) (tgt := 31) E.1 E.2.1 dX6_choose_115 (by decide) ?_
                      exact ih_25 v_73 r_16 (fun _ => w_33) _ _ _ ⟨(by show 0 ≤ v_73.toInt; omega), (by show v_73.toInt ≤ z_houses.toInt; omega)⟩ (by omega) hw72 (lv_sub hl74 [0, 3, 4, 5, 6, 7, 8] rfl)
        exact loop_21 (Int.toNat (z_houses.toInt - 0) + 1) 0 x_9 g_10 _ _ _ ⟨(by show 0 ≤ (0 : Int32).toInt; have k_0 : (0 : Int32).toInt = 0 := (by decide +kernel); omega), (by show (0 : Int32).toInt ≤ z_houses.toInt; have k_0 : (0 : Int32).toInt = 0 := (by decide +kernel); omega)⟩ (by have k_0 : (0 : Int32).toInt = 0 := (by decide +kernel); omega) hw18 (lv_sub hl20 [0, 1, 2, 3, 4, 5, 6] rfl)
  exact loop_7 (Int.toNat (z_sets.toInt - 0) + 1) 0 (-1) (fun _ => 0) _ _ _ ⟨(by show 0 ≤ (0 : Int32).toInt; have k_0 : (0 : Int32).toInt = 0 := (by decide +kernel); omega), (by show (0 : Int32).toInt ≤ z_sets.toInt; have k_0 : (0 : Int32).toInt = 0 := (by decide +kernel); omega)⟩ (by have k_0 : (0 : Int32).toInt = 0 := (by decide +kernel); have k_1 : ((-1) : Int32).toInt = -1 := (by decide +kernel); omega) hw5 (lv_sub hl6 [0, 1, 2, 3, 4] rfl)
set_option maxHeartbeats 4000000 in
set_option maxRecDepth 100000 in
theorem t_search1 (l : Launch) (D : va_G) (cI cJ : ClassId) (sz : Nat) (mr : Nat → Nat) (mi : Nat → Int32) (mf : Nat → Nat → Int32) (mg : Nat → Nat → Int64) (z_n : Int32) (h0 : 0 ≤ (mi 40).toInt ∧ (mi 40).toInt ≤ 10) (h1 : 0 ≤ (mi 49).toInt ∧ (mi 49).toInt ≤ 40) (h2 : 0 ≤ (mi 58).toInt ∧ (mi 58).toInt ≤ 10) (h3 : 1 ≤ z_n.toInt ∧ z_n.toInt ≤ 10) (a_p_from : p9 (mf 45)) (a_p_to : p9 (mf 46)) (a_wanted : w9 (mf 7)) (a_served : s1k (mf 9)) (a_wed : s1k (mf 10)) : Met l yX6_search (Cond.code yX6_search cX6_search 8 none :: GW) ({ frames := 5, cells := 0, slots := 0, locals := 139 } : Room) (va_Pc [.ref (mr 0), .ref (mr 11), .int z_n] (PW D cI cJ sz (WZ_PV1 cI cJ mr mi mf mg) xT)) (va_Qv (fun (u : Int32 × (Nat → Int32) × (Nat → Int32) × (Nat → Int64) × (Nat → Int64) × (Nat → Int32) × (Nat → Int32) × Int32 × (Nat → Int64) × Int32 × (Nat → Int32) × (Nat → Int32)) => (u.2.2.2.2.2.2.2.2.2.1.toInt = z_n.toInt) ∧ (0 ≤ u.1.toInt) ∧ (u.1.toInt ≤ 10) ∧ (s1k u.2.2.2.2.2.1) ∧ (s1k u.2.2.2.2.2.2.1) ∧ (w9 u.2.1)) (fun u => QW D cI cJ (va_A (WZ_PV1 cI cJ mr mi mf mg) sz) ((fun (u : Int32 × (Nat → Int32) × (Nat → Int32) × (Nat → Int64) × (Nat → Int64) × (Nat → Int32) × (Nat → Int32) × Int32 × (Nat → Int64) × Int32 × (Nat → Int32) × (Nat → Int32)) => (WZ_PV1 cI cJ mr (upd (upd (upd mi 8 u.1) 2 u.2.2.2.2.2.2.2.1) 1 u.2.2.2.2.2.2.2.2.2.1) (va_up (va_up (va_up (va_up (va_up (va_up mf 7 u.2.1) 6 u.2.2.1) 9 u.2.2.2.2.2.1) 10 u.2.2.2.2.2.2.1) 50 u.2.2.2.2.2.2.2.2.2.2.1) 51 u.2.2.2.2.2.2.2.2.2.2.2) (va_up (va_up (va_up mg 4 u.2.2.2.1) 5 u.2.2.2.2.1) 3 u.2.2.2.2.2.2.2.2.1))) u)) (va_A (WZ_PV1 cI cJ mr mi mf mg) sz)) 0 0 (va_A (WZ_PV1 cI cJ mr mi mf mg) sz) := by
  refine mk_met (y := yX6_search) (bytes := cX6_search) (maxL := 8) (avs := [.ref (mr 0), .ref (mr 11), .int z_n]) (WS := (WZ_PV1 cI cJ mr mi mf mg)) (Qf := fun A => va_Qv (fun (u : Int32 × (Nat → Int32) × (Nat → Int32) × (Nat → Int64) × (Nat → Int64) × (Nat → Int32) × (Nat → Int32) × Int32 × (Nat → Int64) × Int32 × (Nat → Int32) × (Nat → Int32)) => (u.2.2.2.2.2.2.2.2.2.1.toInt = z_n.toInt) ∧ (0 ≤ u.1.toInt) ∧ (u.1.toInt ≤ 10) ∧ (s1k u.2.2.2.2.2.1) ∧ (s1k u.2.2.2.2.2.2.1) ∧ (w9 u.2.1)) (fun u => QW D cI cJ A ((fun (u : Int32 × (Nat → Int32) × (Nat → Int32) × (Nat → Int64) × (Nat → Int64) × (Nat → Int32) × (Nat → Int32) × Int32 × (Nat → Int64) × Int32 × (Nat → Int32) × (Nat → Int32)) => (WZ_PV1 cI cJ mr (upd (upd (upd mi 8 u.1) 2 u.2.2.2.2.2.2.2.1) 1 u.2.2.2.2.2.2.2.2.2.1) (va_up (va_up (va_up (va_up (va_up (va_up mf 7 u.2.1) 6 u.2.2.1) 9 u.2.2.2.2.2.1) 10 u.2.2.2.2.2.2.1) 50 u.2.2.2.2.2.2.2.2.2.2.1) 51 u.2.2.2.2.2.2.2.2.2.2.2) (va_up (va_up (va_up mg 4 u.2.2.2.1) 5 u.2.2.2.2.1) 3 u.2.2.2.2.2.2.2.2.1))) u)) A) (by decide) (Nat.le_of_ble_eq_true rfl) ?_
  intro p e s m below meth c A ls E hr hlk hnm hX hw1 hl2
  have hl3 : lv_has ls 8 [(0, .ref (mr 0)), (1, .ref (mr 11)), (2, .int z_n)] := hl2
  refine lv_aload_n (pc := 0) E.1 E.2.1 dX6_search_0 rfl (lv_at hl3 0 rfl) ?_
  refine lv_aload_n (pc := 1) E.1 E.2.1 dX6_search_1 rfl (lv_at hl3 1 rfl) ?_
  refine lv_iload_n (pc := 2) E.1 E.2.1 dX6_search_2 rfl (lv_at hl3 2 rfl) ?_
  refine cq_v (pc := 3) (ws' := (fun (u : Int32 × (Nat → Int32)) => (WZ_PV1 cI cJ mr (upd mi 8 u.1) (va_up mf 7 u.2) mg))) hw1 [0, 1, 2, 3, 4, 5, 6, 7, 8, 9, 10, 11, 12, 13, 14, 15, 16, 17, 18, 19, 20, 21, 22, 23, 24, 25, 26, 27, 28, 29, 30, 31, 32, 33, 34, 35, 36, 37, 38, 39, 40, 41, 42, 43, 44, 45, 46, 47, 48, 49, 50, 51, 52, 53, 54, 55, 56, 57] [] [0, 1, 2, 3, 4, 5, 6, 7, 8, 9, 10, 11, 12, 13, 14, 15, 16, 17, 18, 19, 20, 21, 22, 23, 24, 25, 26, 27, 28, 29, 30, 31, 32, 33, 34, 35, 36, 37, 38, 39, 40, 41, 42, 43, 44, 45, 46, 47, 48, 49, 50, 51, 52, 53, 54, 55, 56, 57] rfl rfl (by decide) (by decide) (fun _ => rfl) (by decide) (rn_V (As := [.ref (mr 11), .int z_n]) (rest := []) E hw1 (t_gatherNeeds1 l D cI cJ _ (ixf [0, 1, 2, 3, 4, 5, 6, 7, 8, 9, 10, 11, 12, 13, 14, 15, 16, 17, 18, 19, 20, 21, 22, 23, 24, 25, 26, 27, 28, 29, 30, 31, 32, 33, 34, 35, 36, 37, 38, 39, 40, 41, 42, 43, 44, 45, 46, 47, 48, 49, 50, 51, 52, 53, 54, 55, 56, 57, 58, 59, 60, 61, 62, 63, 64, 65, 66, 67, 68, 69, 70, 71, 72, 73, 74, 75, 76, 77, 78, 79, 80, 81, 82, 83, 84, 85, 86, 87, 88] mr) (ixf [0, 1, 2, 3, 4, 5, 6, 7, 8, 9, 10, 11, 12, 13, 14, 15, 16, 17, 18, 19, 20, 21, 22, 23, 24, 25, 26, 27, 28, 29, 30, 31, 32, 33, 34, 35, 36, 37, 38, 39, 40, 41, 42, 43, 44, 45, 46, 47, 48, 49, 50, 51, 52, 53, 54, 55, 56, 57, 58, 59, 60, 61, 62, 63, 64, 65, 66, 67, 68, 69, 70, 71, 72, 73, 74, 75, 76, 77, 78, 79, 80, 81, 82, 83, 84, 85, 86, 87, 88] mi) (ixf [0, 1, 2, 3, 4, 5, 6, 7, 8, 9, 10, 11, 12, 13, 14, 15, 16, 17, 18, 19, 20, 21, 22, 23, 24, 25, 26, 27, 28, 29, 30, 31, 32, 33, 34, 35, 36, 37, 38, 39, 40, 41, 42, 43, 44, 45, 46, 47, 48, 49, 50, 51, 52, 53, 54, 55, 56, 57, 58, 59, 60, 61, 62, 63, 64, 65, 66, 67, 68, 69, 70, 71, 72, 73, 74, 75, 76, 77, 78, 79, 80, 81, 82, 83, 84, 85, 86, 87, 88] mf) (ixf [0, 1, 2, 3, 4, 5, 6, 7, 8, 9, 10, 11, 12, 13, 14, 15, 16, 17, 18, 19, 20, 21, 22, 23, 24, 25, 26, 27, 28, 29, 30, 31, 32, 33, 34, 35, 36, 37, 38, 39, 40, 41, 42, 43, 44, 45, 46, 47, 48, 49, 50, 51, 52, 53, 54, 55, 56, 57, 58, 59, 60, 61, 62, 63, 64, 65, 66, 67, 68, 69, 70, 71, 72, 73, 74, 75, 76, 77, 78, 79, 80, 81, 82, 83, 84, 85, 86, 87, 88] mg) z_n (by show 0 ≤ (mi 40).toInt ∧ (mi 40).toInt ≤ 10; omega) (by show 0 ≤ (mi 49).toInt ∧ (mi 49).toInt ≤ 40; omega) (by show 0 ≤ (mi 58).toInt ∧ (mi 58).toInt ≤ 10; omega) a_wanted) (gdV q_1197 q_1199 q_31 q_170 q_1200) hdV_X6_gatherNeeds ⟨rfl, rfl⟩ ⟨(Nat.le_of_ble_eq_true rfl), (Nat.le_of_ble_eq_true rfl)⟩ ⟨(Nat.le_of_ble_eq_true rfl), (Nat.le_of_ble_eq_true rfl)⟩ xT_b xT_at 0 6 rfl rfl rfl [0, 1, 2, 3, 4, 5, 6, 7, 8, 9, 10, 11, 12, 13, 14, 15, 16, 17, 18, 19, 20, 21, 22, 23, 24, 25, 26, 27, 28, 29, 30, 31, 32, 33, 34, 35, 36, 37, 38, 39, 40, 41, 42, 43, 44, 45, 46, 47, 48, 49, 50, 51, 52, 53, 54, 55, 56, 57] rfl (by decide) rfl hl3.1 rfl (Nat.le_of_ble_eq_true rfl) dX6_search_3) (fun u_4 H1 locs hp hw6 => ?_)
  obtain ⟨nwants_7, gwanted_8⟩ := u_4
  generalize H1 = H at hw6 ⊢
  have hw9 : WD D A s.heap (WZ_PV1 cI cJ mr (upd mi 8 nwants_7) (va_up mf 7 gwanted_8) mg) H locs := hw6
  obtain ⟨hp_10, hp_11, hp_12⟩ := hp
  have hp_10 : 0 ≤ nwants_7.toInt := hp_10
  have hp_11 : nwants_7.toInt ≤ 10 := hp_11
  refine lv_aload_n (pc := 6) E.1 E.2.1 dX6_search_6 rfl (lv_at hl3 0 rfl) ?_
  refine lv_aload_n (pc := 7) E.1 E.2.1 dX6_search_7 rfl (lv_at hl3 1 rfl) ?_
  refine cq_v (pc := 8) (ws' := (fun (u : (Nat → Int32) × (Nat → Int32) × (Nat → Int32)) => (WZ_PV1 cI cJ mr (upd mi 8 nwants_7) (va_up (va_up (va_up (va_up mf 6 u.1) 7 gwanted_8) 50 u.2.1) 51 u.2.2) mg))) hw9 [0, 1, 2, 3, 4, 5, 6, 7, 8, 9, 10, 11, 12, 13, 14, 15, 16, 17, 18, 19, 20, 21, 22, 23, 24, 25, 26, 27, 28, 29, 30, 31, 32, 33, 34, 35, 36, 37, 38, 39, 40, 41, 42, 43, 44, 45, 46, 47, 48, 49, 50, 51, 52, 53, 54, 55, 56, 57] [] [0, 1, 2, 3, 4, 5, 6, 7, 8, 9, 10, 11, 12, 13, 14, 15, 16, 17, 18, 19, 20, 21, 22, 23, 24, 25, 26, 27, 28, 29, 30, 31, 32, 33, 34, 35, 36, 37, 38, 39, 40, 41, 42, 43, 44, 45, 46, 47, 48, 49, 50, 51, 52, 53, 54, 55, 56, 57] rfl rfl (by decide) (by decide) (fun _ => rfl) (by decide) (rn_V (As := [.ref (mr 11)]) (rest := []) E hw9 (t_gatherHops1 l D cI cJ _ (ixf [0, 1, 2, 3, 4, 5, 6, 7, 8, 9, 10, 11, 12, 13, 14, 15, 16, 17, 18, 19, 20, 21, 22, 23, 24, 25, 26, 27, 28, 29, 30, 31, 32, 33, 34, 35, 36, 37, 38, 39, 40, 41, 42, 43, 44, 45, 46, 47, 48, 49, 50, 51, 52, 53, 54, 55, 56, 57, 58, 59, 60, 61, 62, 63, 64, 65, 66, 67, 68, 69, 70, 71, 72, 73, 74, 75, 76, 77, 78, 79, 80, 81, 82, 83, 84, 85, 86, 87, 88] mr) (ixf [0, 1, 2, 3, 4, 5, 6, 7, 8, 9, 10, 11, 12, 13, 14, 15, 16, 17, 18, 19, 20, 21, 22, 23, 24, 25, 26, 27, 28, 29, 30, 31, 32, 33, 34, 35, 36, 37, 38, 39, 40, 41, 42, 43, 44, 45, 46, 47, 48, 49, 50, 51, 52, 53, 54, 55, 56, 57, 58, 59, 60, 61, 62, 63, 64, 65, 66, 67, 68, 69, 70, 71, 72, 73, 74, 75, 76, 77, 78, 79, 80, 81, 82, 83, 84, 85, 86, 87, 88] (upd mi 8 nwants_7)) (ixf [0, 1, 2, 3, 4, 5, 6, 7, 8, 9, 10, 11, 12, 13, 14, 15, 16, 17, 18, 19, 20, 21, 22, 23, 24, 25, 26, 27, 28, 29, 30, 31, 32, 33, 34, 35, 36, 37, 38, 39, 40, 41, 42, 43, 44, 45, 46, 47, 48, 49, 50, 51, 52, 53, 54, 55, 56, 57, 58, 59, 60, 61, 62, 63, 64, 65, 66, 67, 68, 69, 70, 71, 72, 73, 74, 75, 76, 77, 78, 79, 80, 81, 82, 83, 84, 85, 86, 87, 88] (va_up mf 7 gwanted_8)) (ixf [0, 1, 2, 3, 4, 5, 6, 7, 8, 9, 10, 11, 12, 13, 14, 15, 16, 17, 18, 19, 20, 21, 22, 23, 24, 25, 26, 27, 28, 29, 30, 31, 32, 33, 34, 35, 36, 37, 38, 39, 40, 41, 42, 43, 44, 45, 46, 47, 48, 49, 50, 51, 52, 53, 54, 55, 56, 57, 58, 59, 60, 61, 62, 63, 64, 65, 66, 67, 68, 69, 70, 71, 72, 73, 74, 75, 76, 77, 78, 79, 80, 81, 82, 83, 84, 85, 86, 87, 88] mg) (by show 0 ≤ (mi 40).toInt ∧ (mi 40).toInt ≤ 10; omega) (by show 0 ≤ (mi 49).toInt ∧ (mi 49).toInt ≤ 40; omega) (by show 0 ≤ (mi 58).toInt ∧ (mi 58).toInt ≤ 10; omega) a_p_from a_p_to) (gdV q_1201 q_1203 q_32 q_170 q_1204) hdV_X6_gatherHops ⟨rfl, rfl⟩ ⟨(Nat.le_of_ble_eq_true rfl), (Nat.le_of_ble_eq_true rfl)⟩ ⟨(Nat.le_of_ble_eq_true rfl), (Nat.le_of_ble_eq_true rfl)⟩ xT_b xT_at 0 6 rfl rfl rfl [0, 1, 2, 3, 4, 5, 6, 7, 8, 9, 10, 11, 12, 13, 14, 15, 16, 17, 18, 19, 20, 21, 22, 23, 24, 25, 26, 27, 28, 29, 30, 31, 32, 33, 34, 35, 36, 37, 38, 39, 40, 41, 42, 43, 44, 45, 46, 47, 48, 49, 50, 51, 52, 53, 54, 55, 56, 57] rfl (by decide) rfl hl3.1 rfl (Nat.le_of_ble_eq_true rfl) dX6_search_8) (fun u_13 H1 locs hp hw15 => ?_)
  obtain ⟨ghops_16, gpmeasured_17, gpmeasuredIn_18⟩ := u_13
  generalize H1 = H at hw15 ⊢
  have hw19 : WD D A s.heap (WZ_PV1 cI cJ mr (upd mi 8 nwants_7) (va_up (va_up (va_up (va_up mf 6 ghops_16) 7 gwanted_8) 50 gpmeasured_17) 51 gpmeasuredIn_18) mg) H locs := hw15
  refine lv_aload_n (pc := 11) E.1 E.2.1 dX6_search_11 rfl (lv_at hl3 1 rfl) ?_
  refine x_get (pc := 12) (T := TX10) (N := 17) (ci := 10) (v := .ref (mr 34)) E hw19 inX10 7 1 q_462 rfl rfl (by decide) rfl rfl dX6_search_12 ?_
  refine x_get (pc := 15) (T := TX1) (N := 9) (ci := 1) (v := .int (mi 40)) E hw19 inX1 19 5 q_280 rfl rfl (by decide) rfl rfl dX6_search_15 ?_
  refine lv_istore_n (pc := 18) (lv' := [(3, .int (mi 40)), (0, .ref (mr 0)), (1, .ref (mr 11)), (2, .int z_n)]) E.1 E.2.1 dX6_search_18 rfl hl3 (by decide) rfl (fun ls hl20 => ?_)
  refine lv_iconst (pc := 19) (v := 1) E.1 E.2.1 dX6_search_19 (by decide +kernel) ?_
  refine lv_aload_n (pc := 20) E.1 E.2.1 dX6_search_20 rfl (lv_at hl20 1 rfl) ?_
  refine x_get (pc := 21) (T := TX6) (N := 10) (ci := 6) (v := .int nwants_7) E hw19 inX6 0 7 q_1169 rfl rfl (by decide) rfl rfl dX6_search_21 ?_
  refine lv_ishl (pc := 24) E.1 E.2.1 dX6_search_24 ?_
  refine lv_topi (fun v_21 ev_21 => ?_)
  have hb1v_21 : 1 ≤ v_21.toInt ∧ v_21.toInt ≤ 1024 := by rw [ev_21]; exact shl10 (by omega)
  refine lv_istore (pc := 25) (lv' := [(4, .int v_21), (3, .int (mi 40)), (0, .ref (mr 0)), (1, .ref (mr 11)), (2, .int z_n)]) E.1 E.2.1 dX6_search_25 hl20 (by decide) rfl (fun ls hl22 => ?_)
  refine lv_iconst (pc := 27) (v := 0) E.1 E.2.1 dX6_search_27 (by decide +kernel) ?_
  refine lv_istore (pc := 28) (lv' := [(5, .int 0), (4, .int v_21), (3, .int (mi 40)), (0, .ref (mr 0)), (1, .ref (mr 11)), (2, .int z_n)]) E.1 E.2.1 dX6_search_28 hl22 (by decide) rfl (fun ls hl23 => ?_)
  have loop_24 : ∀ (k : Nat) (x_25 : Int32) (g_26 : Nat → Int64) (H : Heap) (locs : List Loc) (ls : Array Slot), (0 ≤ x_25.toInt) ∧ (x_25.toInt ≤ 10240) → 10240 - x_25.toInt < (k : Int) → WD D A s.heap (WZ_PV1 cI cJ mr (upd mi 8 nwants_7) (va_up (va_up (va_up (va_up mf 6 ghops_16) 7 gwanted_8) 50 gpmeasured_17) 51 gpmeasuredIn_18) (va_up mg 4 g_26)) H locs → lv_has ls 8 [(5, .int x_25), (4, .int v_21), (3, .int (mi 40)), (0, .ref (mr 0)), (1, .ref (mr 11)), (2, .int z_n)] → W p l e ({ frames := 5, cells := 0, slots := 0, locals := 139 } : Room) s m ([.ref (mr 0), .ref (mr 11), .int z_n] : List Value).toArray below meth c H locs 0 0 (MQ below (va_Qv (fun (u : Int32 × (Nat → Int32) × (Nat → Int32) × (Nat → Int64) × (Nat → Int64) × (Nat → Int32) × (Nat → Int32) × Int32 × (Nat → Int64) × Int32 × (Nat → Int32) × (Nat → Int32)) => (u.2.2.2.2.2.2.2.2.2.1.toInt = z_n.toInt) ∧ (0 ≤ u.1.toInt) ∧ (u.1.toInt ≤ 10) ∧ (s1k u.2.2.2.2.2.1) ∧ (s1k u.2.2.2.2.2.2.1) ∧ (w9 u.2.1)) (fun u => QW D cI cJ A ((fun (u : Int32 × (Nat → Int32) × (Nat → Int32) × (Nat → Int64) × (Nat → Int64) × (Nat → Int32) × (Nat → Int32) × Int32 × (Nat → Int64) × Int32 × (Nat → Int32) × (Nat → Int32)) => (WZ_PV1 cI cJ mr (upd (upd (upd mi 8 u.1) 2 u.2.2.2.2.2.2.2.1) 1 u.2.2.2.2.2.2.2.2.2.1) (va_up (va_up (va_up (va_up (va_up (va_up mf 7 u.2.1) 6 u.2.2.1) 9 u.2.2.2.2.2.1) 10 u.2.2.2.2.2.2.1) 50 u.2.2.2.2.2.2.2.2.2.2.1) 51 u.2.2.2.2.2.2.2.2.2.2.2) (va_up (va_up (va_up mg 4 u.2.2.2.1) 5 u.2.2.2.2.1) 3 u.2.2.2.2.2.2.2.2.1))) u)) A) ([.ref (mr 0), .ref (mr 11), .int z_n] : List Value).toArray s 0 0 A) (F0 m 30 ls []) := by
    intro k
    induction k with
    | zero =>
      intro x_25 g_26 _ _ _ hinv hm
      obtain ⟨hi_26_0, hi_26_1⟩ := hinv
      exact absurd hm (by omega)
    | succ k ih_27 =>
      intro x_25 g_26 H locs ls hinv hm hw28 hl29
      obtain ⟨hi_26_0, hi_26_1⟩ := hinv
      refine lv_iload (pc := 30) E.1 E.2.1 dX6_search_30 (lv_at hl29 0 rfl) ?_
      refine lv_iload_n (pc := 32) E.1 E.2.1 dX6_search_32 rfl (lv_at hl29 2 rfl) ?_
      refine lv_iload (pc := 33) E.1 E.2.1 dX6_search_33 (lv_at hl29 1 rfl) ?_
      refine lv_imul (pc := 35) E.1 E.2.1 dX6_search_35 ?_
      refine lv_topi (fun v_30 ev_30 => ?_)
      have hbv_30 : 0 ≤ v_30.toInt ∧ v_30.toInt ≤ 10240 := by rw [ev_30]; exact mulB (a := 10) (b := 1024) (by omega) (by omega) (by decide)
      refine lv_icmp_ge (pc := 36) (tgt := 65) E.1 E.2.1 dX6_search_36 (by decide) (fun c_31 => ?_) (fun c_31 => ?_)
      · skip
        have hc_31 := leE (a := v_30.toInt) (b := x_25.toInt) rfl rfl c_31
        refine lv_aload_n (pc := 65) E.1 E.2.1 dX6_search_65 rfl (lv_at hl29 4 rfl) ?_
        refine x_get (pc := 66) (T := TX10) (N := 17) (ci := 10) (v := .ref (mr 34)) E hw28 inX10 7 1 q_462 rfl rfl (by decide) rfl rfl dX6_search_66 ?_
        refine lv_aload_n (pc := 69) E.1 E.2.1 dX6_search_69 rfl (lv_at hl29 4 rfl) ?_
        refine x_get (pc := 70) (T := TX10) (N := 17) (ci := 10) (v := .ref (mr 21)) E hw28 inX10 7 0 q_459 rfl rfl (by decide) rfl rfl dX6_search_70 ?_
        refine x_get (pc := 73) (T := TX4) (N := 12) (ci := 4) (v := .int (mi 28)) E hw28 inX4 13 6 q_214 rfl rfl (by decide) rfl rfl dX6_search_73 ?_
        refine cq_i (pc := 76) (ws' := (fun (u : Unit) => (WZ_PV1 cI cJ mr (upd mi 8 nwants_7) (va_up (va_up (va_up (va_up mf 6 ghops_16) 7 gwanted_8) 50 gpmeasured_17) 51 gpmeasuredIn_18) (va_up mg 4 g_26)))) hw28 [19, 20, 21, 22, 23, 24, 25, 26, 27] [0, 1, 2, 3, 4, 5, 6, 7, 8, 9, 10, 11, 12, 13, 14, 15, 16, 17, 18, 28, 29, 30, 31, 32, 33, 34, 35, 36, 37, 38, 39, 40, 41, 42, 43, 44, 45, 46, 47, 48, 49, 50, 51, 52, 53, 54, 55, 56, 57] [0, 1, 2, 3, 4, 5, 6, 7, 8, 9, 10, 11, 12, 13, 14, 15, 16, 17, 18, 49, 50, 51, 52, 53, 54, 55, 56, 57, 19, 20, 21, 22, 23, 24, 25, 26, 27, 28, 29, 30, 31, 32, 33, 34, 35, 36, 37, 38, 39, 40, 41, 42, 43, 44, 45, 46, 47, 48] rfl rfl (by decide) (by decide) (fun _ => rfl) (by decide) (rn_V (As := [.int (mi 28)]) (rest := []) E hw28 (t_has1 l D cI cJ _ (ixf [34, 35, 36, 37, 38, 39, 40, 41, 42, 43] mr) (ixf [34, 35, 36, 37, 38, 39, 40, 41, 42, 43] (upd mi 8 nwants_7)) (ixf [34, 35, 36, 37, 38, 39, 40, 41, 42, 43] (va_up (va_up (va_up (va_up mf 6 ghops_16) 7 gwanted_8) 50 gpmeasured_17) 51 gpmeasuredIn_18)) (ixf [34, 35, 36, 37, 38, 39, 40, 41, 42, 43] (va_up mg 4 g_26)) (mi 28)) (gdV q_1207 q_675 q_676 q_154 q_677) hdV_X1_has ⟨rfl, rfl⟩ ⟨(Nat.le_of_ble_eq_true rfl), (Nat.le_of_ble_eq_true rfl)⟩ ⟨(Nat.le_of_ble_eq_true rfl), (Nat.le_of_ble_eq_true rfl)⟩ xT_b xT_at 19 1 rfl rfl rfl [19, 20, 21, 22, 23, 24, 25, 26, 27] rfl (by decide) rfl hl29.1 rfl (Nat.le_of_ble_eq_true rfl) dX6_search_76) (fun r_33 u_32 H1 locs hp hw34 => ?_)
        generalize H1 = H at hw34 ⊢
        have hw35 : WD D A s.heap (WZ_PV1 cI cJ mr (upd mi 8 nwants_7) (va_up (va_up (va_up (va_up mf 6 ghops_16) 7 gwanted_8) 50 gpmeasured_17) 51 gpmeasuredIn_18) (va_up mg 4 g_26)) H locs := hw34
        have hp_36 := hp
        rcases hp_36 with ⟨rfl, ha_37, ha_38, ha_39⟩ | rfl
        · skip
          have ha_37 : 0 ≤ (mi 28).toInt := ha_37
          have ha_38 : (mi 28).toInt + 1 ≤ (mi 40).toInt := ha_38
          have ha_39 : (mi 28).toInt ≤ 9 := ha_39
          refine lv_if_eq (pc := 79) (tgt := 95) E.1 E.2.1 dX6_search_79 (by decide) (fun c_40 => absurd c_40 (mneE (a := 1) (b := 0) (by decide +kernel) (by decide +kernel) (by omega))) (fun _ => ?_)
          refine lv_aload_n (pc := 82) E.1 E.2.1 dX6_search_82 rfl (lv_at hl29 3 rfl) ?_
          refine x_get (pc := 83) (T := TX6) (N := 10) (ci := 6) (v := .ref (mr 4)) E hw35 inX6 0 3 q_1165 rfl rfl (by decide) rfl rfl dX6_search_83 ?_
          refine lv_aload_n (pc := 86) E.1 E.2.1 dX6_search_86 rfl (lv_at hl29 4 rfl) ?_
          refine x_get (pc := 87) (T := TX10) (N := 17) (ci := 10) (v := .ref (mr 21)) E hw35 inX10 7 0 q_459 rfl rfl (by decide) rfl rfl dX6_search_87 ?_
          refine x_get (pc := 90) (T := TX4) (N := 12) (ci := 4) (v := .int (mi 28)) E hw35 inX4 13 6 q_214 rfl rfl (by decide) rfl rfl dX6_search_90 ?_
          refine lv_lconst (pc := 93) (v := 0) E.1 E.2.1 dX6_search_93 (by decide +kernel) ?_
          refine x_lastO (pc := 94) (f := g_26) (wf := fun g => (WZ_PV1 cI cJ mr (upd mi 8 nwants_7) (va_up (va_up (va_up (va_up mf 6 ghops_16) 7 gwanted_8) 50 gpmeasured_17) 51 gpmeasuredIn_18) (va_up mg 4 g))) E hw35 1 rfl (inbE (a := (mi 28).toInt) rfl (by omega)) (fun _ => rfl) dX6_search_94 (fun g_41 H locs hw42 => ?_)
          refine lv_iload_n (pc := 95) E.1 E.2.1 dX6_search_95 rfl (lv_at hl29 5 rfl) ?_
          refine lv_iconst (pc := 96) (v := 1) E.1 E.2.1 dX6_search_96 (by decide +kernel) ?_
          refine lv_isub (pc := 97) E.1 E.2.1 dX6_search_97 ?_
          refine lv_topi (fun v_43 ev_43 => ?_)
          have hv_43 : v_43.toInt = z_n.toInt - 1 := by rw [ev_43]; exact subE rfl (by decide +kernel) (by omega)
          refine cq_l (pc := 98) (ws' := (fun (u : Unit) => (WZ_PV1 cI cJ mr (upd mi 8 nwants_7) (va_up (va_up (va_up (va_up mf 6 ghops_16) 7 gwanted_8) 50 gpmeasured_17) 51 gpmeasuredIn_18) (va_up mg 4 g_41)))) hw42 [] [0, 1, 2, 3, 4, 5, 6, 7, 8, 9, 10, 11, 12, 13, 14, 15, 16, 17, 18, 19, 20, 21, 22, 23, 24, 25, 26, 27, 28, 29, 30, 31, 32, 33, 34, 35, 36, 37, 38, 39, 40, 41, 42, 43, 44, 45, 46, 47, 48, 49, 50, 51, 52, 53, 54, 55, 56, 57] [0, 1, 2, 3, 4, 5, 6, 7, 8, 9, 10, 11, 12, 13, 14, 15, 16, 17, 18, 19, 20, 21, 22, 23, 24, 25, 26, 27, 28, 29, 30, 31, 32, 33, 34, 35, 36, 37, 38, 39, 40, 41, 42, 43, 44, 45, 46, 47, 48, 49, 50, 51, 52, 53, 54, 55, 56, 57] rfl rfl (by decide) (by decide) (fun _ => rfl) (by decide) (rn_S (As := [.int v_43]) (rest := []) E hw42 (t_power l D cI cJ _ (ixf [] mr) (ixf [] (upd mi 8 nwants_7)) (ixf [] (va_up (va_up (va_up (va_up mf 6 ghops_16) 7 gwanted_8) 50 gpmeasured_17) 51 gpmeasuredIn_18)) (ixf [] (va_up mg 4 g_41)) v_43 (by show 0 ≤ v_43.toInt ∧ v_43.toInt ≤ 9; omega)) (gdS q_1208 q_1209 q_170 q_1210) hdV_X6_power ⟨rfl, rfl⟩ ⟨(Nat.le_of_ble_eq_true rfl), (Nat.le_of_ble_eq_true rfl)⟩ ⟨(Nat.le_of_ble_eq_true rfl), (Nat.le_of_ble_eq_true rfl)⟩ xT_b xT_at [] rfl (by decide) rfl hl29.1 rfl (Nat.le_of_ble_eq_true rfl) dX6_search_98) (fun r_45 u_44 H1 locs hp hw46 => ?_)
          generalize H1 = H at hw46 ⊢
          have hw47 : WD D A s.heap (WZ_PV1 cI cJ mr (upd mi 8 nwants_7) (va_up (va_up (va_up (va_up mf 6 ghops_16) 7 gwanted_8) 50 gpmeasured_17) 51 gpmeasuredIn_18) (va_up mg 4 g_41)) H locs := hw46
          have hp_48 := hp
          have hp_48 : ¬ r_45 = 0 := hp_48
          refine lv_lstore (pc := 101) (lv' := [(5, .long r_45), (4, .int v_21), (3, .int (mi 40)), (0, .ref (mr 0)), (1, .ref (mr 11)), (2, .int z_n)]) E.1 E.2.1 dX6_search_101 hl29 (by decide) rfl (fun ls hl49 => ?_)
          refine lv_iconst (pc := 103) (v := 0) E.1 E.2.1 dX6_search_103 (by decide +kernel) ?_
          refine lv_istore (pc := 104) (lv' := [(7, .int 0), (5, .long r_45), (4, .int v_21), (3, .int (mi 40)), (0, .ref (mr 0)), (1, .ref (mr 11)), (2, .int z_n)]) E.1 E.2.1 dX6_search_104 hl49 (by decide) rfl (fun ls hl50 => ?_)
          have loop_51 : ∀ (k : Nat) (x_52 : Int32) (w_53 : Int64) (g_54 : Nat → Int64) (g_55 : Nat → Int64) (g_56 : Nat → Int32) (g_57 : Nat → Int32) (H : Heap) (locs : List Loc) (ls : Array Slot), (0 ≤ x_52.toInt) ∧ (x_52.toInt ≤ z_n.toInt) ∧ s1k g_56 ∧ s1k g_57 → z_n.toInt - x_52.toInt < (k : Int) → WD D A s.heap (WZ_PV1 cI cJ mr (upd mi 8 nwants_7) (va_up (va_up (va_up (va_up (va_up (va_up mf 6 ghops_16) 7 gwanted_8) 9 g_56) 10 g_57) 50 gpmeasured_17) 51 gpmeasuredIn_18) (va_up (va_up mg 4 g_54) 5 g_55)) H locs → lv_has ls 8 [(7, .int x_52), (5, .long w_53), (4, .int v_21), (3, .int (mi 40)), (0, .ref (mr 0)), (1, .ref (mr 11)), (2, .int z_n)] → W p l e ({ frames := 5, cells := 0, slots := 0, locals := 139 } : Room) s m ([.ref (mr 0), .ref (mr 11), .int z_n] : List Value).toArray below meth c H locs 0 0 (MQ below (va_Qv (fun (u : Int32 × (Nat → Int32) × (Nat → Int32) × (Nat → Int64) × (Nat → Int64) × (Nat → Int32) × (Nat → Int32) × Int32 × (Nat → Int64) × Int32 × (Nat → Int32) × (Nat → Int32)) => (u.2.2.2.2.2.2.2.2.2.1.toInt = z_n.toInt) ∧ (0 ≤ u.1.toInt) ∧ (u.1.toInt ≤ 10) ∧ (s1k u.2.2.2.2.2.1) ∧ (s1k u.2.2.2.2.2.2.1) ∧ (w9 u.2.1)) (fun u => QW D cI cJ A ((fun (u : Int32 × (Nat → Int32) × (Nat → Int32) × (Nat → Int64) × (Nat → Int64) × (Nat → Int32) × (Nat → Int32) × Int32 × (Nat → Int64) × Int32 × (Nat → Int32) × (Nat → Int32)) => (WZ_PV1 cI cJ mr (upd (upd (upd mi 8 u.1) 2 u.2.2.2.2.2.2.2.1) 1 u.2.2.2.2.2.2.2.2.2.1) (va_up (va_up (va_up (va_up (va_up (va_up mf 7 u.2.1) 6 u.2.2.1) 9 u.2.2.2.2.2.1) 10 u.2.2.2.2.2.2.1) 50 u.2.2.2.2.2.2.2.2.2.2.1) 51 u.2.2.2.2.2.2.2.2.2.2.2) (va_up (va_up (va_up mg 4 u.2.2.2.1) 5 u.2.2.2.2.1) 3 u.2.2.2.2.2.2.2.2.1))) u)) A) ([.ref (mr 0), .ref (mr 11), .int z_n] : List Value).toArray s 0 0 A) (F0 m 106 ls []) := by
            intro k
            induction k with
            | zero =>
              intro x_52 w_53 g_54 g_55 g_56 g_57 _ _ _ hinv hm
              obtain ⟨hi_57_0, hi_57_1, hi_57_2, hi_57_3⟩ := hinv
              exact absurd hm (by omega)
            | succ k ih_58 =>
              intro x_52 w_53 g_54 g_55 g_56 g_57 H locs ls hinv hm hw59 hl60
              obtain ⟨hi_57_0, hi_57_1, hi_57_2, hi_57_3⟩ := hinv
              refine lv_iload (pc := 106) E.1 E.2.1 dX6_search_106 (lv_at hl60 0 rfl) ?_
              refine lv_iload_n (pc := 108) E.1 E.2.1 dX6_search_108 rfl (lv_at hl60 6 rfl) ?_
              refine lv_icmp_ge (pc := 109) (tgt := 155) E.1 E.2.1 dX6_search_109 (by decide) (fun c_61 => ?_) (fun c_61 => ?_)
              · skip
                have hc_61 := leE (a := z_n.toInt) (b := x_52.toInt) rfl rfl c_61
                refine lv_aload_n (pc := 155) E.1 E.2.1 dX6_search_155 rfl (lv_at hl60 4 rfl) ?_
                refine lv_aload_n (pc := 156) E.1 E.2.1 dX6_search_156 rfl (lv_at hl60 5 rfl) ?_
                refine lv_iload_n (pc := 157) E.1 E.2.1 dX6_search_157 rfl (lv_at hl60 3 rfl) ?_
                refine lv_iload (pc := 158) E.1 E.2.1 dX6_search_158 (lv_at hl60 2 rfl) ?_
                refine cq_v (pc := 160) (ws' := (fun (u : Int32 × (Nat → Int64)) => (WZ_PV1 cI cJ mr (upd (upd mi 2 u.1) 8 nwants_7) (va_up (va_up (va_up (va_up (va_up (va_up mf 6 ghops_16) 7 gwanted_8) 9 g_56) 10 g_57) 50 gpmeasured_17) 51 gpmeasuredIn_18) (va_up (va_up (va_up mg 3 u.2) 4 g_54) 5 g_55)))) hw59 [0, 1, 2, 3, 4, 5, 6, 7, 8, 9, 10, 11, 12, 13, 14, 15, 16, 17, 18, 19, 20, 21, 22, 23, 24, 25, 26, 27, 28, 29, 30, 31, 32, 33, 34, 35, 36, 37, 38, 39, 40, 41, 42, 43, 44, 45, 46, 47, 48, 49, 50, 51, 52, 53, 54, 55, 56, 57] [] [0, 1, 2, 3, 4, 5, 6, 7, 8, 9, 10, 11, 12, 13, 14, 15, 16, 17, 18, 19, 20, 21, 22, 23, 24, 25, 26, 27, 28, 29, 30, 31, 32, 33, 34, 35, 36, 37, 38, 39, 40, 41, 42, 43, 44, 45, 46, 47, 48, 49, 50, 51, 52, 53, 54, 55, 56, 57] rfl rfl (by decide) (by decide) (fun _ => rfl) (by decide) (rn_V (As := [.ref (mr 11), .int (mi 40), .int v_21]) (rest := []) E hw59 (t_choose1 l D cI cJ _ (ixf [0, 1, 2, 3, 4, 5, 6, 7, 8, 9, 10, 11, 12, 13, 14, 15, 16, 17, 18, 19, 20, 21, 22, 23, 24, 25, 26, 27, 28, 29, 30, 31, 32, 33, 34, 35, 36, 37, 38, 39, 40, 41, 42, 43, 44, 45, 46, 47, 48, 49, 50, 51, 52, 53, 54, 55, 56, 57, 58, 59, 60, 61, 62, 63, 64, 65, 66, 67, 68, 69, 70, 71, 72, 73, 74, 75, 76, 77, 78, 79, 80, 81, 82, 83, 84, 85, 86, 87, 88] mr) (ixf [0, 1, 2, 3, 4, 5, 6, 7, 8, 9, 10, 11, 12, 13, 14, 15, 16, 17, 18, 19, 20, 21, 22, 23, 24, 25, 26, 27, 28, 29, 30, 31, 32, 33, 34, 35, 36, 37, 38, 39, 40, 41, 42, 43, 44, 45, 46, 47, 48, 49, 50, 51, 52, 53, 54, 55, 56, 57, 58, 59, 60, 61, 62, 63, 64, 65, 66, 67, 68, 69, 70, 71, 72, 73, 74, 75, 76, 77, 78, 79, 80, 81, 82, 83, 84, 85, 86, 87, 88] (upd mi 8 nwants_7)) (ixf [0, 1, 2, 3, 4, 5, 6, 7, 8, 9, 10, 11, 12, 13, 14, 15, 16, 17, 18, 19, 20, 21, 22, 23, 24, 25, 26, 27, 28, 29, 30, 31, 32, 33, 34, 35, 36, 37, 38, 39, 40, 41, 42, 43, 44, 45, 46, 47, 48, 49, 50, 51, 52, 53, 54, 55, 56, 57, 58, 59, 60, 61, 62, 63, 64, 65, 66, 67, 68, 69, 70, 71, 72, 73, 74, 75, 76, 77, 78, 79, 80, 81, 82, 83, 84, 85, 86, 87, 88] (va_up (va_up (va_up (va_up (va_up (va_up mf 6 ghops_16) 7 gwanted_8) 9 g_56) 10 g_57) 50 gpmeasured_17) 51 gpmeasuredIn_18)) (ixf [0, 1, 2, 3, 4, 5, 6, 7, 8, 9, 10, 11, 12, 13, 14, 15, 16, 17, 18, 19, 20, 21, 22, 23, 24, 25, 26, 27, 28, 29, 30, 31, 32, 33, 34, 35, 36, 37, 38, 39, 40, 41, 42, 43, 44, 45, 46, 47, 48, 49, 50, 51, 52, 53, 54, 55, 56, 57, 58, 59, 60, 61, 62, 63, 64, 65, 66, 67, 68, 69, 70, 71, 72, 73, 74, 75, 76, 77, 78, 79, 80, 81, 82, 83, 84, 85, 86, 87, 88] (va_up (va_up mg 4 g_54) 5 g_55)) (mi 40) v_21 (by show 0 ≤ (mi 40).toInt ∧ (mi 40).toInt ≤ 10; omega) (by show 0 ≤ (mi 49).toInt ∧ (mi 49).toInt ≤ 40; omega) (by show 0 ≤ (mi 58).toInt ∧ (mi 58).toInt ≤ 10; omega) (by show 0 ≤ nwants_7.toInt ∧ nwants_7.toInt ≤ 10; omega) (by show 0 ≤ (mi 40).toInt ∧ (mi 40).toInt ≤ 10; omega) (by show 1 ≤ v_21.toInt ∧ v_21.toInt ≤ 1024; omega) hp_12) (gdV q_1230 q_1232 q_37 q_170 q_1233) hdV_X6_choose ⟨rfl, rfl⟩ ⟨(Nat.le_of_ble_eq_true rfl), (Nat.le_of_ble_eq_true rfl)⟩ ⟨(Nat.le_of_ble_eq_true rfl), (Nat.le_of_ble_eq_true rfl)⟩ xT_b xT_at 0 6 rfl rfl rfl [0, 1, 2, 3, 4, 5, 6, 7, 8, 9, 10, 11, 12, 13, 14, 15, 16, 17, 18, 19, 20, 21, 22, 23, 24, 25, 26, 27, 28, 29, 30, 31, 32, 33, 34, 35, 36, 37, 38, 39, 40, 41, 42, 43, 44, 45, 46, 47, 48, 49, 50, 51, 52, 53, 54, 55, 56, 57] rfl (by decide) rfl hl60.1 rfl (Nat.le_of_ble_eq_true rfl) dX6_search_160) (fun u_62 H1 locs hp hw64 => ?_)
                obtain ⟨nmostWorth_65, gleastCost_66⟩ := u_62
                generalize H1 = H at hw64 ⊢
                have hw67 : WD D A s.heap (WZ_PV1 cI cJ mr (upd (upd mi 2 nmostWorth_65) 8 nwants_7) (va_up (va_up (va_up (va_up (va_up (va_up mf 6 ghops_16) 7 gwanted_8) 9 g_56) 10 g_57) 50 gpmeasured_17) 51 gpmeasuredIn_18) (va_up (va_up (va_up mg 3 gleastCost_66) 4 g_54) 5 g_55)) H locs := hw64
                refine lv_aload_n (pc := 163) E.1 E.2.1 dX6_search_163 rfl (lv_at hl60 4 rfl) ?_
                refine lv_iload_n (pc := 164) E.1 E.2.1 dX6_search_164 rfl (lv_at hl60 6 rfl) ?_
                refine x_put (pc := 165) (T := TX6) (N := 10) (ci := 6) (ws' := (WZ_PV1 cI cJ mr (upd (upd (upd mi 1 z_n) 2 nmostWorth_65) 8 nwants_7) (va_up (va_up (va_up (va_up (va_up (va_up mf 6 ghops_16) 7 gwanted_8) 9 g_56) 10 g_57) 50 gpmeasured_17) 51 gpmeasuredIn_18) (va_up (va_up (va_up mg 3 gleastCost_66) 4 g_54) 5 g_55))) E hw67 inX6 tyX6_ok nmX6 0 0 q_1160 rfl rfl (by decide) rfl rfl rfl rfl (Nat.le_of_ble_eq_true rfl) rfl dX6_search_165 (fun H locs hw68 => ?_)
                exact em_v (w1 := (fun (u : Int32 × (Nat → Int32) × (Nat → Int32) × (Nat → Int64) × (Nat → Int64) × (Nat → Int32) × (Nat → Int32) × Int32 × (Nat → Int64) × Int32 × (Nat → Int32) × (Nat → Int32)) => (WZ_PV1 cI cJ mr (upd (upd (upd mi 8 u.1) 2 u.2.2.2.2.2.2.2.1) 1 u.2.2.2.2.2.2.2.2.2.1) (va_up (va_up (va_up (va_up (va_up (va_up mf 7 u.2.1) 6 u.2.2.1) 9 u.2.2.2.2.2.1) 10 u.2.2.2.2.2.2.1) 50 u.2.2.2.2.2.2.2.2.2.2.1) 51 u.2.2.2.2.2.2.2.2.2.2.2) (va_up (va_up (va_up mg 4 u.2.2.2.1) 5 u.2.2.2.2.1) 3 u.2.2.2.2.2.2.2.2.1)))) E hr hlk (nwants_7, gwanted_8, ghops_16, g_54, g_55, g_56, g_57, nmostWorth_65, gleastCost_66, z_n, gpmeasured_17, gpmeasuredIn_18) hw68 ⟨(by show z_n.toInt = z_n.toInt; omega), (by show 0 ≤ nwants_7.toInt; omega), (by show nwants_7.toInt ≤ 10; omega), hi_57_2, hi_57_3, hp_12⟩ (Nat.le_of_ble_eq_true rfl) (Nat.le_of_ble_eq_true rfl) dX6_search_168
              · skip
                have hc_61 := nleE (a := z_n.toInt) (b := x_52.toInt) rfl rfl c_61
                refine lv_aload_n (pc := 112) E.1 E.2.1 dX6_search_112 rfl (lv_at hl60 4 rfl) ?_
                refine lv_aload_n (pc := 113) E.1 E.2.1 dX6_search_113 rfl (lv_at hl60 5 rfl) ?_
                refine lv_iload (pc := 114) E.1 E.2.1 dX6_search_114 (lv_at hl60 0 rfl) ?_
                refine cq_v (pc := 116) (ws' := (fun (u : (Nat → Int32) × (Nat → Int32)) => (WZ_PV1 cI cJ mr (upd mi 8 nwants_7) (va_up (va_up (va_up (va_up (va_up (va_up mf 6 ghops_16) 7 gwanted_8) 9 u.1) 10 u.2) 50 gpmeasured_17) 51 gpmeasuredIn_18) (va_up (va_up mg 4 g_54) 5 g_55)))) hw59 [0, 1, 2, 3, 4, 5, 6, 7, 8, 9, 10, 11, 12, 13, 14, 15, 16, 17, 18, 19, 20, 21, 22, 23, 24, 25, 26, 27, 28, 29, 30, 31, 32, 33, 34, 35, 36, 37, 38, 39, 40, 41, 42, 43, 44, 45, 46, 47, 48, 49, 50, 51, 52, 53, 54, 55, 56, 57] [] [0, 1, 2, 3, 4, 5, 6, 7, 8, 9, 10, 11, 12, 13, 14, 15, 16, 17, 18, 19, 20, 21, 22, 23, 24, 25, 26, 27, 28, 29, 30, 31, 32, 33, 34, 35, 36, 37, 38, 39, 40, 41, 42, 43, 44, 45, 46, 47, 48, 49, 50, 51, 52, 53, 54, 55, 56, 57] rfl rfl (by decide) (by decide) (fun _ => rfl) (by decide) (rn_V (As := [.ref (mr 11), .int x_52]) (rest := []) E hw59 (t_gatherServed1 l D cI cJ _ (ixf [0, 1, 2, 3, 4, 5, 6, 7, 8, 9, 10, 11, 12, 13, 14, 15, 16, 17, 18, 19, 20, 21, 22, 23, 24, 25, 26, 27, 28, 29, 30, 31, 32, 33, 34, 35, 36, 37, 38, 39, 40, 41, 42, 43, 44, 45, 46, 47, 48, 49, 50, 51, 52, 53, 54, 55, 56, 57, 58, 59, 60, 61, 62, 63, 64, 65, 66, 67, 68, 69, 70, 71, 72, 73, 74, 75, 76, 77, 78, 79, 80, 81, 82, 83, 84, 85, 86, 87, 88] mr) (ixf [0, 1, 2, 3, 4, 5, 6, 7, 8, 9, 10, 11, 12, 13, 14, 15, 16, 17, 18, 19, 20, 21, 22, 23, 24, 25, 26, 27, 28, 29, 30, 31, 32, 33, 34, 35, 36, 37, 38, 39, 40, 41, 42, 43, 44, 45, 46, 47, 48, 49, 50, 51, 52, 53, 54, 55, 56, 57, 58, 59, 60, 61, 62, 63, 64, 65, 66, 67, 68, 69, 70, 71, 72, 73, 74, 75, 76, 77, 78, 79, 80, 81, 82, 83, 84, 85, 86, 87, 88] (upd mi 8 nwants_7)) (ixf [0, 1, 2, 3, 4, 5, 6, 7, 8, 9, 10, 11, 12, 13, 14, 15, 16, 17, 18, 19, 20, 21, 22, 23, 24, 25, 26, 27, 28, 29, 30, 31, 32, 33, 34, 35, 36, 37, 38, 39, 40, 41, 42, 43, 44, 45, 46, 47, 48, 49, 50, 51, 52, 53, 54, 55, 56, 57, 58, 59, 60, 61, 62, 63, 64, 65, 66, 67, 68, 69, 70, 71, 72, 73, 74, 75, 76, 77, 78, 79, 80, 81, 82, 83, 84, 85, 86, 87, 88] (va_up (va_up (va_up (va_up (va_up (va_up mf 6 ghops_16) 7 gwanted_8) 9 g_56) 10 g_57) 50 gpmeasured_17) 51 gpmeasuredIn_18)) (ixf [0, 1, 2, 3, 4, 5, 6, 7, 8, 9, 10, 11, 12, 13, 14, 15, 16, 17, 18, 19, 20, 21, 22, 23, 24, 25, 26, 27, 28, 29, 30, 31, 32, 33, 34, 35, 36, 37, 38, 39, 40, 41, 42, 43, 44, 45, 46, 47, 48, 49, 50, 51, 52, 53, 54, 55, 56, 57, 58, 59, 60, 61, 62, 63, 64, 65, 66, 67, 68, 69, 70, 71, 72, 73, 74, 75, 76, 77, 78, 79, 80, 81, 82, 83, 84, 85, 86, 87, 88] (va_up (va_up mg 4 g_54) 5 g_55)) x_52 (by show 0 ≤ (mi 40).toInt ∧ (mi 40).toInt ≤ 10; omega) (by show 0 ≤ (mi 49).toInt ∧ (mi 49).toInt ≤ 40; omega) (by show 0 ≤ (mi 58).toInt ∧ (mi 58).toInt ≤ 10; omega) (by show 0 ≤ nwants_7.toInt ∧ nwants_7.toInt ≤ 10; omega) hi_57_2 hi_57_3 hp_12) (gdV q_1212 q_1214 q_33 q_170 q_1215) hdV_X6_gatherServed ⟨rfl, rfl⟩ ⟨(Nat.le_of_ble_eq_true rfl), (Nat.le_of_ble_eq_true rfl)⟩ ⟨(Nat.le_of_ble_eq_true rfl), (Nat.le_of_ble_eq_true rfl)⟩ xT_b xT_at 0 6 rfl rfl rfl [0, 1, 2, 3, 4, 5, 6, 7, 8, 9, 10, 11, 12, 13, 14, 15, 16, 17, 18, 19, 20, 21, 22, 23, 24, 25, 26, 27, 28, 29, 30, 31, 32, 33, 34, 35, 36, 37, 38, 39, 40, 41, 42, 43, 44, 45, 46, 47, 48, 49, 50, 51, 52, 53, 54, 55, 56, 57] rfl (by decide) rfl hl60.1 rfl (Nat.le_of_ble_eq_true rfl) dX6_search_116) (fun u_69 H1 locs hp hw71 => ?_)
                obtain ⟨gserved_72, gwed_73⟩ := u_69
                generalize H1 = H at hw71 ⊢
                have hw74 : WD D A s.heap (WZ_PV1 cI cJ mr (upd mi 8 nwants_7) (va_up (va_up (va_up (va_up (va_up (va_up mf 6 ghops_16) 7 gwanted_8) 9 gserved_72) 10 gwed_73) 50 gpmeasured_17) 51 gpmeasuredIn_18) (va_up (va_up mg 4 g_54) 5 g_55)) H locs := hw71
                obtain ⟨hp_75, hp_76⟩ := hp
                refine lv_aload_n (pc := 119) E.1 E.2.1 dX6_search_119 rfl (lv_at hl60 4 rfl) ?_
                refine lv_iload_n (pc := 120) E.1 E.2.1 dX6_search_120 rfl (lv_at hl60 3 rfl) ?_
                refine lv_iload (pc := 121) E.1 E.2.1 dX6_search_121 (lv_at hl60 2 rfl) ?_
                refine lv_iload (pc := 123) E.1 E.2.1 dX6_search_123 (lv_at hl60 0 rfl) ?_
                refine lv_if_ne (pc := 125) (tgt := 135) E.1 E.2.1 dX6_search_125 (by decide) (fun c_77 => ?_) (fun c_77 => ?_)
                · skip
                  have hc_77 := neE (a := x_52.toInt) (b := 0) rfl (by decide +kernel) c_77
                  refine lv_null (pc := 135) E.1 E.2.1 dX6_search_135 ?_
                  refine lv_lload (pc := 136) E.1 E.2.1 dX6_search_136 (lv_at hl60 1 rfl) ?_
                  refine cq_v (pc := 138) (ws' := (fun (u : (Nat → Int64) × (Nat → Int64)) => (WZ_PV1 cI cJ mr (upd mi 8 nwants_7) (va_up (va_up (va_up (va_up (va_up (va_up mf 6 ghops_16) 7 gwanted_8) 9 gserved_72) 10 gwed_73) 50 gpmeasured_17) 51 gpmeasuredIn_18) (va_up (va_up mg 4 u.1) 5 u.2)))) hw74 [0, 1, 2, 3, 4, 5, 6] [7, 8, 9, 10, 11, 12, 13, 14, 15, 16, 17, 18, 19, 20, 21, 22, 23, 24, 25, 26, 27, 28, 29, 30, 31, 32, 33, 34, 35, 36, 37, 38, 39, 40, 41, 42, 43, 44, 45, 46, 47, 48, 49, 50, 51, 52, 53, 54, 55, 56, 57] [51, 52, 53, 54, 55, 56, 57, 0, 1, 2, 3, 4, 5, 6, 7, 8, 9, 10, 11, 12, 13, 14, 15, 16, 17, 18, 19, 20, 21, 22, 23, 24, 25, 26, 27, 28, 29, 30, 31, 32, 33, 34, 35, 36, 37, 38, 39, 40, 41, 42, 43, 44, 45, 46, 47, 48, 49, 50] rfl rfl (by decide) (by decide) (fun _ => rfl) (by decide) (rn_V (As := [.int (mi 40), .int v_21, .null, .long w_53]) (rest := []) E hw74 (t_spreadNight_n l D cI cJ _ (ixf [0, 1, 2, 3, 4, 5, 6, 7, 8, 9, 10] mr) (ixf [0, 1, 2, 3, 4, 5, 6, 7, 8, 9, 10] (upd mi 8 nwants_7)) (ixf [0, 1, 2, 3, 4, 5, 6, 7, 8, 9, 10] (va_up (va_up (va_up (va_up (va_up (va_up mf 6 ghops_16) 7 gwanted_8) 9 gserved_72) 10 gwed_73) 50 gpmeasured_17) 51 gpmeasuredIn_18)) (ixf [0, 1, 2, 3, 4, 5, 6, 7, 8, 9, 10] (va_up (va_up mg 4 g_54) 5 g_55)) (mi 40) v_21 w_53 (by show 0 ≤ (mi 40).toInt ∧ (mi 40).toInt ≤ 10; omega) (by show 1 ≤ v_21.toInt ∧ v_21.toInt ≤ 1024; omega) hp_75 hp_76) (gdV q_1216 q_1218 q_34 q_170 q_1219) hdV_X6_spreadNight ⟨rfl, rfl⟩ ⟨(Nat.le_of_ble_eq_true rfl), (Nat.le_of_ble_eq_true rfl)⟩ ⟨(Nat.le_of_ble_eq_true rfl), (Nat.le_of_ble_eq_true rfl)⟩ xT_b xT_at 0 6 rfl rfl rfl [0, 1, 2, 3, 4, 5, 6] rfl (by decide) rfl hl60.1 rfl (Nat.le_of_ble_eq_true rfl) dX6_search_138) (fun u_78 H1 locs hp hw80 => ?_)
                  obtain ⟨gcosts_81, glifted_82⟩ := u_78
                  generalize H1 = H at hw80 ⊢
                  have hw83 : WD D A s.heap (WZ_PV1 cI cJ mr (upd mi 8 nwants_7) (va_up (va_up (va_up (va_up (va_up (va_up mf 6 ghops_16) 7 gwanted_8) 9 gserved_72) 10 gwed_73) 50 gpmeasured_17) 51 gpmeasuredIn_18) (va_up (va_up mg 4 gcosts_81) 5 glifted_82)) H locs := hw80
                  refine lv_lload (pc := 141) E.1 E.2.1 dX6_search_141 (lv_at hl60 1 rfl) ?_
                  refine lv_ldc2 (pc := 143) (v := 10) E.1 E.2.1 E.2.2.2.1 (E.2.2.2.2.1 _ q_1211) dX6_search_143 ?_
                  refine lv_ldiv (pc := 146) E.1 E.2.1 dX6_search_146 (by decide +kernel) ?_
                  refine lv_topl (fun w_84 ew_84 => ?_)
                  refine lv_lstore (pc := 147) (lv' := [(5, .long w_84), (7, .int x_52), (4, .int v_21), (3, .int (mi 40)), (0, .ref (mr 0)), (1, .ref (mr 11)), (2, .int z_n)]) E.1 E.2.1 dX6_search_147 hl60 (by decide) rfl (fun ls hl85 => ?_)
                  obtain ⟨v_86, ev_86⟩ : ∃ z : Int32, x_52 + Int32.ofInt (1) = z := ⟨_, rfl⟩
                  have hv_86 : v_86.toInt = x_52.toInt + (1) := by rw [← ev_86]; exact incE rfl (by decide) (by omega)
                  refine lv_iinc (pc := 149) (v := v_86) (lv' := [(7, .int v_86), (5, .long w_84), (4, .int v_21), (3, .int (mi 40)), (0, .ref (mr 0)), (1, .ref (mr 11)), (2, .int z_n)]) E.1 E.2.1 dX6_search_149 hl85 (k := 1) rfl ev_86 (by decide) rfl (fun ls hl87 => ?_)
                  refine lv_goto (pc := 152) (tgt := 106) E.1 E.2.1 dX6_search_152 (by decide) ?_
                  exact ih_58 v_86 w_84 gcosts_81 glifted_82 gserved_72 gwed_73 _ _ _ ⟨(by show 0 ≤ v_86.toInt; omega), (by show v_86.toInt ≤ z_n.toInt; omega), hp_75, hp_76⟩ (by omega) hw83 (lv_sub hl87 [0, 1, 2, 3, 4, 5, 6] rfl)
                · skip
                  have hc_77 := eqE (a := x_52.toInt) (b := 0) rfl (by decide +kernel) c_77
                  refine lv_aload_n (pc := 128) E.1 E.2.1 dX6_search_128 rfl (lv_at hl60 5 rfl) ?_
                  refine x_get (pc := 129) (T := TX10) (N := 17) (ci := 10) (v := .ref (mr 21)) E hw74 inX10 7 0 q_459 rfl rfl (by decide) rfl rfl dX6_search_129 ?_
                  refine lv_goto (pc := 132) (tgt := 136) E.1 E.2.1 dX6_search_132 (by decide) ?_
                  refine lv_lload (pc := 136) E.1 E.2.1 dX6_search_136 (lv_at hl60 1 rfl) ?_
                  refine cq_v (pc := 138) (ws' := (fun (u : (Nat → Int64) × (Nat → Int64)) => (WZ_PV1 cI cJ mr (upd mi 8 nwants_7) (va_up (va_up (va_up (va_up (va_up (va_up mf 6 ghops_16) 7 gwanted_8) 9 gserved_72) 10 gwed_73) 50 gpmeasured_17) 51 gpmeasuredIn_18) (va_up (va_up mg 4 u.1) 5 u.2)))) hw74 [0, 1, 2, 3, 4, 5, 6, 13, 14, 15, 16, 17, 18] [7, 8, 9, 10, 11, 12, 19, 20, 21, 22, 23, 24, 25, 26, 27, 28, 29, 30, 31, 32, 33, 34, 35, 36, 37, 38, 39, 40, 41, 42, 43, 44, 45, 46, 47, 48, 49, 50, 51, 52, 53, 54, 55, 56, 57] [45, 46, 47, 48, 49, 50, 51, 0, 1, 2, 3, 4, 5, 52, 53, 54, 55, 56, 57, 6, 7, 8, 9, 10, 11, 12, 13, 14, 15, 16, 17, 18, 19, 20, 21, 22, 23, 24, 25, 26, 27, 28, 29, 30, 31, 32, 33, 34, 35, 36, 37, 38, 39, 40, 41, 42, 43, 44] rfl rfl (by decide) (by decide) (fun _ => rfl) (by decide) (rn_V (As := [.int (mi 40), .int v_21, .ref (mr 21), .long w_53]) (rest := []) E hw74 (t_spreadNight_s l D cI cJ _ (ixf [0, 1, 2, 3, 4, 5, 6, 7, 8, 9, 10, 21, 22, 23, 24, 25, 26, 27, 28, 29, 30, 31, 32, 33] mr) (ixf [0, 1, 2, 3, 4, 5, 6, 7, 8, 9, 10, 21, 22, 23, 24, 25, 26, 27, 28, 29, 30, 31, 32, 33] (upd mi 8 nwants_7)) (ixf [0, 1, 2, 3, 4, 5, 6, 7, 8, 9, 10, 21, 22, 23, 24, 25, 26, 27, 28, 29, 30, 31, 32, 33] (va_up (va_up (va_up (va_up (va_up (va_up mf 6 ghops_16) 7 gwanted_8) 9 gserved_72) 10 gwed_73) 50 gpmeasured_17) 51 gpmeasuredIn_18)) (ixf [0, 1, 2, 3, 4, 5, 6, 7, 8, 9, 10, 21, 22, 23, 24, 25, 26, 27, 28, 29, 30, 31, 32, 33] (va_up (va_up mg 4 g_54) 5 g_55)) (mi 40) v_21 w_53 (by show 0 ≤ (mi 40).toInt ∧ (mi 40).toInt ≤ 10; omega) (by show 1 ≤ v_21.toInt ∧ v_21.toInt ≤ 1024; omega) hp_75 hp_76) (gdV q_1216 q_1218 q_34 q_170 q_1219) hdV_X6_spreadNight ⟨rfl, rfl⟩ ⟨(Nat.le_of_ble_eq_true rfl), (Nat.le_of_ble_eq_true rfl)⟩ ⟨(Nat.le_of_ble_eq_true rfl), (Nat.le_of_ble_eq_true rfl)⟩ xT_b xT_at 0 6 rfl rfl rfl [0, 1, 2, 3, 4, 5, 6, 13, 14, 15, 16, 17, 18] rfl (by decide) rfl hl60.1 rfl (Nat.le_of_ble_eq_true rfl) dX6_search_138) (fun u_88 H1 locs hp hw90 => ?_)
                  obtain ⟨gcosts_91, glifted_92⟩ := u_88
                  generalize H1 = H at hw90 ⊢
                  have hw93 : WD D A s.heap (WZ_PV1 cI cJ mr (upd mi 8 nwants_7) (va_up (va_up (va_up (va_up (va_up (va_up mf 6 ghops_16) 7 gwanted_8) 9 gserved_72) 10 gwed_73) 50 gpmeasured_17) 51 gpmeasuredIn_18) (va_up (va_up mg 4 gcosts_91) 5 glifted_92)) H locs := hw90
                  refine lv_lload (pc := 141) E.1 E.2.1 dX6_search_141 (lv_at hl60 1 rfl) ?_
                  refine lv_ldc2 (pc := 143) (v := 10) E.1 E.2.1 E.2.2.2.1 (E.2.2.2.2.1 _ q_1211) dX6_search_143 ?_
                  refine lv_ldiv (pc := 146) E.1 E.2.1 dX6_search_146 (by decide +kernel) ?_
                  refine lv_topl (fun w_94 ew_94 => ?_)
                  refine lv_lstore (pc := 147) (lv' := [(5, .long w_94), (7, .int x_52), (4, .int v_21), (3, .int (mi 40)), (0, .ref (mr 0)), (1, .ref (mr 11)), (2, .int z_n)]) E.1 E.2.1 dX6_search_147 hl60 (by decide) rfl (fun ls hl95 => ?_)
                  obtain ⟨v_96, ev_96⟩ : ∃ z : Int32, x_52 + Int32.ofInt (1) = z := ⟨_, rfl⟩
                  have hv_96 : v_96.toInt = x_52.toInt + (1) := by rw [← ev_96]; exact incE rfl (by decide) (by omega)
                  refine lv_iinc (pc := 149) (v := v_96) (lv' := [(7, .int v_96), (5, .long w_94), (4, .int v_21), (3, .int (mi 40)), (0, .ref (mr 0)), (1, .ref (mr 11)), (2, .int z_n)]) E.1 E.2.1 dX6_search_149 hl95 (k := 1) rfl ev_96 (by decide) rfl (fun ls hl97 => ?_)
                  refine lv_goto (pc := 152) (tgt := 106) E.1 E.2.1 dX6_search_152 (by decide) ?_
                  exact ih_58 v_96 w_94 gcosts_91 glifted_92 gserved_72 gwed_73 _ _ _ ⟨(by show 0 ≤ v_96.toInt; omega), (by show v_96.toInt ≤ z_n.toInt; omega), hp_75, hp_76⟩ (by omega) hw93 (lv_sub hl97 [0, 1, 2, 3, 4, 5, 6] rfl)
          exact loop_51 (Int.toNat (z_n.toInt - 0) + 1) 0 r_45 g_41 (mg 5) (mf 9) (mf 10) _ _ _ ⟨(by show 0 ≤ (0 : Int32).toInt; have k_0 : (0 : Int32).toInt = 0 := (by decide +kernel); omega), (by show (0 : Int32).toInt ≤ z_n.toInt; have k_0 : (0 : Int32).toInt = 0 := (by decide +kernel); omega), a_served, a_wed⟩ (by have k_0 : (0 : Int32).toInt = 0 := (by decide +kernel); omega) hw47 (lv_sub hl50 [0, 1, 2, 3, 4, 5, 6] rfl)
        · skip
          refine lv_if_eq (pc := 79) (tgt := 95) E.1 E.2.1 dX6_search_79 (by decide) (fun _ => ?_) (fun c_98 => absurd (meqE (a := 0) (b := 0) (by decide +kernel) (by decide +kernel) (by omega)) c_98)
          refine lv_iload_n (pc := 95) E.1 E.2.1 dX6_search_95 rfl (lv_at hl29 5 rfl) ?_
          refine lv_iconst (pc := 96) (v := 1) E.1 E.2.1 dX6_search_96 (by decide +kernel) ?_
          refine lv_isub (pc := 97) E.1 E.2.1 dX6_search_97 ?_
          refine lv_topi (fun v_99 ev_99 => ?_)
          have hv_99 : v_99.toInt = z_n.toInt - 1 := by rw [ev_99]; exact subE rfl (by decide +kernel) (by omega)
          refine cq_l (pc := 98) (ws' := (fun (u : Unit) => (WZ_PV1 cI cJ mr (upd mi 8 nwants_7) (va_up (va_up (va_up (va_up mf 6 ghops_16) 7 gwanted_8) 50 gpmeasured_17) 51 gpmeasuredIn_18) (va_up mg 4 g_26)))) hw35 [] [0, 1, 2, 3, 4, 5, 6, 7, 8, 9, 10, 11, 12, 13, 14, 15, 16, 17, 18, 19, 20, 21, 22, 23, 24, 25, 26, 27, 28, 29, 30, 31, 32, 33, 34, 35, 36, 37, 38, 39, 40, 41, 42, 43, 44, 45, 46, 47, 48, 49, 50, 51, 52, 53, 54, 55, 56, 57] [0, 1, 2, 3, 4, 5, 6, 7, 8, 9, 10, 11, 12, 13, 14, 15, 16, 17, 18, 19, 20, 21, 22, 23, 24, 25, 26, 27, 28, 29, 30, 31, 32, 33, 34, 35, 36, 37, 38, 39, 40, 41, 42, 43, 44, 45, 46, 47, 48, 49, 50, 51, 52, 53, 54, 55, 56, 57] rfl rfl (by decide) (by decide) (fun _ => rfl) (by decide) (rn_S (As := [.int v_99]) (rest := []) E hw35 (t_power l D cI cJ _ (ixf [] mr) (ixf [] (upd mi 8 nwants_7)) (ixf [] (va_up (va_up (va_up (va_up mf 6 ghops_16) 7 gwanted_8) 50 gpmeasured_17) 51 gpmeasuredIn_18)) (ixf [] (va_up mg 4 g_26)) v_99 (by show 0 ≤ v_99.toInt ∧ v_99.toInt ≤ 9; omega)) (gdS q_1208 q_1209 q_170 q_1210) hdV_X6_power ⟨rfl, rfl⟩ ⟨(Nat.le_of_ble_eq_true rfl), (Nat.le_of_ble_eq_true rfl)⟩ ⟨(Nat.le_of_ble_eq_true rfl), (Nat.le_of_ble_eq_true rfl)⟩ xT_b xT_at [] rfl (by decide) rfl hl29.1 rfl (Nat.le_of_ble_eq_true rfl) dX6_search_98) (fun r_101 u_100 H1 locs hp hw102 => ?_)
          generalize H1 = H at hw102 ⊢
          have hw103 : WD D A s.heap (WZ_PV1 cI cJ mr (upd mi 8 nwants_7) (va_up (va_up (va_up (va_up mf 6 ghops_16) 7 gwanted_8) 50 gpmeasured_17) 51 gpmeasuredIn_18) (va_up mg 4 g_26)) H locs := hw102
          have hp_104 := hp
          have hp_104 : ¬ r_101 = 0 := hp_104
          refine lv_lstore (pc := 101) (lv' := [(5, .long r_101), (4, .int v_21), (3, .int (mi 40)), (0, .ref (mr 0)), (1, .ref (mr 11)), (2, .int z_n)]) E.1 E.2.1 dX6_search_101 hl29 (by decide) rfl (fun ls hl105 => ?_)
          refine lv_iconst (pc := 103) (v := 0) E.1 E.2.1 dX6_search_103 (by decide +kernel) ?_
          refine lv_istore (pc := 104) (lv' := [(7, .int 0), (5, .long r_101), (4, .int v_21), (3, .int (mi 40)), (0, .ref (mr 0)), (1, .ref (mr 11)), (2, .int z_n)]) E.1 E.2.1 dX6_search_104 hl105 (by decide) rfl (fun ls hl106 => ?_)
          have loop_107 : ∀ (k : Nat) (x_108 : Int32) (w_109 : Int64) (g_110 : Nat → Int64) (g_111 : Nat → Int64) (g_112 : Nat → Int32) (g_113 : Nat → Int32) (H : Heap) (locs : List Loc) (ls : Array Slot), (0 ≤ x_108.toInt) ∧ (x_108.toInt ≤ z_n.toInt) ∧ s1k g_112 ∧ s1k g_113 → z_n.toInt - x_108.toInt < (k : Int) → WD D A s.heap (WZ_PV1 cI cJ mr (upd mi 8 nwants_7) (va_up (va_up (va_up (va_up (va_up (va_up mf 6 ghops_16) 7 gwanted_8) 9 g_112) 10 g_113) 50 gpmeasured_17) 51 gpmeasuredIn_18) (va_up (va_up mg 4 g_110) 5 g_111)) H locs → lv_has ls 8 [(7, .int x_108), (5, .long w_109), (4, .int v_21), (3, .int (mi 40)), (0, .ref (mr 0)), (1, .ref (mr 11)), (2, .int z_n)] → W p l e ({ frames := 5, cells := 0, slots := 0, locals := 139 } : Room) s m ([.ref (mr 0), .ref (mr 11), .int z_n] : List Value).toArray below meth c H locs 0 0 (MQ below (va_Qv (fun (u : Int32 × (Nat → Int32) × (Nat → Int32) × (Nat → Int64) × (Nat → Int64) × (Nat → Int32) × (Nat → Int32) × Int32 × (Nat → Int64) × Int32 × (Nat → Int32) × (Nat → Int32)) => (u.2.2.2.2.2.2.2.2.2.1.toInt = z_n.toInt) ∧ (0 ≤ u.1.toInt) ∧ (u.1.toInt ≤ 10) ∧ (s1k u.2.2.2.2.2.1) ∧ (s1k u.2.2.2.2.2.2.1) ∧ (w9 u.2.1)) (fun u => QW D cI cJ A ((fun (u : Int32 × (Nat → Int32) × (Nat → Int32) × (Nat → Int64) × (Nat → Int64) × (Nat → Int32) × (Nat → Int32) × Int32 × (Nat → Int64) × Int32 × (Nat → Int32) × (Nat → Int32)) => (WZ_PV1 cI cJ mr (upd (upd (upd mi 8 u.1) 2 u.2.2.2.2.2.2.2.1) 1 u.2.2.2.2.2.2.2.2.2.1) (va_up (va_up (va_up (va_up (va_up (va_up mf 7 u.2.1) 6 u.2.2.1) 9 u.2.2.2.2.2.1) 10 u.2.2.2.2.2.2.1) 50 u.2.2.2.2.2.2.2.2.2.2.1) 51 u.2.2.2.2.2.2.2.2.2.2.2) (va_up (va_up (va_up mg 4 u.2.2.2.1) 5 u.2.2.2.2.1) 3 u.2.2.2.2.2.2.2.2.1))) u)) A) ([.ref (mr 0), .ref (mr 11), .int z_n] : List Value).toArray s 0 0 A) (F0 m 106 ls []) := by
            intro k
            induction k with
            | zero =>
              intro x_108 w_109 g_110 g_111 g_112 g_113 _ _ _ hinv hm
              obtain ⟨hi_113_0, hi_113_1, hi_113_2, hi_113_3⟩ := hinv
              exact absurd hm (by omega)
            | succ k ih_114 =>
              intro x_108 w_109 g_110 g_111 g_112 g_113 H locs ls hinv hm hw115 hl116
              obtain ⟨hi_113_0, hi_113_1, hi_113_2, hi_113_3⟩ := hinv
              refine lv_iload (pc := 106) E.1 E.2.1 dX6_search_106 (lv_at hl116 0 rfl) ?_
              refine lv_iload_n (pc := 108) E.1 E.2.1 dX6_search_108 rfl (lv_at hl116 6 rfl) ?_
              refine lv_icmp_ge (pc := 109) (tgt := 155) E.1 E.2.1 dX6_search_109 (by decide) (fun c_117 => ?_) (fun c_117 => ?_)
              · skip
                have hc_117 := leE (a := z_n.toInt) (b := x_108.toInt) rfl rfl c_117
                refine lv_aload_n (pc := 155) E.1 E.2.1 dX6_search_155 rfl (lv_at hl116 4 rfl) ?_
                refine lv_aload_n (pc := 156) E.1 E.2.1 dX6_search_156 rfl (lv_at hl116 5 rfl) ?_
                refine lv_iload_n (pc := 157) E.1 E.2.1 dX6_search_157 rfl (lv_at hl116 3 rfl) ?_
                refine lv_iload (pc := 158) E.1 E.2.1 dX6_search_158 (lv_at hl116 2 rfl) ?_
                refine cq_v (pc := 160) (ws' := (fun (u : Int32 × (Nat → Int64)) => (WZ_PV1 cI cJ mr (upd (upd mi 2 u.1) 8 nwants_7) (va_up (va_up (va_up (va_up (va_up (va_up mf 6 ghops_16) 7 gwanted_8) 9 g_112) 10 g_113) 50 gpmeasured_17) 51 gpmeasuredIn_18) (va_up (va_up (va_up mg 3 u.2) 4 g_110) 5 g_111)))) hw115 [0, 1, 2, 3, 4, 5, 6, 7, 8, 9, 10, 11, 12, 13, 14, 15, 16, 17, 18, 19, 20, 21, 22, 23, 24, 25, 26, 27, 28, 29, 30, 31, 32, 33, 34, 35, 36, 37, 38, 39, 40, 41, 42, 43, 44, 45, 46, 47, 48, 49, 50, 51, 52, 53, 54, 55, 56, 57] [] [0, 1, 2, 3, 4, 5, 6, 7, 8, 9, 10, 11, 12, 13, 14, 15, 16, 17, 18, 19, 20, 21, 22, 23, 24, 25, 26, 27, 28, 29, 30, 31, 32, 33, 34, 35, 36, 37, 38, 39, 40, 41, 42, 43, 44, 45, 46, 47, 48, 49, 50, 51, 52, 53, 54, 55, 56, 57] rfl rfl (by decide) (by decide) (fun _ => rfl) (by decide) (rn_V (As := [.ref (mr 11), .int (mi 40), .int v_21]) (rest := []) E hw115 (t_choose1 l D cI cJ _ (ixf [0, 1, 2, 3, 4, 5, 6, 7, 8, 9, 10, 11, 12, 13, 14, 15, 16, 17, 18, 19, 20, 21, 22, 23, 24, 25, 26, 27, 28, 29, 30, 31, 32, 33, 34, 35, 36, 37, 38, 39, 40, 41, 42, 43, 44, 45, 46, 47, 48, 49, 50, 51, 52, 53, 54, 55, 56, 57, 58, 59, 60, 61, 62, 63, 64, 65, 66, 67, 68, 69, 70, 71, 72, 73, 74, 75, 76, 77, 78, 79, 80, 81, 82, 83, 84, 85, 86, 87, 88] mr) (ixf [0, 1, 2, 3, 4, 5, 6, 7, 8, 9, 10, 11, 12, 13, 14, 15, 16, 17, 18, 19, 20, 21, 22, 23, 24, 25, 26, 27, 28, 29, 30, 31, 32, 33, 34, 35, 36, 37, 38, 39, 40, 41, 42, 43, 44, 45, 46, 47, 48, 49, 50, 51, 52, 53, 54, 55, 56, 57, 58, 59, 60, 61, 62, 63, 64, 65, 66, 67, 68, 69, 70, 71, 72, 73, 74, 75, 76, 77, 78, 79, 80, 81, 82, 83, 84, 85, 86, 87, 88] (upd mi 8 nwants_7)) (ixf [0, 1, 2, 3, 4, 5, 6, 7, 8, 9, 10, 11, 12, 13, 14, 15, 16, 17, 18, 19, 20, 21, 22, 23, 24, 25, 26, 27, 28, 29, 30, 31, 32, 33, 34, 35, 36, 37, 38, 39, 40, 41, 42, 43, 44, 45, 46, 47, 48, 49, 50, 51, 52, 53, 54, 55, 56, 57, 58, 59, 60, 61, 62, 63, 64, 65, 66, 67, 68, 69, 70, 71, 72, 73, 74, 75, 76, 77, 78, 79, 80, 81, 82, 83, 84, 85, 86, 87, 88] (va_up (va_up (va_up (va_up (va_up (va_up mf 6 ghops_16) 7 gwanted_8) 9 g_112) 10 g_113) 50 gpmeasured_17) 51 gpmeasuredIn_18)) (ixf [0, 1, 2, 3, 4, 5, 6, 7, 8, 9, 10, 11, 12, 13, 14, 15, 16, 17, 18, 19, 20, 21, 22, 23, 24, 25, 26, 27, 28, 29, 30, 31, 32, 33, 34, 35, 36, 37, 38, 39, 40, 41, 42, 43, 44, 45, 46, 47, 48, 49, 50, 51, 52, 53, 54, 55, 56, 57, 58, 59, 60, 61, 62, 63, 64, 65, 66, 67, 68, 69, 70, 71, 72, 73, 74, 75, 76, 77, 78, 79, 80, 81, 82, 83, 84, 85, 86, 87, 88] (va_up (va_up mg 4 g_110) 5 g_111)) (mi 40) v_21 (by show 0 ≤ (mi 40).toInt ∧ (mi 40).toInt ≤ 10; omega) (by show 0 ≤ (mi 49).toInt ∧ (mi 49).toInt ≤ 40; omega) (by show 0 ≤ (mi 58).toInt ∧ (mi 58).toInt ≤ 10; omega) (by show 0 ≤ nwants_7.toInt ∧ nwants_7.toInt ≤ 10; omega) (by show 0 ≤ (mi 40).toInt ∧ (mi 40).toInt ≤ 10; omega) (by show 1 ≤ v_21.toInt ∧ v_21.toInt ≤ 1024; omega) hp_12) (gdV q_1230 q_1232 q_37 q_170 q_1233) hdV_X6_choose ⟨rfl, rfl⟩ ⟨(Nat.le_of_ble_eq_true rfl), (Nat.le_of_ble_eq_true rfl)⟩ ⟨(Nat.le_of_ble_eq_true rfl), (Nat.le_of_ble_eq_true rfl)⟩ xT_b xT_at 0 6 rfl rfl rfl [0, 1, 2, 3, 4, 5, 6, 7, 8, 9, 10, 11, 12, 13, 14, 15, 16, 17, 18, 19, 20, 21, 22, 23, 24, 25, 26, 27, 28, 29, 30, 31, 32, 33, 34, 35, 36, 37, 38, 39, 40, 41, 42, 43, 44, 45, 46, 47, 48, 49, 50, 51, 52, 53, 54, 55, 56, 57] rfl (by decide) rfl hl116.1 rfl (Nat.le_of_ble_eq_true rfl) dX6_search_160) (fun u_118 H1 locs hp hw120 => ?_)
                obtain ⟨nmostWorth_121, gleastCost_122⟩ := u_118
                generalize H1 = H at hw120 ⊢
                have hw123 : WD D A s.heap (WZ_PV1 cI cJ mr (upd (upd mi 2 nmostWorth_121) 8 nwants_7) (va_up (va_up (va_up (va_up (va_up (va_up mf 6 ghops_16) 7 gwanted_8) 9 g_112) 10 g_113) 50 gpmeasured_17) 51 gpmeasuredIn_18) (va_up (va_up (va_up mg 3 gleastCost_122) 4 g_110) 5 g_111)) H locs := hw120
                refine lv_aload_n (pc := 163) E.1 E.2.1 dX6_search_163 rfl (lv_at hl116 4 rfl) ?_
                refine lv_iload_n (pc := 164) E.1 E.2.1 dX6_search_164 rfl (lv_at hl116 6 rfl) ?_
                refine x_put (pc := 165) (T := TX6) (N := 10) (ci := 6) (ws' := (WZ_PV1 cI cJ mr (upd (upd (upd mi 1 z_n) 2 nmostWorth_121) 8 nwants_7) (va_up (va_up (va_up (va_up (va_up (va_up mf 6 ghops_16) 7 gwanted_8) 9 g_112) 10 g_113) 50 gpmeasured_17) 51 gpmeasuredIn_18) (va_up (va_up (va_up mg 3 gleastCost_122) 4 g_110) 5 g_111))) E hw123 inX6 tyX6_ok nmX6 0 0 q_1160 rfl rfl (by decide) rfl rfl rfl rfl (Nat.le_of_ble_eq_true rfl) rfl dX6_search_165 (fun H locs hw124 => ?_)
                exact em_v (w1 := (fun (u : Int32 × (Nat → Int32) × (Nat → Int32) × (Nat → Int64) × (Nat → Int64) × (Nat → Int32) × (Nat → Int32) × Int32 × (Nat → Int64) × Int32 × (Nat → Int32) × (Nat → Int32)) => (WZ_PV1 cI cJ mr (upd (upd (upd mi 8 u.1) 2 u.2.2.2.2.2.2.2.1) 1 u.2.2.2.2.2.2.2.2.2.1) (va_up (va_up (va_up (va_up (va_up (va_up mf 7 u.2.1) 6 u.2.2.1) 9 u.2.2.2.2.2.1) 10 u.2.2.2.2.2.2.1) 50 u.2.2.2.2.2.2.2.2.2.2.1) 51 u.2.2.2.2.2.2.2.2.2.2.2) (va_up (va_up (va_up mg 4 u.2.2.2.1) 5 u.2.2.2.2.1) 3 u.2.2.2.2.2.2.2.2.1)))) E hr hlk (nwants_7, gwanted_8, ghops_16, g_110, g_111, g_112, g_113, nmostWorth_121, gleastCost_122, z_n, gpmeasured_17, gpmeasuredIn_18) hw124 ⟨(by show z_n.toInt = z_n.toInt; omega), (by show 0 ≤ nwants_7.toInt; omega), (by show nwants_7.toInt ≤ 10; omega), hi_113_2, hi_113_3, hp_12⟩ (Nat.le_of_ble_eq_true rfl) (Nat.le_of_ble_eq_true rfl) dX6_search_168
              · skip
                have hc_117 := nleE (a := z_n.toInt) (b := x_108.toInt) rfl rfl c_117
                refine lv_aload_n (pc := 112) E.1 E.2.1 dX6_search_112 rfl (lv_at hl116 4 rfl) ?_
                refine lv_aload_n (pc := 113) E.1 E.2.1 dX6_search_113 rfl (lv_at hl116 5 rfl) ?_
                refine lv_iload (pc := 114) E.1 E.2.1 dX6_search_114 (lv_at hl116 0 rfl) ?_
                refine cq_v (pc := 116) (ws' := (fun (u : (Nat → Int32) × (Nat → Int32)) => (WZ_PV1 cI cJ mr (upd mi 8 nwants_7) (va_up (va_up (va_up (va_up (va_up (va_up mf 6 ghops_16) 7 gwanted_8) 9 u.1) 10 u.2) 50 gpmeasured_17) 51 gpmeasuredIn_18) (va_up (va_up mg 4 g_110) 5 g_111)))) hw115 [0, 1, 2, 3, 4, 5, 6, 7, 8, 9, 10, 11, 12, 13, 14, 15, 16, 17, 18, 19, 20, 21, 22, 23, 24, 25, 26, 27, 28, 29, 30, 31, 32, 33, 34, 35, 36, 37, 38, 39, 40, 41, 42, 43, 44, 45, 46, 47, 48, 49, 50, 51, 52, 53, 54, 55, 56, 57] [] [0, 1, 2, 3, 4, 5, 6, 7, 8, 9, 10, 11, 12, 13, 14, 15, 16, 17, 18, 19, 20, 21, 22, 23, 24, 25, 26, 27, 28, 29, 30, 31, 32, 33, 34, 35, 36, 37, 38, 39, 40, 41, 42, 43, 44, 45, 46, 47, 48, 49, 50, 51, 52, 53, 54, 55, 56, 57] rfl rfl (by decide) (by decide) (fun _ => rfl) (by decide) (rn_V (As := [.ref (mr 11), .int x_108]) (rest := []) E hw115 (t_gatherServed1 l D cI cJ _ (ixf [0, 1, 2, 3, 4, 5, 6, 7, 8, 9, 10, 11, 12, 13, 14, 15, 16, 17, 18, 19, 20, 21, 22, 23, 24, 25, 26, 27, 28, 29, 30, 31, 32, 33, 34, 35, 36, 37, 38, 39, 40, 41, 42, 43, 44, 45, 46, 47, 48, 49, 50, 51, 52, 53, 54, 55, 56, 57, 58, 59, 60, 61, 62, 63, 64, 65, 66, 67, 68, 69, 70, 71, 72, 73, 74, 75, 76, 77, 78, 79, 80, 81, 82, 83, 84, 85, 86, 87, 88] mr) (ixf [0, 1, 2, 3, 4, 5, 6, 7, 8, 9, 10, 11, 12, 13, 14, 15, 16, 17, 18, 19, 20, 21, 22, 23, 24, 25, 26, 27, 28, 29, 30, 31, 32, 33, 34, 35, 36, 37, 38, 39, 40, 41, 42, 43, 44, 45, 46, 47, 48, 49, 50, 51, 52, 53, 54, 55, 56, 57, 58, 59, 60, 61, 62, 63, 64, 65, 66, 67, 68, 69, 70, 71, 72, 73, 74, 75, 76, 77, 78, 79, 80, 81, 82, 83, 84, 85, 86, 87, 88] (upd mi 8 nwants_7)) (ixf [0, 1, 2, 3, 4, 5, 6, 7, 8, 9, 10, 11, 12, 13, 14, 15, 16, 17, 18, 19, 20, 21, 22, 23, 24, 25, 26, 27, 28, 29, 30, 31, 32, 33, 34, 35, 36, 37, 38, 39, 40, 41, 42, 43, 44, 45, 46, 47, 48, 49, 50, 51, 52, 53, 54, 55, 56, 57, 58, 59, 60, 61, 62, 63, 64, 65, 66, 67, 68, 69, 70, 71, 72, 73, 74, 75, 76, 77, 78, 79, 80, 81, 82, 83, 84, 85, 86, 87, 88] (va_up (va_up (va_up (va_up (va_up (va_up mf 6 ghops_16) 7 gwanted_8) 9 g_112) 10 g_113) 50 gpmeasured_17) 51 gpmeasuredIn_18)) (ixf [0, 1, 2, 3, 4, 5, 6, 7, 8, 9, 10, 11, 12, 13, 14, 15, 16, 17, 18, 19, 20, 21, 22, 23, 24, 25, 26, 27, 28, 29, 30, 31, 32, 33, 34, 35, 36, 37, 38, 39, 40, 41, 42, 43, 44, 45, 46, 47, 48, 49, 50, 51, 52, 53, 54, 55, 56, 57, 58, 59, 60, 61, 62, 63, 64, 65, 66, 67, 68, 69, 70, 71, 72, 73, 74, 75, 76, 77, 78, 79, 80, 81, 82, 83, 84, 85, 86, 87, 88] (va_up (va_up mg 4 g_110) 5 g_111)) x_108 (by show 0 ≤ (mi 40).toInt ∧ (mi 40).toInt ≤ 10; omega) (by show 0 ≤ (mi 49).toInt ∧ (mi 49).toInt ≤ 40; omega) (by show 0 ≤ (mi 58).toInt ∧ (mi 58).toInt ≤ 10; omega) (by show 0 ≤ nwants_7.toInt ∧ nwants_7.toInt ≤ 10; omega) hi_113_2 hi_113_3 hp_12) (gdV q_1212 q_1214 q_33 q_170 q_1215) hdV_X6_gatherServed ⟨rfl, rfl⟩ ⟨(Nat.le_of_ble_eq_true rfl), (Nat.le_of_ble_eq_true rfl)⟩ ⟨(Nat.le_of_ble_eq_true rfl), (Nat.le_of_ble_eq_true rfl)⟩ xT_b xT_at 0 6 rfl rfl rfl [0, 1, 2, 3, 4, 5, 6, 7, 8, 9, 10, 11, 12, 13, 14, 15, 16, 17, 18, 19, 20, 21, 22, 23, 24, 25, 26, 27, 28, 29, 30, 31, 32, 33, 34, 35, 36, 37, 38, 39, 40, 41, 42, 43, 44, 45, 46, 47, 48, 49, 50, 51, 52, 53, 54, 55, 56, 57] rfl (by decide) rfl hl116.1 rfl (Nat.le_of_ble_eq_true rfl) dX6_search_116) (fun u_125 H1 locs hp hw127 => ?_)
                obtain ⟨gserved_128, gwed_129⟩ := u_125
                generalize H1 = H at hw127 ⊢
                have hw130 : WD D A s.heap (WZ_PV1 cI cJ mr (upd mi 8 nwants_7) (va_up (va_up (va_up (va_up (va_up (va_up mf 6 ghops_16) 7 gwanted_8) 9 gserved_128) 10 gwed_129) 50 gpmeasured_17) 51 gpmeasuredIn_18) (va_up (va_up mg 4 g_110) 5 g_111)) H locs := hw127
                obtain ⟨hp_131, hp_132⟩ := hp
                refine lv_aload_n (pc := 119) E.1 E.2.1 dX6_search_119 rfl (lv_at hl116 4 rfl) ?_
                refine lv_iload_n (pc := 120) E.1 E.2.1 dX6_search_120 rfl (lv_at hl116 3 rfl) ?_
                refine lv_iload (pc := 121) E.1 E.2.1 dX6_search_121 (lv_at hl116 2 rfl) ?_
                refine lv_iload (pc := 123) E.1 E.2.1 dX6_search_123 (lv_at hl116 0 rfl) ?_
                refine lv_if_ne (pc := 125) (tgt := 135) E.1 E.2.1 dX6_search_125 (by decide) (fun c_133 => ?_) (fun c_133 => ?_)
                · skip
                  have hc_133 := neE (a := x_108.toInt) (b := 0) rfl (by decide +kernel) c_133
                  refine lv_null (pc := 135) E.1 E.2.1 dX6_search_135 ?_
                  refine lv_lload (pc := 136) E.1 E.2.1 dX6_search_136 (lv_at hl116 1 rfl) ?_
                  refine cq_v (pc := 138) (ws' := (fun (u : (Nat → Int64) × (Nat → Int64)) => (WZ_PV1 cI cJ mr (upd mi 8 nwants_7) (va_up (va_up (va_up (va_up (va_up (va_up mf 6 ghops_16) 7 gwanted_8) 9 gserved_128) 10 gwed_129) 50 gpmeasured_17) 51 gpmeasuredIn_18) (va_up (va_up mg 4 u.1) 5 u.2)))) hw130 [0, 1, 2, 3, 4, 5, 6] [7, 8, 9, 10, 11, 12, 13, 14, 15, 16, 17, 18, 19, 20, 21, 22, 23, 24, 25, 26, 27, 28, 29, 30, 31, 32, 33, 34, 35, 36, 37, 38, 39, 40, 41, 42, 43, 44, 45, 46, 47, 48, 49, 50, 51, 52, 53, 54, 55, 56, 57] [51, 52, 53, 54, 55, 56, 57, 0, 1, 2, 3, 4, 5, 6, 7, 8, 9, 10, 11, 12, 13, 14, 15, 16, 17, 18, 19, 20, 21, 22, 23, 24, 25, 26, 27, 28, 29, 30, 31, 32, 33, 34, 35, 36, 37, 38, 39, 40, 41, 42, 43, 44, 45, 46, 47, 48, 49, 50] rfl rfl (by decide) (by decide) (fun _ => rfl) (by decide) (rn_V (As := [.int (mi 40), .int v_21, .null, .long w_109]) (rest := []) E hw130 (t_spreadNight_n l D cI cJ _ (ixf [0, 1, 2, 3, 4, 5, 6, 7, 8, 9, 10] mr) (ixf [0, 1, 2, 3, 4, 5, 6, 7, 8, 9, 10] (upd mi 8 nwants_7)) (ixf [0, 1, 2, 3, 4, 5, 6, 7, 8, 9, 10] (va_up (va_up (va_up (va_up (va_up (va_up mf 6 ghops_16) 7 gwanted_8) 9 gserved_128) 10 gwed_129) 50 gpmeasured_17) 51 gpmeasuredIn_18)) (ixf [0, 1, 2, 3, 4, 5, 6, 7, 8, 9, 10] (va_up (va_up mg 4 g_110) 5 g_111)) (mi 40) v_21 w_109 (by show 0 ≤ (mi 40).toInt ∧ (mi 40).toInt ≤ 10; omega) (by show 1 ≤ v_21.toInt ∧ v_21.toInt ≤ 1024; omega) hp_131 hp_132) (gdV q_1216 q_1218 q_34 q_170 q_1219) hdV_X6_spreadNight ⟨rfl, rfl⟩ ⟨(Nat.le_of_ble_eq_true rfl), (Nat.le_of_ble_eq_true rfl)⟩ ⟨(Nat.le_of_ble_eq_true rfl), (Nat.le_of_ble_eq_true rfl)⟩ xT_b xT_at 0 6 rfl rfl rfl [0, 1, 2, 3, 4, 5, 6] rfl (by decide) rfl hl116.1 rfl (Nat.le_of_ble_eq_true rfl) dX6_search_138) (fun u_134 H1 locs hp hw136 => ?_)
                  obtain ⟨gcosts_137, glifted_138⟩ := u_134
                  generalize H1 = H at hw136 ⊢
                  have hw139 : WD D A s.heap (WZ_PV1 cI cJ mr (upd mi 8 nwants_7) (va_up (va_up (va_up (va_up (va_up (va_up mf 6 ghops_16) 7 gwanted_8) 9 gserved_128) 10 gwed_129) 50 gpmeasured_17) 51 gpmeasuredIn_18) (va_up (va_up mg 4 gcosts_137) 5 glifted_138)) H locs := hw136
                  refine lv_lload (pc := 141) E.1 E.2.1 dX6_search_141 (lv_at hl116 1 rfl) ?_
                  refine lv_ldc2 (pc := 143) (v := 10) E.1 E.2.1 E.2.2.2.1 (E.2.2.2.2.1 _ q_1211) dX6_search_143 ?_
                  refine lv_ldiv (pc := 146) E.1 E.2.1 dX6_search_146 (by decide +kernel) ?_
                  refine lv_topl (fun w_140 ew_140 => ?_)
                  refine lv_lstore (pc := 147) (lv' := [(5, .long w_140), (7, .int x_108), (4, .int v_21), (3, .int (mi 40)), (0, .ref (mr 0)), (1, .ref (mr 11)), (2, .int z_n)]) E.1 E.2.1 dX6_search_147 hl116 (by decide) rfl (fun ls hl141 => ?_)
                  obtain ⟨v_142, ev_142⟩ : ∃ z : Int32, x_108 + Int32.ofInt (1) = z := ⟨_, rfl⟩
                  have hv_142 : v_142.toInt = x_108.toInt + (1) := by rw [← ev_142]; exact incE rfl (by decide) (by omega)
                  refine lv_iinc (pc := 149) (v := v_142) (lv' := [(7, .int v_142), (5, .long w_140), (4, .int v_21), (3, .int (mi 40)), (0, .ref (mr 0)), (1, .ref (mr 11)), (2, .int z_n)]) E.1 E.2.1 dX6_search_149 hl141 (k := 1) rfl ev_142 (by decide) rfl (fun ls hl143 => ?_)
                  refine lv_goto (pc := 152) (tgt := 106) E.1 E.2.1 dX6_search_152 (by decide) ?_
                  exact ih_114 v_142 w_140 gcosts_137 glifted_138 gserved_128 gwed_129 _ _ _ ⟨(by show 0 ≤ v_142.toInt; omega), (by show v_142.toInt ≤ z_n.toInt; omega), hp_131, hp_132⟩ (by omega) hw139 (lv_sub hl143 [0, 1, 2, 3, 4, 5, 6] rfl)
                · skip
                  have hc_133 := eqE (a := x_108.toInt) (b := 0) rfl (by decide +kernel) c_133
                  refine lv_aload_n (pc := 128) E.1 E.2.1 dX6_search_128 rfl (lv_at hl116 5 rfl) ?_
                  refine x_get (pc := 129) (T := TX10) (N := 17) (ci := 10) (v := .ref (mr 21)) E hw130 inX10 7 0 q_459 rfl rfl (by decide) rfl rfl dX6_search_129 ?_
                  refine lv_goto (pc := 132) (tgt := 136) E.1 E.2.1 dX6_search_132 (by decide) ?_
                  refine lv_lload (pc := 136) E.1 E.2.1 dX6_search_136 (lv_at hl116 1 rfl) ?_
                  refine cq_v (pc := 138) (ws' := (fun (u : (Nat → Int64) × (Nat → Int64)) => (WZ_PV1 cI cJ mr (upd mi 8 nwants_7) (va_up (va_up (va_up (va_up (va_up (va_up mf 6 ghops_16) 7 gwanted_8) 9 gserved_128) 10 gwed_129) 50 gpmeasured_17) 51 gpmeasuredIn_18) (va_up (va_up mg 4 u.1) 5 u.2)))) hw130 [0, 1, 2, 3, 4, 5, 6, 13, 14, 15, 16, 17, 18] [7, 8, 9, 10, 11, 12, 19, 20, 21, 22, 23, 24, 25, 26, 27, 28, 29, 30, 31, 32, 33, 34, 35, 36, 37, 38, 39, 40, 41, 42, 43, 44, 45, 46, 47, 48, 49, 50, 51, 52, 53, 54, 55, 56, 57] [45, 46, 47, 48, 49, 50, 51, 0, 1, 2, 3, 4, 5, 52, 53, 54, 55, 56, 57, 6, 7, 8, 9, 10, 11, 12, 13, 14, 15, 16, 17, 18, 19, 20, 21, 22, 23, 24, 25, 26, 27, 28, 29, 30, 31, 32, 33, 34, 35, 36, 37, 38, 39, 40, 41, 42, 43, 44] rfl rfl (by decide) (by decide) (fun _ => rfl) (by decide) (rn_V (As := [.int (mi 40), .int v_21, .ref (mr 21), .long w_109]) (rest := []) E hw130 (t_spreadNight_s l D cI cJ _ (ixf [0, 1, 2, 3, 4, 5, 6, 7, 8, 9, 10, 21, 22, 23, 24, 25, 26, 27, 28, 29, 30, 31, 32, 33] mr) (ixf [0, 1, 2, 3, 4, 5, 6, 7, 8, 9, 10, 21, 22, 23, 24, 25, 26, 27, 28, 29, 30, 31, 32, 33] (upd mi 8 nwants_7)) (ixf [0, 1, 2, 3, 4, 5, 6, 7, 8, 9, 10, 21, 22, 23, 24, 25, 26, 27, 28, 29, 30, 31, 32, 33] (va_up (va_up (va_up (va_up (va_up (va_up mf 6 ghops_16) 7 gwanted_8) 9 gserved_128) 10 gwed_129) 50 gpmeasured_17) 51 gpmeasuredIn_18)) (ixf [0, 1, 2, 3, 4, 5, 6, 7, 8, 9, 10, 21, 22, 23, 24, 25, 26, 27, 28, 29, 30, 31, 32, 33] (va_up (va_up mg 4 g_110) 5 g_111)) (mi 40) v_21 w_109 (by show 0 ≤ (mi 40).toInt ∧ (mi 40).toInt ≤ 10; omega) (by show 1 ≤ v_21.toInt ∧ v_21.toInt ≤ 1024; omega) hp_131 hp_132) (gdV q_1216 q_1218 q_34 q_170 q_1219) hdV_X6_spreadNight ⟨rfl, rfl⟩ ⟨(Nat.le_of_ble_eq_true rfl), (Nat.le_of_ble_eq_true rfl)⟩ ⟨(Nat.le_of_ble_eq_true rfl), (Nat.le_of_ble_eq_true rfl)⟩ xT_b xT_at 0 6 rfl rfl rfl [0, 1, 2, 3, 4, 5, 6, 13, 14, 15, 16, 17, 18] rfl (by decide) rfl hl116.1 rfl (Nat.le_of_ble_eq_true rfl) dX6_search_138) (fun u_144 H1 locs hp hw146 => ?_)
                  obtain ⟨gcosts_147, glifted_148⟩ := u_144
                  generalize H1 = H at hw146 ⊢
                  have hw149 : WD D A s.heap (WZ_PV1 cI cJ mr (upd mi 8 nwants_7) (va_up (va_up (va_up (va_up (va_up (va_up mf 6 ghops_16) 7 gwanted_8) 9 gserved_128) 10 gwed_129) 50 gpmeasured_17) 51 gpmeasuredIn_18) (va_up (va_up mg 4 gcosts_147) 5 glifted_148)) H locs := hw146
                  refine lv_lload (pc := 141) E.1 E.2.1 dX6_search_141 (lv_at hl116 1 rfl) ?_
                  refine lv_ldc2 (pc := 143) (v := 10) E.1 E.2.1 E.2.2.2.1 (E.2.2.2.2.1 _ q_1211) dX6_search_143 ?_
                  refine lv_ldiv (pc := 146) E.1 E.2.1 dX6_search_146 (by decide +kernel) ?_
                  refine lv_topl (fun w_150 ew_150 => ?_)
                  refine lv_lstore (pc := 147) (lv' := [(5, .long w_150), (7, .int x_108), (4, .int v_21), (3, .int (mi 40)), (0, .ref (mr 0)), (1, .ref (mr 11)), (2, .int z_n)]) E.1 E.2.1 dX6_search_147 hl116 (by decide) rfl (fun ls hl151 => ?_)
                  obtain ⟨v_152, ev_152⟩ : ∃ z : Int32, x_108 + Int32.ofInt (1) = z := ⟨_, rfl⟩
                  have hv_152 : v_152.toInt = x_108.toInt + (1) := by rw [← ev_152]; exact incE rfl (by decide) (by omega)
                  refine lv_iinc (pc := 149) (v := v_152) (lv' := [(7, .int v_152), (5, .long w_150), (4, .int v_21), (3, .int (mi 40)), (0, .ref (mr 0)), (1, .ref (mr 11)), (2, .int z_n)]) E.1 E.2.1 dX6_search_149 hl151 (k := 1) rfl ev_152 (by decide) rfl (fun ls hl153 => ?_)
                  refine lv_goto (pc := 152) (tgt := 106) E.1 E.2.1 dX6_search_152 (by decide) ?_
                  exact ih_114 v_152 w_150 gcosts_147 glifted_148 gserved_128 gwed_129 _ _ _ ⟨(by show 0 ≤ v_152.toInt; omega), (by show v_152.toInt ≤ z_n.toInt; omega), hp_131, hp_132⟩ (by omega) hw149 (lv_sub hl153 [0, 1, 2, 3, 4, 5, 6] rfl)
          exact loop_107 (Int.toNat (z_n.toInt - 0) + 1) 0 r_101 g_26 (mg 5) (mf 9) (mf 10) _ _ _ ⟨(by show 0 ≤ (0 : Int32).toInt; have k_0 : (0 : Int32).toInt = 0 := (by decide +kernel); omega), (by show (0 : Int32).toInt ≤ z_n.toInt; have k_0 : (0 : Int32).toInt = 0 := (by decide +kernel); omega), a_served, a_wed⟩ (by have k_0 : (0 : Int32).toInt = 0 := (by decide +kernel); omega) hw103 (lv_sub hl106 [0, 1, 2, 3, 4, 5, 6] rfl)
      · skip
        have hc_31 := nleE (a := v_30.toInt) (b := x_25.toInt) rfl rfl c_31
        refine lv_iload (pc := 39) E.1 E.2.1 dX6_search_39 (lv_at hl29 0 rfl) ?_
        refine lv_aload_n (pc := 41) E.1 E.2.1 dX6_search_41 rfl (lv_at hl29 3 rfl) ?_
        refine x_get (pc := 42) (T := TX6) (N := 10) (ci := 6) (v := .ref (mr 4)) E hw28 inX6 0 3 q_1165 rfl rfl (by decide) rfl rfl dX6_search_42 ?_
        refine va_alen (pc := 45) E.1 E.2.1 E.2.2.2.2.2 hw28.1 1 1 rfl rfl (v := 10240) (show Int32.ofNat 10240 = 10240 from by decide +kernel) dX6_search_45 ?_
        refine lv_icmp_ge (pc := 46) (tgt := 65) E.1 E.2.1 dX6_search_46 (by decide) (fun c_154 => absurd c_154 (mnleE (a := 10240) (b := x_25.toInt) (by decide +kernel) rfl (by omega))) (fun _ => ?_)
        refine lv_aload_n (pc := 49) E.1 E.2.1 dX6_search_49 rfl (lv_at hl29 3 rfl) ?_
        refine x_get (pc := 50) (T := TX6) (N := 10) (ci := 6) (v := .ref (mr 4)) E hw28 inX6 0 3 q_1165 rfl rfl (by decide) rfl rfl dX6_search_50 ?_
        refine lv_iload (pc := 53) E.1 E.2.1 dX6_search_53 (lv_at hl29 0 rfl) ?_
        refine lv_ldc2 (pc := 55) (v := (-1)) E.1 E.2.1 E.2.2.2.1 (E.2.2.2.2.1 _ q_1206) dX6_search_55 ?_
        refine x_lastO (pc := 58) (f := g_26) (wf := fun g => (WZ_PV1 cI cJ mr (upd mi 8 nwants_7) (va_up (va_up (va_up (va_up mf 6 ghops_16) 7 gwanted_8) 50 gpmeasured_17) 51 gpmeasuredIn_18) (va_up mg 4 g))) E hw28 1 rfl (inbE (a := x_25.toInt) rfl (by omega)) (fun _ => rfl) dX6_search_58 (fun g_155 H locs hw156 => ?_)
        obtain ⟨v_157, ev_157⟩ : ∃ z : Int32, x_25 + Int32.ofInt (1) = z := ⟨_, rfl⟩
        have hv_157 : v_157.toInt = x_25.toInt + (1) := by rw [← ev_157]; exact incE rfl (by decide) (by omega)
        refine lv_iinc (pc := 59) (v := v_157) (lv' := [(5, .int v_157), (4, .int v_21), (3, .int (mi 40)), (0, .ref (mr 0)), (1, .ref (mr 11)), (2, .int z_n)]) E.1 E.2.1 dX6_search_59 hl29 (k := 0) rfl ev_157 (by decide) rfl (fun ls hl158 => ?_)
        refine lv_goto (pc := 62) (tgt := 30) E.1 E.2.1 dX6_search_62 (by decide) ?_
        exact ih_27 v_157 g_155 _ _ _ ⟨(by show 0 ≤ v_157.toInt; omega), (by show v_157.toInt ≤ 10240; omega)⟩ (by omega) hw156 (lv_sub hl158 [0, 1, 2, 3, 4, 5] rfl)
  exact loop_24 (Int.toNat (10240 - 0) + 1) 0 (mg 4) _ _ _ ⟨(by show 0 ≤ (0 : Int32).toInt; have k_0 : (0 : Int32).toInt = 0 := (by decide +kernel); omega), (by show (0 : Int32).toInt ≤ 10240; have k_0 : (0 : Int32).toInt = 0 := (by decide +kernel); omega)⟩ (by have k_0 : (0 : Int32).toInt = 0 := (by decide +kernel); omega) hw19 (lv_sub hl23 [0, 1, 2, 3, 4, 5] rfl)
