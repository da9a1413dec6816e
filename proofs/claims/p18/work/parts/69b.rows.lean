set_option maxHeartbeats 4000000 in
set_option maxRecDepth 100000 in
theorem t_isFreeK (l : Launch) (D : va_G) (cI cJ : ClassId) (sz : Nat) (mr : Nat → Nat) (mi : Nat → Int32) (mf : Nat → Nat → Int32) (mg : Nat → Nat → Int64) (z_where : Int32) (mv : Nat → Value) (h0 : 0 ≤ (mi 6).toInt ∧ (mi 6).toInt ≤ 10) : Met l yX1_isFree (Cond.code yX1_isFree cX1_isFree 3 (some .boolean) :: GW) ({ frames := 1, cells := 0, slots := 0, locals := 40 } : Room) (va_Pc [.ref (mr 0), .int z_where] (PW D cI cJ sz (WZ_HousesO cI cJ mv mr mi mf mg) xT)) (va_Qi (fun (r : Int32) (u : Unit) => (0 ≤ r.toInt) ∧ (r.toInt ≤ 1) ∧ (((r : Int32) = 1 ↔ FREE (mi 6).toInt (mf 1) (z_where : Int32).toInt))) (fun u => QW D cI cJ (va_A (WZ_HousesO cI cJ mv mr mi mf mg) sz) ((fun (u : Unit) => (WZ_HousesO cI cJ mv mr mi mf mg)) u)) (va_A (WZ_HousesO cI cJ mv mr mi mf mg) sz)) 0 0 (va_A (WZ_HousesO cI cJ mv mr mi mf mg) sz) := by
  refine mk_met (y := yX1_isFree) (bytes := cX1_isFree) (maxL := 3) (avs := [.ref (mr 0), .int z_where]) (WS := (WZ_HousesO cI cJ mv mr mi mf mg)) (Qf := fun A => va_Qi (fun (r : Int32) (u : Unit) => (0 ≤ r.toInt) ∧ (r.toInt ≤ 1) ∧ (((r : Int32) = 1 ↔ FREE (mi 6).toInt (mf 1) (z_where : Int32).toInt))) (fun u => QW D cI cJ A ((fun (u : Unit) => (WZ_HousesO cI cJ mv mr mi mf mg)) u)) A) (by decide) (Nat.le_of_ble_eq_true rfl) ?_
  intro p e s m below meth c A ls E hr hlk hnm hX hw1 hl2
  have hl3 : lv_has ls 3 [(0, .ref (mr 0)), (1, .int z_where)] := hl2
  refine lv_iload_n (pc := 0) E.1 E.2.1 dX1_isFree_0 rfl (lv_at hl3 1 rfl) ?_
  refine lv_if_lt (pc := 1) (tgt := 10) E.1 E.2.1 dX1_isFree_1 (by decide) (fun c_4 => ?_) (fun c_4 => ?_)
  · skip
    have hc_4 := ltE (a := z_where.toInt) (b := 0) rfl (by decide +kernel) c_4
    refine lv_iconst (pc := 10) (v := 0) E.1 E.2.1 dX1_isFree_10 (by decide +kernel) ?_
    exact em_z (w1 := (fun (u : Unit) => (WZ_HousesO cI cJ mv mr mi mf mg))) E hr hlk () hw1 ⟨(by show 0 ≤ (0 : Int32).toInt; have k_0 : (0 : Int32).toInt = 0 := (by decide +kernel); omega), (by show (0 : Int32).toInt ≤ 1; have k_0 : (0 : Int32).toInt = 0 := (by decide +kernel); omega), (show ((0 : Int32) = 1 ↔ FREE (mi 6).toInt (mf 1) (z_where : Int32).toInt) from ⟨fun h => absurd h (by decide +kernel), fun h => absurd h.1 (by have h2 := h.2.1; omega)⟩)⟩ (by decide +kernel) (Nat.le_of_ble_eq_true rfl) (Nat.le_of_ble_eq_true rfl) dX1_isFree_11
  · skip
    have hc_4 := nltE (a := z_where.toInt) (b := 0) rfl (by decide +kernel) c_4
    refine lv_iload_n (pc := 4) E.1 E.2.1 dX1_isFree_4 rfl (lv_at hl3 1 rfl) ?_
    refine lv_bipush (pc := 5) (v := 63) E.1 E.2.1 dX1_isFree_5 (by decide +kernel) ?_
    refine lv_icmp_le (pc := 7) (tgt := 12) E.1 E.2.1 dX1_isFree_7 (by decide) (fun c_5 => ?_) (fun c_5 => ?_)
    · skip
      have hc_5 := leE (a := z_where.toInt) (b := 63) rfl (by decide +kernel) c_5
      refine lv_iconst (pc := 12) (v := 0) E.1 E.2.1 dX1_isFree_12 (by decide +kernel) ?_
      refine lv_istore_n (pc := 13) (lv' := [(2, .int 0), (0, .ref (mr 0)), (1, .int z_where)]) E.1 E.2.1 dX1_isFree_13 rfl hl3 (by decide) rfl (fun ls hl6 => ?_)
      have loop_7 : ∀ (k : Nat) (x_8 : Int32) (H : Heap) (locs : List Loc) (ls : Array Slot), (0 ≤ x_8.toInt) ∧ (x_8.toInt ≤ (mi 6).toInt) ∧ (∀ j : Nat, (j : Int) < x_8.toInt → ((mf 1) j).toInt ≠ z_where.toInt) → (mi 6).toInt - x_8.toInt < (k : Int) → WD D A s.heap (WZ_HousesO cI cJ mv mr mi mf mg) H locs → lv_has ls 3 [(2, .int x_8), (0, .ref (mr 0)), (1, .int z_where)] → W p l e ({ frames := 1, cells := 0, slots := 0, locals := 40 } : Room) s m ([.ref (mr 0), .int z_where] : List Value).toArray below meth c H locs 0 0 (MQ below (va_Qi (fun (r : Int32) (u : Unit) => (0 ≤ r.toInt) ∧ (r.toInt ≤ 1) ∧ (((r : Int32) = 1 ↔ FREE (mi 6).toInt (mf 1) (z_where : Int32).toInt))) (fun u => QW D cI cJ A ((fun (u : Unit) => (WZ_HousesO cI cJ mv mr mi mf mg)) u)) A) ([.ref (mr 0), .int z_where] : List Value).toArray s 0 0 A) (F0 m 14 ls []) := by
        intro k
        induction k with
        | zero =>
          intro x_8 _ _ _ hinv hm
          obtain ⟨hi_8_0, hi_8_1, hi_8_2⟩ := hinv
          exact absurd hm (by omega)
        | succ k ih_9 =>
          intro x_8 H locs ls hinv hm hw10 hl11
          obtain ⟨hi_8_0, hi_8_1, hi_8_2⟩ := hinv
          refine lv_iload_n (pc := 14) E.1 E.2.1 dX1_isFree_14 rfl (lv_at hl11 0 rfl) ?_
          refine lv_aload_n (pc := 15) E.1 E.2.1 dX1_isFree_15 rfl (lv_at hl11 1 rfl) ?_
          refine x_get (pc := 16) (T := TX1) (N := 9) (ci := 1) (v := .int (mi 6)) E hw10 inX1 0 5 q_281 rfl rfl (by decide) rfl rfl dX1_isFree_16 ?_
          refine lv_icmp_ge (pc := 19) (tgt := 40) E.1 E.2.1 dX1_isFree_19 (by decide) (fun c_12 => ?_) (fun c_12 => ?_)
          · skip
            have hc_12 := leE (a := (mi 6).toInt) (b := x_8.toInt) rfl rfl c_12
            refine lv_iconst (pc := 40) (v := 1) E.1 E.2.1 dX1_isFree_40 (by decide +kernel) ?_
            exact em_z (w1 := (fun (u : Unit) => (WZ_HousesO cI cJ mv mr mi mf mg))) E hr hlk () hw10 ⟨(by show 0 ≤ (1 : Int32).toInt; have k_0 : (1 : Int32).toInt = 1 := (by decide +kernel); omega), (by show (1 : Int32).toInt ≤ 1; have k_0 : (1 : Int32).toInt = 1 := (by decide +kernel); omega), (show ((1 : Int32) = 1 ↔ FREE (mi 6).toInt (mf 1) (z_where : Int32).toInt) from ⟨fun _ => ⟨by omega, by omega, fun j hj => hi_8_2 j (by omega)⟩, fun _ => rfl⟩)⟩ (by decide +kernel) (Nat.le_of_ble_eq_true rfl) (Nat.le_of_ble_eq_true rfl) dX1_isFree_41
          · skip
            have hc_12 := nleE (a := (mi 6).toInt) (b := x_8.toInt) rfl rfl c_12
            refine lv_aload_n (pc := 22) E.1 E.2.1 dX1_isFree_22 rfl (lv_at hl11 1 rfl) ?_
            refine x_get (pc := 23) (T := TX1) (N := 9) (ci := 1) (v := .ref (mr 1)) E hw10 inX1 0 0 q_266 rfl rfl (by decide) rfl rfl dX1_isFree_23 ?_
            refine lv_iload_n (pc := 26) E.1 E.2.1 dX1_isFree_26 rfl (lv_at hl11 0 rfl) ?_
            refine x_iald (pc := 27) (f := (mf 1)) E hw10 1 rfl (inbE (a := x_8.toInt) rfl (by omega)) dX1_isFree_27 ?_
            refine lv_topi (fun v_13 ev_13 => ?_)
            refine lv_iload_n (pc := 28) E.1 E.2.1 dX1_isFree_28 rfl (lv_at hl11 2 rfl) ?_
            refine lv_icmp_ne (pc := 29) (tgt := 34) E.1 E.2.1 dX1_isFree_29 (by decide) (fun c_14 => ?_) (fun c_14 => ?_)
            · skip
              have hc_14 := neE (a := v_13.toInt) (b := z_where.toInt) rfl rfl c_14
              obtain ⟨v_15, ev_15⟩ : ∃ z : Int32, x_8 + Int32.ofInt (1) = z := ⟨_, rfl⟩
              have hv_15 : v_15.toInt = x_8.toInt + (1) := by rw [← ev_15]; exact incE rfl (by decide) (by omega)
              refine lv_iinc (pc := 34) (v := v_15) (lv' := [(2, .int v_15), (0, .ref (mr 0)), (1, .int z_where)]) E.1 E.2.1 dX1_isFree_34 hl11 (k := 0) rfl ev_15 (by decide) rfl (fun ls hl16 => ?_)
              refine lv_goto (pc := 37) (tgt := 14) E.1 E.2.1 dX1_isFree_37 (by decide) ?_
              exact ih_9 v_15 _ _ _ ⟨(by show 0 ≤ v_15.toInt; omega), (by show v_15.toInt ≤ (mi 6).toInt; omega), (free_step hi_8_2 ev_13 (by omega) rfl (by omega) (m := v_15.toInt) (by omega))⟩ (by omega) hw10 (lv_sub hl16 [0, 1, 2] rfl)
            · skip
              have hc_14 := eqE (a := v_13.toInt) (b := z_where.toInt) rfl rfl c_14
              refine lv_iconst (pc := 32) (v := 0) E.1 E.2.1 dX1_isFree_32 (by decide +kernel) ?_
              exact em_z (w1 := (fun (u : Unit) => (WZ_HousesO cI cJ mv mr mi mf mg))) E hr hlk () hw10 ⟨(by show 0 ≤ (0 : Int32).toInt; have k_0 : (0 : Int32).toInt = 0 := (by decide +kernel); omega), (by show (0 : Int32).toInt ≤ 1; have k_0 : (0 : Int32).toInt = 0 := (by decide +kernel); omega), (show ((0 : Int32) = 1 ↔ FREE (mi 6).toInt (mf 1) (z_where : Int32).toInt) from ⟨fun h => absurd h (by decide +kernel), fun h => (free_hit h ev_13 (by omega) (by omega) (by omega)).elim⟩)⟩ (by decide +kernel) (Nat.le_of_ble_eq_true rfl) (Nat.le_of_ble_eq_true rfl) dX1_isFree_33
      exact loop_7 (Int.toNat ((mi 6).toInt - 0) + 1) 0 _ _ _ ⟨(by show 0 ≤ (0 : Int32).toInt; have k_0 : (0 : Int32).toInt = 0 := (by decide +kernel); omega), (by show (0 : Int32).toInt ≤ (mi 6).toInt; have k_0 : (0 : Int32).toInt = 0 := (by decide +kernel); omega), (fun j hj => absurd hj (by have k0 : (0 : Int32).toInt = 0 := (by decide +kernel); omega))⟩ (by have k_0 : (0 : Int32).toInt = 0 := (by decide +kernel); omega) hw1 (lv_sub hl6 [0, 1, 2] rfl)
    · skip
      have hc_5 := nleE (a := z_where.toInt) (b := 63) rfl (by decide +kernel) c_5
      refine lv_iconst (pc := 10) (v := 0) E.1 E.2.1 dX1_isFree_10 (by decide +kernel) ?_
      exact em_z (w1 := (fun (u : Unit) => (WZ_HousesO cI cJ mv mr mi mf mg))) E hr hlk () hw1 ⟨(by show 0 ≤ (0 : Int32).toInt; have k_0 : (0 : Int32).toInt = 0 := (by decide +kernel); omega), (by show (0 : Int32).toInt ≤ 1; have k_0 : (0 : Int32).toInt = 0 := (by decide +kernel); omega), (show ((0 : Int32) = 1 ↔ FREE (mi 6).toInt (mf 1) (z_where : Int32).toInt) from ⟨fun h => absurd h (by decide +kernel), fun h => absurd h.1 (by have h2 := h.2.1; omega)⟩)⟩ (by decide +kernel) (Nat.le_of_ble_eq_true rfl) (Nat.le_of_ble_eq_true rfl) dX1_isFree_11
set_option maxHeartbeats 4000000 in
set_option maxRecDepth 100000 in
theorem t_allK (l : Launch) (D : va_G) (cI cJ : ClassId) (sz : Nat) (mr : Nat → Nat) (mi : Nat → Int32) (mf : Nat → Nat → Int32) (mg : Nat → Nat → Int64)  (mv : Nat → Value) (h0 : 0 ≤ (mi 6).toInt ∧ (mi 6).toInt ≤ 10) : Met l yX1_all (Cond.code yX1_all cX1_all 1 (some .int) :: GW) ({ frames := 1, cells := 0, slots := 0, locals := 40 } : Room) (va_Pc [.ref (mr 0)] (PW D cI cJ sz (WZ_HousesO cI cJ mv mr mi mf mg) xT)) (va_Qi (fun (r : Int32) (u : Unit) => (0 ≤ r.toInt) ∧ (r.toInt ≤ 1023) ∧ ((r : Int32).toInt = sh1 (mi 6) - 1)) (fun u => QW D cI cJ (va_A (WZ_HousesO cI cJ mv mr mi mf mg) sz) ((fun (u : Unit) => (WZ_HousesO cI cJ mv mr mi mf mg)) u)) (va_A (WZ_HousesO cI cJ mv mr mi mf mg) sz)) 0 0 (va_A (WZ_HousesO cI cJ mv mr mi mf mg) sz) := by
  refine mk_met (y := yX1_all) (bytes := cX1_all) (maxL := 1) (avs := [.ref (mr 0)]) (WS := (WZ_HousesO cI cJ mv mr mi mf mg)) (Qf := fun A => va_Qi (fun (r : Int32) (u : Unit) => (0 ≤ r.toInt) ∧ (r.toInt ≤ 1023) ∧ ((r : Int32).toInt = sh1 (mi 6) - 1)) (fun u => QW D cI cJ A ((fun (u : Unit) => (WZ_HousesO cI cJ mv mr mi mf mg)) u)) A) (by decide) (Nat.le_of_ble_eq_true rfl) ?_
  intro p e s m below meth c A ls E hr hlk hnm hX hw1 hl2
  have hl3 : lv_has ls 1 [(0, .ref (mr 0))] := hl2
  refine lv_iconst (pc := 0) (v := 1) E.1 E.2.1 dX1_all_0 (by decide +kernel) ?_
  refine lv_aload_n (pc := 1) E.1 E.2.1 dX1_all_1 rfl (lv_at hl3 0 rfl) ?_
  refine x_get (pc := 2) (T := TX1) (N := 9) (ci := 1) (v := .int (mi 6)) E hw1 inX1 0 5 q_281 rfl rfl (by decide) rfl rfl dX1_all_2 ?_
  refine lv_ishl (pc := 5) E.1 E.2.1 dX1_all_5 ?_
  refine lv_topi (fun v_4 ev_4 => ?_)
  have hb1v_4 : 1 ≤ v_4.toInt ∧ v_4.toInt ≤ 1024 := by rw [ev_4]; exact shl10 (by omega)
  refine lv_iconst (pc := 6) (v := 1) E.1 E.2.1 dX1_all_6 (by decide +kernel) ?_
  refine lv_isub (pc := 7) E.1 E.2.1 dX1_all_7 ?_
  refine lv_topi (fun v_5 ev_5 => ?_)
  have hv_5 : v_5.toInt = v_4.toInt - 1 := by rw [ev_5]; exact subE rfl (by decide +kernel) (by omega)
  exact em_i (w1 := (fun (u : Unit) => (WZ_HousesO cI cJ mv mr mi mf mg))) E hr hlk () hw1 ⟨(by show 0 ≤ v_5.toInt; omega), (by show v_5.toInt ≤ 1023; omega), (show (v_5 : Int32).toInt = sh1 (mi 6) - 1 from (by have q := all_sh ev_4; omega))⟩ (Nat.le_of_ble_eq_true rfl) (Nat.le_of_ble_eq_true rfl) dX1_all_8
set_option maxHeartbeats 4000000 in
set_option maxRecDepth 100000 in
theorem t_befriendK (l : Launch) (D : va_G) (cI cJ : ClassId) (sz : Nat) (mr : Nat → Nat) (mi : Nat → Int32) (mf : Nat → Nat → Int32) (mg : Nat → Nat → Int64) (z_a : Int32) (z_b : Int32) (z_are : Int32) (mv : Nat → Value) (h0 : 0 ≤ z_a.toInt ∧ z_a.toInt ≤ 9) : Met l yX1_befriend (Cond.code yX1_befriend cX1_befriend 4 none :: GW) ({ frames := 1, cells := 0, slots := 0, locals := 40 } : Room) (va_Pc [.ref (mr 0), .int z_a, .int z_b, .int z_are] (PW D cI cJ sz (WZ_HousesO cI cJ mv mr mi mf mg) xT)) (va_Qv (fun (u : (Nat → Int32)) => (BF1 (mf 5) u z_a z_b z_are)) (fun u => QW D cI cJ (va_A (WZ_HousesO cI cJ mv mr mi mf mg) sz) ((fun (u : (Nat → Int32)) => (WZ_HousesO cI cJ mv mr mi (va_up mf 5 u) mg)) u)) (va_A (WZ_HousesO cI cJ mv mr mi mf mg) sz)) 0 0 (va_A (WZ_HousesO cI cJ mv mr mi mf mg) sz) := by
  refine mk_met (y := yX1_befriend) (bytes := cX1_befriend) (maxL := 4) (avs := [.ref (mr 0), .int z_a, .int z_b, .int z_are]) (WS := (WZ_HousesO cI cJ mv mr mi mf mg)) (Qf := fun A => va_Qv (fun (u : (Nat → Int32)) => (BF1 (mf 5) u z_a z_b z_are)) (fun u => QW D cI cJ A ((fun (u : (Nat → Int32)) => (WZ_HousesO cI cJ mv mr mi (va_up mf 5 u) mg)) u)) A) (by decide) (Nat.le_of_ble_eq_true rfl) ?_
  intro p e s m below meth c A ls E hr hlk hnm hX hw1 hl2
  have hl3 : lv_has ls 4 [(0, .ref (mr 0)), (1, .int z_a), (2, .int z_b), (3, .int z_are)] := hl2
  refine lv_aload_n (pc := 0) E.1 E.2.1 dX1_befriend_0 rfl (lv_at hl3 0 rfl) ?_
  refine x_get (pc := 1) (T := TX1) (N := 9) (ci := 1) (v := .ref (mr 5)) E hw1 inX1 0 4 q_277 rfl rfl (by decide) rfl rfl dX1_befriend_1 ?_
  refine lv_iload_n (pc := 4) E.1 E.2.1 dX1_befriend_4 rfl (lv_at hl3 1 rfl) ?_
  refine lv_iload_n (pc := 5) E.1 E.2.1 dX1_befriend_5 rfl (lv_at hl3 3 rfl) ?_
  refine lv_if_eq (pc := 6) (tgt := 22) E.1 E.2.1 dX1_befriend_6 (by decide) (fun c_4 => ?_) (fun c_4 => ?_)
  · skip
    have hc_4 := eqE (a := z_are.toInt) (b := 0) rfl (by decide +kernel) c_4
    refine lv_aload_n (pc := 22) E.1 E.2.1 dX1_befriend_22 rfl (lv_at hl3 0 rfl) ?_
    refine x_get (pc := 23) (T := TX1) (N := 9) (ci := 1) (v := .ref (mr 5)) E hw1 inX1 0 4 q_277 rfl rfl (by decide) rfl rfl dX1_befriend_23 ?_
    refine lv_iload_n (pc := 26) E.1 E.2.1 dX1_befriend_26 rfl (lv_at hl3 1 rfl) ?_
    refine x_iald (pc := 27) (f := (mf 5)) E hw1 5 rfl (inbE (a := z_a.toInt) rfl (by omega)) dX1_befriend_27 ?_
    refine lv_topi (fun v_5 ev_5 => ?_)
    refine lv_iconst (pc := 28) (v := 1) E.1 E.2.1 dX1_befriend_28 (by decide +kernel) ?_
    refine lv_iload_n (pc := 29) E.1 E.2.1 dX1_befriend_29 rfl (lv_at hl3 2 rfl) ?_
    refine lv_ishl (pc := 30) E.1 E.2.1 dX1_befriend_30 ?_
    refine lv_topi (fun v_6 ev_6 => ?_)
    refine lv_iconst (pc := 31) (v := (-1)) E.1 E.2.1 dX1_befriend_31 (by decide +kernel) ?_
    refine lv_ixor (pc := 32) E.1 E.2.1 dX1_befriend_32 ?_
    refine lv_topi (fun v_7 ev_7 => ?_)
    refine lv_iand (pc := 33) E.1 E.2.1 dX1_befriend_33 ?_
    refine lv_topi (fun v_8 ev_8 => ?_)
    refine x_iastG (pc := 34) (f := (mf 5)) (wf := fun g => (WZ_HousesO cI cJ mv mr mi (va_up mf 5 g) mg)) E hw1 5 rfl (inbE (a := z_a.toInt) rfl (by omega)) (fun _ => rfl) dX1_befriend_34 (fun g_9 H locs eg_9 hw10 => ?_)
    exact em_v (w1 := (fun (u : (Nat → Int32)) => (WZ_HousesO cI cJ mv mr mi (va_up mf 5 u) mg))) E hr hlk g_9 hw10 (show BF1 (mf 5) g_9 z_a z_b z_are from (bf_cl ev_5 ev_6 ev_7 ev_8 eg_9 (by omega) (by omega))) (Nat.le_of_ble_eq_true rfl) (Nat.le_of_ble_eq_true rfl) dX1_befriend_35
  · skip
    have hc_4 := neE (a := z_are.toInt) (b := 0) rfl (by decide +kernel) c_4
    refine lv_aload_n (pc := 9) E.1 E.2.1 dX1_befriend_9 rfl (lv_at hl3 0 rfl) ?_
    refine x_get (pc := 10) (T := TX1) (N := 9) (ci := 1) (v := .ref (mr 5)) E hw1 inX1 0 4 q_277 rfl rfl (by decide) rfl rfl dX1_befriend_10 ?_
    refine lv_iload_n (pc := 13) E.1 E.2.1 dX1_befriend_13 rfl (lv_at hl3 1 rfl) ?_
    refine x_iald (pc := 14) (f := (mf 5)) E hw1 5 rfl (inbE (a := z_a.toInt) rfl (by omega)) dX1_befriend_14 ?_
    refine lv_topi (fun v_11 ev_11 => ?_)
    refine lv_iconst (pc := 15) (v := 1) E.1 E.2.1 dX1_befriend_15 (by decide +kernel) ?_
    refine lv_iload_n (pc := 16) E.1 E.2.1 dX1_befriend_16 rfl (lv_at hl3 2 rfl) ?_
    refine lv_ishl (pc := 17) E.1 E.2.1 dX1_befriend_17 ?_
    refine lv_topi (fun v_12 ev_12 => ?_)
    refine lv_ior (pc := 18) E.1 E.2.1 dX1_befriend_18 ?_
    refine lv_topi (fun v_13 ev_13 => ?_)
    refine lv_goto (pc := 19) (tgt := 34) E.1 E.2.1 dX1_befriend_19 (by decide) ?_
    refine x_iastG (pc := 34) (f := (mf 5)) (wf := fun g => (WZ_HousesO cI cJ mv mr mi (va_up mf 5 g) mg)) E hw1 5 rfl (inbE (a := z_a.toInt) rfl (by omega)) (fun _ => rfl) dX1_befriend_34 (fun g_14 H locs eg_14 hw15 => ?_)
    exact em_v (w1 := (fun (u : (Nat → Int32)) => (WZ_HousesO cI cJ mv mr mi (va_up mf 5 u) mg))) E hr hlk g_14 hw15 (show BF1 (mf 5) g_14 z_a z_b z_are from (bf_or ev_11 ev_12 ev_13 eg_14 (by omega) (by omega))) (Nat.le_of_ble_eq_true rfl) (Nat.le_of_ble_eq_true rfl) dX1_befriend_35
set_option maxHeartbeats 4000000 in
set_option maxRecDepth 100000 in
theorem t_all1K (l : Launch) (D : va_G) (cI cJ : ClassId) (sz : Nat) (mr : Nat → Nat) (mi : Nat → Int32) (mf : Nat → Nat → Int32) (mg : Nat → Nat → Int64)  (h0 : 0 ≤ (mi 6).toInt ∧ (mi 6).toInt ≤ 10) : Met l yX1_all (Cond.code yX1_all cX1_all 1 (some .int) :: GW) ({ frames := 1, cells := 0, slots := 0, locals := 40 } : Room) (va_Pc [.ref (mr 0)] (PW D cI cJ sz (WZ_Houses1 cI cJ mr mi mf mg) xT)) (va_Qi (fun (r : Int32) (u : Unit) => (0 ≤ r.toInt) ∧ (r.toInt ≤ 1023) ∧ ((r : Int32).toInt = ((2 ^ (mi 6).toInt.toNat - 1 : Nat) : Int))) (fun u => QW D cI cJ (va_A (WZ_Houses1 cI cJ mr mi mf mg) sz) ((fun (u : Unit) => (WZ_Houses1 cI cJ mr mi mf mg)) u)) (va_A (WZ_Houses1 cI cJ mr mi mf mg) sz)) 0 0 (va_A (WZ_Houses1 cI cJ mr mi mf mg) sz) := by
  refine mk_met (y := yX1_all) (bytes := cX1_all) (maxL := 1) (avs := [.ref (mr 0)]) (WS := (WZ_Houses1 cI cJ mr mi mf mg)) (Qf := fun A => va_Qi (fun (r : Int32) (u : Unit) => (0 ≤ r.toInt) ∧ (r.toInt ≤ 1023) ∧ ((r : Int32).toInt = ((2 ^ (mi 6).toInt.toNat - 1 : Nat) : Int))) (fun u => QW D cI cJ A ((fun (u : Unit) => (WZ_Houses1 cI cJ mr mi mf mg)) u)) A) (by decide) (Nat.le_of_ble_eq_true rfl) ?_
  intro p e s m below meth c A ls E hr hlk hnm hX hw1 hl2
  have hl3 : lv_has ls 1 [(0, .ref (mr 0))] := hl2
  refine lv_iconst (pc := 0) (v := 1) E.1 E.2.1 dX1_all_0 (by decide +kernel) ?_
  refine lv_aload_n (pc := 1) E.1 E.2.1 dX1_all_1 rfl (lv_at hl3 0 rfl) ?_
  refine x_get (pc := 2) (T := TX1) (N := 9) (ci := 1) (v := .int (mi 6)) E hw1 inX1 0 5 q_281 rfl rfl (by decide) rfl rfl dX1_all_2 ?_
  refine lv_ishl (pc := 5) E.1 E.2.1 dX1_all_5 ?_
  refine lv_topi (fun v_4 ev_4 => ?_)
  have hb1v_4 : 1 ≤ v_4.toInt ∧ v_4.toInt ≤ 1024 := by rw [ev_4]; exact shl10 (by omega)
  refine lv_iconst (pc := 6) (v := 1) E.1 E.2.1 dX1_all_6 (by decide +kernel) ?_
  refine lv_isub (pc := 7) E.1 E.2.1 dX1_all_7 ?_
  refine lv_topi (fun v_5 ev_5 => ?_)
  have hv_5 : v_5.toInt = v_4.toInt - 1 := by rw [ev_5]; exact subE rfl (by decide +kernel) (by omega)
  exact em_i (w1 := (fun (u : Unit) => (WZ_Houses1 cI cJ mr mi mf mg))) E hr hlk () hw1 ⟨(by show 0 ≤ v_5.toInt; omega), (by show v_5.toInt ≤ 1023; omega), (show (v_5 : Int32).toInt = ((2 ^ (mi 6).toInt.toNat - 1 : Nat) : Int) from (al_p2 ev_4 (by omega) (by omega)))⟩ (Nat.le_of_ble_eq_true rfl) (Nat.le_of_ble_eq_true rfl) dX1_all_8
set_option maxHeartbeats 4000000 in
set_option maxRecDepth 100000 in
theorem t_pairsInK (l : Launch) (D : va_G) (cI cJ : ClassId) (sz : Nat) (mr : Nat → Nat) (mi : Nat → Int32) (mf : Nat → Nat → Int32) (mg : Nat → Nat → Int64) (z_set : Int32)  : Met l yX1_pairsIn (Cond.code yX1_pairsIn cX1_pairsIn 2 (some .int) :: GW) ({ frames := 1, cells := 0, slots := 0, locals := 40 } : Room) (va_Pc [.ref (mr 0), .int z_set] (PW D cI cJ sz (WZ_Houses1 cI cJ mr mi mf mg) xT)) (va_Qi (fun (r : Int32) (u : Unit) => ((r : Int32).toInt = PINf (mf 9) z_set.toInt)) (fun u => QW D cI cJ (va_A (WZ_Houses1 cI cJ mr mi mf mg) sz) ((fun (u : Unit) => (WZ_Houses1 cI cJ mr mi mf mg)) u)) (va_A (WZ_Houses1 cI cJ mr mi mf mg) sz)) 0 0 (va_A (WZ_Houses1 cI cJ mr mi mf mg) sz) := by
  refine mk_met (y := yX1_pairsIn) (bytes := cX1_pairsIn) (maxL := 2) (avs := [.ref (mr 0), .int z_set]) (WS := (WZ_Houses1 cI cJ mr mi mf mg)) (Qf := fun A => va_Qi (fun (r : Int32) (u : Unit) => ((r : Int32).toInt = PINf (mf 9) z_set.toInt)) (fun u => QW D cI cJ A ((fun (u : Unit) => (WZ_Houses1 cI cJ mr mi mf mg)) u)) A) (by decide) (Nat.le_of_ble_eq_true rfl) ?_
  intro p e s m below meth c A ls E hr hlk hnm hX hw1 hl2
  have hl3 : lv_has ls 2 [(0, .ref (mr 0)), (1, .int z_set)] := hl2
  refine lv_aload_n (pc := 0) E.1 E.2.1 dX1_pairsIn_0 rfl (lv_at hl3 0 rfl) ?_
  refine x_get (pc := 1) (T := TX1) (N := 9) (ci := 1) (v := .ref (mr 9)) E hw1 inX1 0 8 q_288 rfl rfl (by decide) rfl rfl dX1_pairsIn_1 ?_
  refine lv_ifnull (pc := 4) E.1 E.2.1 dX1_pairsIn_4 ?_
  refine lv_iload_n (pc := 7) E.1 E.2.1 dX1_pairsIn_7 rfl (lv_at hl3 1 rfl) ?_
  refine lv_if_le (pc := 8) (tgt := 29) E.1 E.2.1 dX1_pairsIn_8 (by decide) (fun c_4 => ?_) (fun c_4 => ?_)
  · skip
    have hc_4 := leE (a := z_set.toInt) (b := 0) rfl (by decide +kernel) c_4
    refine lv_iconst (pc := 29) (v := 0) E.1 E.2.1 dX1_pairsIn_29 (by decide +kernel) ?_
    exact em_i (w1 := (fun (u : Unit) => (WZ_Houses1 cI cJ mr mi mf mg))) E hr hlk () hw1 (show (0 : Int32).toInt = PINf (mf 9) z_set.toInt from (PIN_n (by omega) (by decide +kernel))) (Nat.le_of_ble_eq_true rfl) (Nat.le_of_ble_eq_true rfl) dX1_pairsIn_30
  · skip
    have hc_4 := nleE (a := z_set.toInt) (b := 0) rfl (by decide +kernel) c_4
    refine lv_iload_n (pc := 11) E.1 E.2.1 dX1_pairsIn_11 rfl (lv_at hl3 1 rfl) ?_
    refine lv_aload_n (pc := 12) E.1 E.2.1 dX1_pairsIn_12 rfl (lv_at hl3 0 rfl) ?_
    refine x_get (pc := 13) (T := TX1) (N := 9) (ci := 1) (v := .ref (mr 9)) E hw1 inX1 0 8 q_288 rfl rfl (by decide) rfl rfl dX1_pairsIn_13 ?_
    refine va_alen (pc := 16) E.1 E.2.1 E.2.2.2.2.2 hw1.1 8 0 rfl rfl (v := 1024) (show Int32.ofNat 1024 = 1024 from by decide +kernel) dX1_pairsIn_16 ?_
    refine lv_icmp_ge (pc := 17) (tgt := 29) E.1 E.2.1 dX1_pairsIn_17 (by decide) (fun c_5 => ?_) (fun c_5 => ?_)
    · skip
      have hc_5 := leE (a := 1024) (b := z_set.toInt) (by decide +kernel) rfl c_5
      refine lv_iconst (pc := 29) (v := 0) E.1 E.2.1 dX1_pairsIn_29 (by decide +kernel) ?_
      exact em_i (w1 := (fun (u : Unit) => (WZ_Houses1 cI cJ mr mi mf mg))) E hr hlk () hw1 (show (0 : Int32).toInt = PINf (mf 9) z_set.toInt from (PIN_n (by omega) (by decide +kernel))) (Nat.le_of_ble_eq_true rfl) (Nat.le_of_ble_eq_true rfl) dX1_pairsIn_30
    · skip
      have hc_5 := nleE (a := 1024) (b := z_set.toInt) (by decide +kernel) rfl c_5
      refine lv_aload_n (pc := 20) E.1 E.2.1 dX1_pairsIn_20 rfl (lv_at hl3 0 rfl) ?_
      refine x_get (pc := 21) (T := TX1) (N := 9) (ci := 1) (v := .ref (mr 9)) E hw1 inX1 0 8 q_288 rfl rfl (by decide) rfl rfl dX1_pairsIn_21 ?_
      refine lv_iload_n (pc := 24) E.1 E.2.1 dX1_pairsIn_24 rfl (lv_at hl3 1 rfl) ?_
      refine x_iald (pc := 25) (f := (mf 9)) E hw1 8 rfl (inbE (a := z_set.toInt) rfl (by omega)) dX1_pairsIn_25 ?_
      refine lv_topi (fun v_6 ev_6 => ?_)
      refine lv_goto (pc := 26) (tgt := 30) E.1 E.2.1 dX1_pairsIn_26 (by decide) ?_
      exact em_i (w1 := (fun (u : Unit) => (WZ_Houses1 cI cJ mr mi mf mg))) E hr hlk () hw1 (show (v_6 : Int32).toInt = PINf (mf 9) z_set.toInt from (PIN_y ev_6 (by omega) (by omega))) (Nat.le_of_ble_eq_true rfl) (Nat.le_of_ble_eq_true rfl) dX1_pairsIn_30
set_option maxHeartbeats 4000000 in
set_option maxRecDepth 100000 in
theorem t_mostPairsK (l : Launch) (D : va_G) (cI cJ : ClassId) (sz : Nat) (mr : Nat → Nat) (mi : Nat → Int32) (mf : Nat → Nat → Int32) (mg : Nat → Nat → Int64) (z_h : Int32) (z_rest : Int32) (h0 : 0 ≤ (mi 6).toInt ∧ (mi 6).toInt ≤ 10) (h1 : 0 ≤ z_h.toInt) (h2 : z_h.toInt + 1 ≤ (mi 6).toInt) (h3 : 0 ≤ z_rest.toInt ∧ z_rest.toInt ≤ 1023) (x_wf : WFF (mi 6).toInt (mf 5)) (x_tb : TBL (FR (mi 6).toInt (mf 5)) (mf 9) ((2 ^ z_h.toInt.toNat + z_rest.toInt.toNat : Nat) : Int)) (x_rl : z_rest.toInt.toNat < 2 ^ z_h.toInt.toNat) : Met l yX1_mostPairs (Cond.code yX1_mostPairs cX1_mostPairs 6 (some .int) :: GW) ({ frames := 2, cells := 0, slots := 0, locals := 61 } : Room) (va_Pc [.ref (mr 0), .int z_h, .int z_rest] (PW D cI cJ sz (WZ_Houses1 cI cJ mr mi mf mg) xT)) (va_Qi (fun (r : Int32) (u : Unit) => (MXI (FR (mi 6).toInt (mf 5)) (2 ^ z_h.toInt.toNat + z_rest.toInt.toNat) (r : Int32).toInt)) (fun u => QW D cI cJ (va_A (WZ_Houses1 cI cJ mr mi mf mg) sz) ((fun (u : Unit) => (WZ_Houses1 cI cJ mr mi mf mg)) u)) (va_A (WZ_Houses1 cI cJ mr mi mf mg) sz)) 0 0 (va_A (WZ_Houses1 cI cJ mr mi mf mg) sz) := by
  refine mk_met (y := yX1_mostPairs) (bytes := cX1_mostPairs) (maxL := 6) (avs := [.ref (mr 0), .int z_h, .int z_rest]) (WS := (WZ_Houses1 cI cJ mr mi mf mg)) (Qf := fun A => va_Qi (fun (r : Int32) (u : Unit) => (MXI (FR (mi 6).toInt (mf 5)) (2 ^ z_h.toInt.toNat + z_rest.toInt.toNat) (r : Int32).toInt)) (fun u => QW D cI cJ A ((fun (u : Unit) => (WZ_Houses1 cI cJ mr mi mf mg)) u)) A) (by decide) (Nat.le_of_ble_eq_true rfl) ?_
  intro p e s m below meth c A ls E hr hlk hnm hX hw1 hl2
  have hl3 : lv_has ls 6 [(0, .ref (mr 0)), (1, .int z_h), (2, .int z_rest)] := hl2
  refine lv_aload_n (pc := 0) E.1 E.2.1 dX1_mostPairs_0 rfl (lv_at hl3 0 rfl) ?_
  refine lv_iload_n (pc := 1) E.1 E.2.1 dX1_mostPairs_1 rfl (lv_at hl3 2 rfl) ?_
  refine ck_i (pc := 2) (ws' := (fun (u : Unit) => (WZ_Houses1 cI cJ mr mi mf mg))) [true, true, true, true, true, true, true, true, true] hw1 rfl (fun hC_ => (rn_V (As := [.int z_rest]) (rest := []) E hw1 (t_pairsInK l D cI cJ _ mr mi mf mg z_rest) (gdV q_1276 q_1278 q_42 q_154 q_1279) hdV_X1_pairsIn ⟨rfl, rfl⟩ ⟨(Nat.le_of_ble_eq_true rfl), (Nat.le_of_ble_eq_true rfl)⟩ ⟨(Nat.le_of_ble_eq_true rfl), (Nat.le_of_ble_eq_true rfl)⟩ xT_b xT_at 0 1 rfl rfl rfl _ hC_ (nd_T _ 0) rfl hl3.1 rfl (Nat.le_of_ble_eq_true rfl) dX1_mostPairs_2)) rfl (fun _ => rfl) (fun _ => rfl) (fun r_5 u_4 H1 locs hp hw6 => ?_)
  generalize H1 = H at hw6 ⊢
  have hw7 : WD D A s.heap (WZ_Houses1 cI cJ mr mi mf mg) H locs := hw6
  have hp_8 := hp
  have hp_8 : (r_5 : Int32).toInt = PINf (mf 9) z_rest.toInt := hp_8
  have hq_9 := mp_m0 x_tb (by omega) x_rl (by omega) hp_8
  have hq_9b := MX_bd (by omega) hq_9
  refine lv_istore_n (pc := 5) (lv' := [(3, .int r_5), (0, .ref (mr 0)), (1, .int z_h), (2, .int z_rest)]) E.1 E.2.1 dX1_mostPairs_5 rfl hl3 (by decide) rfl (fun ls hl10 => ?_)
  refine lv_iload_n (pc := 6) E.1 E.2.1 dX1_mostPairs_6 rfl (lv_at hl10 3 rfl) ?_
  refine lv_aload_n (pc := 7) E.1 E.2.1 dX1_mostPairs_7 rfl (lv_at hl10 1 rfl) ?_
  refine x_get (pc := 8) (T := TX1) (N := 9) (ci := 1) (v := .ref (mr 5)) E hw7 inX1 0 4 q_277 rfl rfl (by decide) rfl rfl dX1_mostPairs_8 ?_
  refine lv_iload_n (pc := 11) E.1 E.2.1 dX1_mostPairs_11 rfl (lv_at hl10 2 rfl) ?_
  refine x_iald (pc := 12) (f := (mf 5)) E hw7 5 rfl (inbE (a := z_h.toInt) rfl (by omega)) dX1_mostPairs_12 ?_
  refine lv_topi (fun v_11 ev_11 => ?_)
  refine lv_iand (pc := 13) E.1 E.2.1 dX1_mostPairs_13 ?_
  refine lv_topi (fun v_12 ev_12 => ?_)
  have hb1v_12 : 0 ≤ v_12.toInt ∧ v_12.toInt ≤ z_rest.toInt := by rw [ev_12]; exact and10 (by omega)
  refine lv_istore (pc := 14) (lv' := [(4, .int v_12), (3, .int r_5), (0, .ref (mr 0)), (1, .int z_h), (2, .int z_rest)]) E.1 E.2.1 dX1_mostPairs_14 hl10 (by decide) rfl (fun ls hl13 => ?_)
  refine lv_iconst (pc := 16) (v := 0) E.1 E.2.1 dX1_mostPairs_16 (by decide +kernel) ?_
  refine lv_istore (pc := 17) (lv' := [(5, .int 0), (4, .int v_12), (3, .int r_5), (0, .ref (mr 0)), (1, .int z_h), (2, .int z_rest)]) E.1 E.2.1 dX1_mostPairs_17 hl13 (by decide) rfl (fun ls hl14 => ?_)
  have loop_15 : ∀ (k : Nat) (x_16 : Int32) (x_17 : Int32) (H : Heap) (locs : List Loc) (ls : Array Slot), (0 ≤ x_16.toInt) ∧ (x_16.toInt ≤ z_h.toInt) ∧ (0 ≤ x_17.toInt) ∧ (x_17.toInt ≤ 1024) ∧ (ML (FR (mi 6).toInt (mf 5)) (2 ^ z_h.toInt.toNat + z_rest.toInt.toNat) z_h.toInt.toNat x_16.toInt x_17.toInt) → z_h.toInt - x_16.toInt < (k : Int) → WD D A s.heap (WZ_Houses1 cI cJ mr mi mf mg) H locs → lv_has ls 6 [(5, .int x_16), (4, .int v_12), (3, .int x_17), (0, .ref (mr 0)), (1, .int z_h), (2, .int z_rest)] → W p l e ({ frames := 2, cells := 0, slots := 0, locals := 61 } : Room) s m ([.ref (mr 0), .int z_h, .int z_rest] : List Value).toArray below meth c H locs 0 0 (MQ below (va_Qi (fun (r : Int32) (u : Unit) => (MXI (FR (mi 6).toInt (mf 5)) (2 ^ z_h.toInt.toNat + z_rest.toInt.toNat) (r : Int32).toInt)) (fun u => QW D cI cJ A ((fun (u : Unit) => (WZ_Houses1 cI cJ mr mi mf mg)) u)) A) ([.ref (mr 0), .int z_h, .int z_rest] : List Value).toArray s 0 0 A) (F0 m 19 ls []) := by
    intro k
    induction k with
    | zero =>
      intro x_16 x_17 _ _ _ hinv hm
      obtain ⟨hi_17_0, hi_17_1, hi_17_2, hi_17_3, hi_17_4⟩ := hinv
      exact absurd hm (by omega)
    | succ k ih_18 =>
      intro x_16 x_17 H locs ls hinv hm hw19 hl20
      obtain ⟨hi_17_0, hi_17_1, hi_17_2, hi_17_3, hi_17_4⟩ := hinv
      refine lv_iload (pc := 19) E.1 E.2.1 dX1_mostPairs_19 (lv_at hl20 0 rfl) ?_
      refine lv_iload_n (pc := 21) E.1 E.2.1 dX1_mostPairs_21 rfl (lv_at hl20 4 rfl) ?_
      refine lv_icmp_ge (pc := 22) (tgt := 61) E.1 E.2.1 dX1_mostPairs_22 (by decide) (fun c_21 => ?_) (fun c_21 => ?_)
      · skip
        have hc_21 := leE (a := z_h.toInt) (b := x_16.toInt) rfl rfl c_21
        refine lv_iload_n (pc := 61) E.1 E.2.1 dX1_mostPairs_61 rfl (lv_at hl20 2 rfl) ?_
        exact em_i (w1 := (fun (u : Unit) => (WZ_Houses1 cI cJ mr mi mf mg))) E hr hlk () hw19 (show MXI (FR (mi 6).toInt (mf 5)) (2 ^ z_h.toInt.toNat + z_rest.toInt.toNat) (x_17 : Int32).toInt from (mp_e x_wf hi_17_4 ⟨by omega, by omega⟩ (by omega) x_rl (by omega))) (Nat.le_of_ble_eq_true rfl) (Nat.le_of_ble_eq_true rfl) dX1_mostPairs_62
      · skip
        have hc_21 := nleE (a := z_h.toInt) (b := x_16.toInt) rfl rfl c_21
        refine lv_iload (pc := 25) E.1 E.2.1 dX1_mostPairs_25 (lv_at hl20 1 rfl) ?_
        refine lv_iload (pc := 27) E.1 E.2.1 dX1_mostPairs_27 (lv_at hl20 0 rfl) ?_
        refine lv_ishr (pc := 29) E.1 E.2.1 dX1_mostPairs_29 ?_
        refine lv_topi (fun v_22 ev_22 => ?_)
        refine lv_iconst (pc := 30) (v := 1) E.1 E.2.1 dX1_mostPairs_30 (by decide +kernel) ?_
        refine lv_iand (pc := 31) E.1 E.2.1 dX1_mostPairs_31 ?_
        refine lv_topi (fun v_23 ev_23 => ?_)
        refine lv_iconst (pc := 32) (v := 1) E.1 E.2.1 dX1_mostPairs_32 (by decide +kernel) ?_
        refine lv_icmp_ne (pc := 33) (tgt := 55) E.1 E.2.1 dX1_mostPairs_33 (by decide) (fun c_24 => ?_) (fun c_24 => ?_)
        · skip
          have hc_24 := neE (a := v_23.toInt) (b := 1) rfl (by decide +kernel) c_24
          obtain ⟨v_25, ev_25⟩ : ∃ z : Int32, x_16 + Int32.ofInt (1) = z := ⟨_, rfl⟩
          have hv_25 : v_25.toInt = x_16.toInt + (1) := by rw [← ev_25]; exact incE rfl (by decide) (by omega)
          refine lv_iinc (pc := 55) (v := v_25) (lv' := [(5, .int v_25), (4, .int v_12), (3, .int x_17), (0, .ref (mr 0)), (1, .int z_h), (2, .int z_rest)]) E.1 E.2.1 dX1_mostPairs_55 hl20 (k := 0) rfl ev_25 (by decide) rfl (fun ls hl26 => ?_)
          refine lv_goto (pc := 58) (tgt := 19) E.1 E.2.1 dX1_mostPairs_58 (by decide) ?_
          exact ih_18 v_25 x_17 _ _ _ ⟨(by show 0 ≤ v_25.toInt; omega), (by show v_25.toInt ≤ z_h.toInt; omega), hi_17_2, hi_17_3, (mp_noI hi_17_4 x_wf ev_11 ev_12 ev_22 ev_23 (by omega) ⟨by omega, by omega⟩ (by omega) (by omega) (by omega) x_rl ⟨by omega, by omega⟩ (by omega))⟩ (by omega) hw19 (lv_sub hl26 [0, 1, 2, 3, 4, 5] rfl)
        · skip
          have hc_24 := eqE (a := v_23.toInt) (b := 1) rfl (by decide +kernel) c_24
          refine lv_iload_n (pc := 36) E.1 E.2.1 dX1_mostPairs_36 rfl (lv_at hl20 2 rfl) ?_
          refine lv_aload_n (pc := 37) E.1 E.2.1 dX1_mostPairs_37 rfl (lv_at hl20 3 rfl) ?_
          refine lv_iload_n (pc := 38) E.1 E.2.1 dX1_mostPairs_38 rfl (lv_at hl20 5 rfl) ?_
          refine lv_iconst (pc := 39) (v := 1) E.1 E.2.1 dX1_mostPairs_39 (by decide +kernel) ?_
          refine lv_iload (pc := 40) E.1 E.2.1 dX1_mostPairs_40 (lv_at hl20 0 rfl) ?_
          refine lv_ishl (pc := 42) E.1 E.2.1 dX1_mostPairs_42 ?_
          refine lv_topi (fun v_27 ev_27 => ?_)
          have hb1v_27 : 1 ≤ v_27.toInt ∧ v_27.toInt ≤ 512 := by rw [ev_27]; exact shl9 (by omega)
          refine lv_iconst (pc := 43) (v := (-1)) E.1 E.2.1 dX1_mostPairs_43 (by decide +kernel) ?_
          refine lv_ixor (pc := 44) E.1 E.2.1 dX1_mostPairs_44 ?_
          refine lv_topi (fun v_28 ev_28 => ?_)
          refine lv_iand (pc := 45) E.1 E.2.1 dX1_mostPairs_45 ?_
          refine lv_topi (fun v_29 ev_29 => ?_)
          have hb1v_29 : 0 ≤ v_29.toInt ∧ v_29.toInt ≤ z_rest.toInt := by rw [ev_29]; exact and10 (by omega)
          refine ck_i (pc := 46) (ws' := (fun (u : Unit) => (WZ_Houses1 cI cJ mr mi mf mg))) [true, true, true, true, true, true, true, true, true] hw19 rfl (fun hC_ => (rn_V (As := [.int v_29]) (rest := [.int x_17]) E hw19 (t_pairsInK l D cI cJ _ mr mi mf mg v_29) (gdV q_1276 q_1278 q_42 q_154 q_1279) hdV_X1_pairsIn ⟨rfl, rfl⟩ ⟨(Nat.le_of_ble_eq_true rfl), (Nat.le_of_ble_eq_true rfl)⟩ ⟨(Nat.le_of_ble_eq_true rfl), (Nat.le_of_ble_eq_true rfl)⟩ xT_b xT_at 0 1 rfl rfl rfl _ hC_ (nd_T _ 0) rfl hl20.1 rfl (Nat.le_of_ble_eq_true rfl) dX1_mostPairs_46)) rfl (fun _ => rfl) (fun _ => rfl) (fun r_31 u_30 H1 locs hp hw32 => ?_)
          generalize H1 = H at hw32 ⊢
          have hw33 : WD D A s.heap (WZ_Houses1 cI cJ mr mi mf mg) H locs := hw32
          have hp_34 := hp
          have hp_34 : (r_31 : Int32).toInt = PINf (mf 9) v_29.toInt := hp_34
          have hq_35 := mp_cI x_tb ev_27 ev_28 ev_29 hp_34 (by omega) (by omega) x_rl ⟨by omega, by omega⟩
          have hq_35b := hq_35.2
          refine lv_iconst (pc := 49) (v := 1) E.1 E.2.1 dX1_mostPairs_49 (by decide +kernel) ?_
          refine lv_iadd (pc := 50) E.1 E.2.1 dX1_mostPairs_50 ?_
          refine lv_topi (fun v_36 ev_36 => ?_)
          have hv_36 : v_36.toInt = r_31.toInt + 1 := by rw [ev_36]; exact addE rfl (by decide +kernel) (by omega)
          refine x_max (pc := 51) E hl20.1 q_1259 q_805 q_167 q_806 (Nat.le_of_ble_eq_true rfl) (Nat.le_of_ble_eq_true rfl) (Nat.le_of_ble_eq_true rfl) (Nat.le_of_ble_eq_true rfl) dX1_mostPairs_51 (fun v_37 hv_37 => ?_)
          have hv_37a : x_17.toInt ≤ v_37.toInt ∧ v_36.toInt ≤ v_37.toInt := by omega
          have hv_37b : v_37.toInt ≤ 1024 := by omega
          refine lv_istore_n (pc := 54) (lv' := [(3, .int v_37), (5, .int x_16), (4, .int v_12), (0, .ref (mr 0)), (1, .int z_h), (2, .int z_rest)]) E.1 E.2.1 dX1_mostPairs_54 rfl hl20 (by decide) rfl (fun ls hl38 => ?_)
          obtain ⟨v_39, ev_39⟩ : ∃ z : Int32, x_16 + Int32.ofInt (1) = z := ⟨_, rfl⟩
          have hv_39 : v_39.toInt = x_16.toInt + (1) := by rw [← ev_39]; exact incE rfl (by decide) (by omega)
          refine lv_iinc (pc := 55) (v := v_39) (lv' := [(5, .int v_39), (3, .int v_37), (4, .int v_12), (0, .ref (mr 0)), (1, .int z_h), (2, .int z_rest)]) E.1 E.2.1 dX1_mostPairs_55 hl38 (k := 1) rfl ev_39 (by decide) rfl (fun ls hl40 => ?_)
          refine lv_goto (pc := 58) (tgt := 19) E.1 E.2.1 dX1_mostPairs_58 (by decide) ?_
          exact ih_18 v_39 v_37 _ _ _ ⟨(by show 0 ≤ v_39.toInt; omega), (by show v_39.toInt ≤ z_h.toInt; omega), (by show 0 ≤ v_37.toInt; omega), (by show v_37.toInt ≤ 1024; omega), (mp_yesI hi_17_4 x_wf ev_11 ev_12 ev_22 ev_23 (by omega) hq_35.1 (by omega) ⟨by omega, by omega⟩ (by omega) (by omega) (by omega) x_rl ⟨by omega, by omega⟩ (by omega))⟩ (by omega) hw33 (lv_sub hl40 [0, 2, 1, 3, 4, 5] rfl)
  exact loop_15 (Int.toNat (z_h.toInt - 0) + 1) 0 r_5 _ _ _ ⟨(by show 0 ≤ (0 : Int32).toInt; have k_0 : (0 : Int32).toInt = 0 := (by decide +kernel); omega), (by show (0 : Int32).toInt ≤ z_h.toInt; have k_0 : (0 : Int32).toInt = 0 := (by decide +kernel); omega), (by show 0 ≤ r_5.toInt; omega), (by show r_5.toInt ≤ 1024; omega), (mp_i hq_9 (by omega) x_rl (by decide +kernel))⟩ (by have k_0 : (0 : Int32).toInt = 0 := (by decide +kernel); omega) hw7 (lv_sub hl14 [0, 1, 2, 3, 4, 5] rfl)
