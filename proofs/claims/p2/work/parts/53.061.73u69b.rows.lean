set_option maxHeartbeats 4000000 in
set_option maxRecDepth 100000 in
theorem t_isFreeK (l : Launch) (D : va_G) (cI cJ : ClassId) (sz : Nat) (mr : Nat → Nat) (mi : Nat → Int32) (mf : Nat → Nat → Int32) (mg : Nat → Nat → Int64) (z_where : Int32) (mv : Nat → Value) (h0 : 0 ≤ (mi 6).toInt ∧ (mi 6).toInt ≤ 10) : Met l yX1_isFree (Cond.code yX1_isFree cX1_isFree 3 (some .boolean) :: GW) ({ frames := 1, cells := 0, slots := 0, locals := 40 } : Room) (va_Pc [.ref (mr 0), .int z_where] (PW D cI cJ sz (WZ_HousesO cI cJ mv mr mi mf mg) xT)) (va_Qi (fun (r : Int32) (u : Unit) => (0 ≤ r.toInt) ∧ (r.toInt ≤ 1) ∧ (((r : Int32) = 1 ↔ FREE (mi 6).toInt (mf 1) (z_where : Int32).toInt))) (fun u => QW D cI cJ (va_A (WZ_HousesO cI cJ mv mr mi mf mg) sz) ((fun (u : Unit) => (WZ_HousesO cI cJ mv mr mi mf mg)) u)) (va_A (WZ_HousesO cI cJ mv mr mi mf mg) sz)) 0 0 (va_A (WZ_HousesO cI cJ mv mr mi mf mg) sz) := by
  refine mk_met (y := yX1_isFree) (bytes := cX1_isFree) (maxL := 3) (avs := [.ref (mr 0), .int z_where]) (WS := (WZ_HousesO cI cJ mv mr mi mf mg)) (Qf := fun A => va_Qi (fun (r : Int32) (u : Unit) => (0 ≤ r.toInt) ∧ (r.toInt ≤ 1) ∧ (((r : Int32) = 1 ↔ FREE (mi 6).toInt (mf 1) (z_where : Int32).toInt))) (fun u => QW D cI cJ A ((fun (u : Unit) => (WZ_HousesO cI cJ mv mr mi mf mg)) u)) A) (by decide) (Nat.le_of_ble_eq_true rfl) ?_
  intro p e s m below meth c A ls E hr hlk hnm hX hw1 hl2
  have hl3 : lv_has ls 3 [(0, .ref (mr 0)), (1, .int z_where)] := hl2
  refine lv_iload_n (pc := 0) E.1 E.2.1 dX1_isFree_0 rfl (lv_at hl3 1 rfl) ?_
  refine lv_if_lt (pc := 1) (tgt := 10) E.1 E.2.1 dX1_isFree_1 (by decide) (fun c_4 => ?_) (fun c_4 => ?_)
  · skip
    have hc_4 := ltE (a := z_where.toInt) (b := 0) rfl (by decide +kernel) c_4
    refine lv_iconst (pc := 10) (v := 0) E.1 E.2.1 dX1_isFree_10 (by decide +kernel) ?_
    exact em_z (w1 := (fun (u : Unit) => (WZ_HousesO cI cJ mv mr mi mf mg))) E hr hlk () hw1 ⟨(by show 0 ≤ (0 : Int32).toInt; have k_0 : (0 : Int32).toInt = 0 := (by decide +kernel); omega), (by show (0 : Int32).toInt ≤ 1; have k_0 : (0 : Int32).toInt = 0 := (by decide +kernel); omega), (show ((0 : Int32) = 1 ↔ FREE (mi 6).toInt (mf 1) (z_where : Int32).toInt) from ⟨fun h => absurd h (by decide +kernel), fun h => absurd h.1 (by have h2 := h.2.1; omega)⟩)⟩ (by decide +kernel) (Nat.le_of_ble_eq_true rfl) (Nat.le_of_ble_eq_true rfl) dX1_isFree_11
  · skip
    have hc_4 := nltE (a := z_where.toInt) (b := 0) rfl (by decide +kernel) c_4
    refine lv_iload_n (pc := 4) E.1 E.2.1 dX1_isFree_4 rfl (lv_at hl3 1 rfl) ?_
    refine lv_bipush (pc := 5) (v := 63) E.1 E.2.1 dX1_isFree_5 (by decide +kernel) ?_
    refine lv_icmp_le (pc := 7) (tgt := 12) E.1 E.2.1 dX1_isFree_7 (by decide) (fun c_5 => ?_) (fun c_5 => ?_)
    · skip
      have hc_5 := leE (a := z_where.toInt) (b := 63) rfl (by decide +kernel) c_5
      refine lv_iconst (pc := 12) (v := 0) E.1 E.2.1 dX1_isFree_12 (by decide +kernel) ?_
      refine lv_istore_n (pc := 13) (lv' := [(2, .int 0), (0, .ref (mr 0)), (1, .int z_where)]) E.1 E.2.1 dX1_isFree_13 rfl hl3 (by decide) rfl (fun ls hl6 => ?_)
      have loop_7 : ∀ (k : Nat) (x_8 : Int32) (H : Heap) (locs : List Loc) (ls : Array Slot), (0 ≤ x_8.toInt) ∧ (x_8.toInt ≤ (mi 6).toInt) ∧ (∀ j : Nat, (j : Int) < x_8.toInt → ((mf 1) j).toInt ≠ z_where.toInt) → (mi 6).toInt - x_8.toInt < (k : Int) → WD D A s.heap (WZ_HousesO cI cJ mv mr mi mf mg) H locs → lv_has ls 3 [(2, .int x_8), (0, .ref (mr 0)), (1, .int z_where)] → W p l e ({ frames := 1, cells := 0, slots := 0, locals := 40 } : Room) s m ([.ref (mr 0), .int z_where] : List Value).toArray below meth c H locs 0 0 (MQ below (va_Qi (fun (r : Int32) (u : Unit) => (0 ≤ r.toInt) ∧ (r.toInt ≤ 1) ∧ (((r : Int32) = 1 ↔ FREE (mi 6).toInt (mf 1) (z_where : Int32).toInt))) (fun u => QW D cI cJ A ((fun (u : Unit) => (WZ_HousesO cI cJ mv mr mi mf mg)) u)) A) ([.ref (mr 0), .int z_where] : List Value).toArray s 0 0 A) (F0 m 14 ls []) := by
        intro k
        induction k with
        | zero =>
          intro x_8 _ _ _ hinv hm
          obtain ⟨hi_8_0, hi_8_1, hi_8_2⟩ := hinv
          exact absurd hm (by omega)
        | succ k ih_9 =>
          intro x_8 H locs ls hinv hm hw10 hl11
          obtain ⟨hi_8_0, hi_8_1, hi_8_2⟩ := hinv
          refine lv_iload_n (pc := 14) E.1 E.2.1 dX1_isFree_14 rfl (lv_at hl11 0 rfl) ?_
          refine lv_aload_n (pc := 15) E.1 E.2.1 dX1_isFree_15 rfl (lv_at hl11 1 rfl) ?_
          refine x_get (pc := 16) (T := TX1) (N := 9) (ci := 1) (v := .int (mi 6)) E hw10 inX1 0 5 q_281 rfl rfl (by decide) rfl rfl dX1_isFree_16 ?_
          refine lv_icmp_ge (pc := 19) (tgt := 40) E.1 E.2.1 dX1_isFree_19 (by decide) (fun c_12 => ?_) (fun c_12 => ?_)
          · skip
            have hc_12 := leE (a := (mi 6).toInt) (b := x_8.toInt) rfl rfl c_12
            refine lv_iconst (pc := 40) (v := 1) E.1 E.2.1 dX1_isFree_40 (by decide +kernel) ?_
            exact em_z (w1 := (fun (u : Unit) => (WZ_HousesO cI cJ mv mr mi mf mg))) E hr hlk () hw10 ⟨(by show 0 ≤ (1 : Int32).toInt; have k_0 : (1 : Int32).toInt = 1 := (by decide +kernel); omega), (by show (1 : Int32).toInt ≤ 1; have k_0 : (1 : Int32).toInt = 1 := (by decide +kernel); omega), (show ((1 : Int32) = 1 ↔ FREE (mi 6).toInt (mf 1) (z_where : Int32).toInt) from ⟨fun _ => ⟨by omega, by omega, fun j hj => hi_8_2 j (by omega)⟩, fun _ => rfl⟩)⟩ (by decide +kernel) (Nat.le_of_ble_eq_true rfl) (Nat.le_of_ble_eq_true rfl) dX1_isFree_41
          · skip
            have hc_12 := nleE (a := (mi 6).toInt) (b := x_8.toInt) rfl rfl c_12
            refine lv_aload_n (pc := 22) E.1 E.2.1 dX1_isFree_22 rfl (lv_at hl11 1 rfl) ?_
            refine x_get (pc := 23) (T := TX1) (N := 9) (ci := 1) (v := .ref (mr 1)) E hw10 inX1 0 0 q_266 rfl rfl (by decide) rfl rfl dX1_isFree_23 ?_
            refine lv_iload_n (pc := 26) E.1 E.2.1 dX1_isFree_26 rfl (lv_at hl11 0 rfl) ?_
            refine x_iald (pc := 27) (f := (mf 1)) E hw10 1 rfl (inbE (a := x_8.toInt) rfl (by omega)) dX1_isFree_27 ?_
            refine lv_topi (fun v_13 ev_13 => ?_)
            refine lv_iload_n (pc := 28) E.1 E.2.1 dX1_isFree_28 rfl (lv_at hl11 2 rfl) ?_
            refine lv_icmp_ne (pc := 29) (tgt := 34) E.1 E.2.1 dX1_isFree_29 (by decide) (fun c_14 => ?_) (fun c_14 => ?_)
            · skip
              have hc_14 := neE (a := v_13.toInt) (b := z_where.toInt) rfl rfl c_14
              obtain ⟨v_15, ev_15⟩ : ∃ z : Int32, x_8 + Int32.ofInt (1) = z := ⟨_, rfl⟩
              have hv_15 : v_15.toInt = x_8.toInt + (1) := by rw [← ev_15]; exact incE rfl (by decide) (by omega)
              refine lv_iinc (pc := 34) (v := v_15) (lv' := [(2, .int v_15), (0, .ref (mr 0)), (1, .int z_where)]) E.1 E.2.1 dX1_isFree_34 hl11 (k := 0) rfl ev_15 (by decide) rfl (fun ls hl16 => ?_)
              refine lv_goto (pc := 37) (tgt := 14) E.1 E.2.1 dX1_isFree_37 (by decide) ?_
              exact ih_9 v_15 _ _ _ ⟨(by show 0 ≤ v_15.toInt; omega), (by show v_15.toInt ≤ (mi 6).toInt; omega), (free_step hi_8_2 ev_13 (by omega) rfl (by omega) (m := v_15.toInt) (by omega))⟩ (by omega) hw10 (lv_sub hl16 [0, 1, 2] rfl)
            · skip
              have hc_14 := eqE (a := v_13.toInt) (b := z_where.toInt) rfl rfl c_14
              refine lv_iconst (pc := 32) (v := 0) E.1 E.2.1 dX1_isFree_32 (by decide +kernel) ?_
              exact em_z (w1 := (fun (u : Unit) => (WZ_HousesO cI cJ mv mr mi mf mg))) E hr hlk () hw10 ⟨(by show 0 ≤ (0 : Int32).toInt; have k_0 : (0 : Int32).toInt = 0 := (by decide +kernel); omega), (by show (0 : Int32).toInt ≤ 1; have k_0 : (0 : Int32).toInt = 0 := (by decide +kernel); omega), (show ((0 : Int32) = 1 ↔ FREE (mi 6).toInt (mf 1) (z_where : Int32).toInt) from ⟨fun h => absurd h (by decide +kernel), fun h => (free_hit h ev_13 (by omega) (by omega) (by omega)).elim⟩)⟩ (by decide +kernel) (Nat.le_of_ble_eq_true rfl) (Nat.le_of_ble_eq_true rfl) dX1_isFree_33
      exact loop_7 (Int.toNat ((mi 6).toInt - 0) + 1) 0 _ _ _ ⟨(by show 0 ≤ (0 : Int32).toInt; have k_0 : (0 : Int32).toInt = 0 := (by decide +kernel); omega), (by show (0 : Int32).toInt ≤ (mi 6).toInt; have k_0 : (0 : Int32).toInt = 0 := (by decide +kernel); omega), (fun j hj => absurd hj (by have k0 : (0 : Int32).toInt = 0 := (by decide +kernel); omega))⟩ (by have k_0 : (0 : Int32).toInt = 0 := (by decide +kernel); omega) hw1 (lv_sub hl6 [0, 1, 2] rfl)
    · skip
      have hc_5 := nleE (a := z_where.toInt) (b := 63) rfl (by decide +kernel) c_5
      refine lv_iconst (pc := 10) (v := 0) E.1 E.2.1 dX1_isFree_10 (by decide +kernel) ?_
      exact em_z (w1 := (fun (u : Unit) => (WZ_HousesO cI cJ mv mr mi mf mg))) E hr hlk () hw1 ⟨(by show 0 ≤ (0 : Int32).toInt; have k_0 : (0 : Int32).toInt = 0 := (by decide +kernel); omega), (by show (0 : Int32).toInt ≤ 1; have k_0 : (0 : Int32).toInt = 0 := (by decide +kernel); omega), (show ((0 : Int32) = 1 ↔ FREE (mi 6).toInt (mf 1) (z_where : Int32).toInt) from ⟨fun h => absurd h (by decide +kernel), fun h => absurd h.1 (by have h2 := h.2.1; omega)⟩)⟩ (by decide +kernel) (Nat.le_of_ble_eq_true rfl) (Nat.le_of_ble_eq_true rfl) dX1_isFree_11
set_option maxHeartbeats 4000000 in
set_option maxRecDepth 100000 in
theorem t_allK (l : Launch) (D : va_G) (cI cJ : ClassId) (sz : Nat) (mr : Nat → Nat) (mi : Nat → Int32) (mf : Nat → Nat → Int32) (mg : Nat → Nat → Int64)  (mv : Nat → Value) (h0 : 0 ≤ (mi 6).toInt ∧ (mi 6).toInt ≤ 10) : Met l yX1_all (Cond.code yX1_all cX1_all 1 (some .int) :: GW) ({ frames := 1, cells := 0, slots := 0, locals := 40 } : Room) (va_Pc [.ref (mr 0)] (PW D cI cJ sz (WZ_HousesO cI cJ mv mr mi mf mg) xT)) (va_Qi (fun (r : Int32) (u : Unit) => (0 ≤ r.toInt) ∧ (r.toInt ≤ 1023) ∧ ((r : Int32).toInt = sh1 (mi 6) - 1)) (fun u => QW D cI cJ (va_A (WZ_HousesO cI cJ mv mr mi mf mg) sz) ((fun (u : Unit) => (WZ_HousesO cI cJ mv mr mi mf mg)) u)) (va_A (WZ_HousesO cI cJ mv mr mi mf mg) sz)) 0 0 (va_A (WZ_HousesO cI cJ mv mr mi mf mg) sz) := by
  refine mk_met (y := yX1_all) (bytes := cX1_all) (maxL := 1) (avs := [.ref (mr 0)]) (WS := (WZ_HousesO cI cJ mv mr mi mf mg)) (Qf := fun A => va_Qi (fun (r : Int32) (u : Unit) => (0 ≤ r.toInt) ∧ (r.toInt ≤ 1023) ∧ ((r : Int32).toInt = sh1 (mi 6) - 1)) (fun u => QW D cI cJ A ((fun (u : Unit) => (WZ_HousesO cI cJ mv mr mi mf mg)) u)) A) (by decide) (Nat.le_of_ble_eq_true rfl) ?_
  intro p e s m below meth c A ls E hr hlk hnm hX hw1 hl2
  have hl3 : lv_has ls 1 [(0, .ref (mr 0))] := hl2
  refine lv_iconst (pc := 0) (v := 1) E.1 E.2.1 dX1_all_0 (by decide +kernel) ?_
  refine lv_aload_n (pc := 1) E.1 E.2.1 dX1_all_1 rfl (lv_at hl3 0 rfl) ?_
  refine x_get (pc := 2) (T := TX1) (N := 9) (ci := 1) (v := .int (mi 6)) E hw1 inX1 0 5 q_281 rfl rfl (by decide) rfl rfl dX1_all_2 ?_
  refine lv_ishl (pc := 5) E.1 E.2.1 dX1_all_5 ?_
  refine lv_topi (fun v_4 ev_4 => ?_)
  have hb1v_4 : 1 ≤ v_4.toInt ∧ v_4.toInt ≤ 1024 := by rw [ev_4]; exact shl10 (by omega)
  refine lv_iconst (pc := 6) (v := 1) E.1 E.2.1 dX1_all_6 (by decide +kernel) ?_
  refine lv_isub (pc := 7) E.1 E.2.1 dX1_all_7 ?_
  refine lv_topi (fun v_5 ev_5 => ?_)
  have hv_5 : v_5.toInt = v_4.toInt - 1 := by rw [ev_5]; exact subE rfl (by decide +kernel) (by omega)
  exact em_i (w1 := (fun (u : Unit) => (WZ_HousesO cI cJ mv mr mi mf mg))) E hr hlk () hw1 ⟨(by show 0 ≤ v_5.toInt; omega), (by show v_5.toInt ≤ 1023; omega), (show (v_5 : Int32).toInt = sh1 (mi 6) - 1 from (by have q := all_sh ev_4; omega))⟩ (Nat.le_of_ble_eq_true rfl) (Nat.le_of_ble_eq_true rfl) dX1_all_8
set_option maxHeartbeats 4000000 in
set_option maxRecDepth 100000 in
theorem t_forgetPlanN (l : Launch) (D : va_G) (cI cJ : ClassId) (sz : Nat) (mr : Nat → Nat) (mi : Nat → Int32) (mf : Nat → Nat → Int32) (mg : Nat → Nat → Int64)  (mv : Nat → Value)  : Met l yX11_forgetPlan (Cond.code yX11_forgetPlan cX11_forgetPlan 1 none :: GW) ({ frames := 1, cells := 0, slots := 0, locals := 40 } : Room) (va_Pc [.ref (mr 0)] (PW D cI cJ sz (WZ_LfN cI cJ mv mr mi mf mg) xT)) (va_Qv (fun (u : Unit) => True) (fun u => QW D cI cJ (va_A (WZ_LfN cI cJ mv mr mi mf mg) sz) ((fun (u : Unit) => (WZ_LfN cI cJ mv mr mi mf mg)) u)) (va_A (WZ_LfN cI cJ mv mr mi mf mg) sz)) 0 0 (va_A (WZ_LfN cI cJ mv mr mi mf mg) sz) := by
  refine mk_met (y := yX11_forgetPlan) (bytes := cX11_forgetPlan) (maxL := 1) (avs := [.ref (mr 0)]) (WS := (WZ_LfN cI cJ mv mr mi mf mg)) (Qf := fun A => va_Qv (fun (u : Unit) => True) (fun u => QW D cI cJ A ((fun (u : Unit) => (WZ_LfN cI cJ mv mr mi mf mg)) u)) A) (by decide) (Nat.le_of_ble_eq_true rfl) ?_
  intro p e s m below meth c A ls E hr hlk hnm hX hw1 hl2
  have hl3 : lv_has ls 1 [(0, .ref (mr 0))] := hl2
  refine lv_aload_n (pc := 0) E.1 E.2.1 dX11_forgetPlan_0 rfl (lv_at hl3 0 rfl) ?_
  refine x_get (pc := 1) (T := TX11) (N := 13) (ci := 11) (v := .null) E hw1 inX11 0 11 q_617 rfl rfl (by decide) rfl rfl dX11_forgetPlan_1 ?_
  refine lv_ifnullN (pc := 4) (tgt := 15) E.1 E.2.1 dX11_forgetPlan_4 (by decide) ?_
  exact em_v (w1 := (fun (u : Unit) => (WZ_LfN cI cJ mv mr mi mf mg))) E hr hlk () hw1 trivial (Nat.le_of_ble_eq_true rfl) (Nat.le_of_ble_eq_true rfl) dX11_forgetPlan_15
set_option maxHeartbeats 4000000 in
set_option maxRecDepth 100000 in
theorem t_forgetNightsN (l : Launch) (D : va_G) (cI cJ : ClassId) (sz : Nat) (mr : Nat → Nat) (mi : Nat → Int32) (mf : Nat → Nat → Int32) (mg : Nat → Nat → Int64)  (mv : Nat → Value)  : Met l yX11_forgetNights (Cond.code yX11_forgetNights cX11_forgetNights 1 none :: GW) ({ frames := 2, cells := 0, slots := 0, locals := 60 } : Room) (va_Pc [.ref (mr 0)] (PW D cI cJ sz (WZ_LfN cI cJ mv mr mi mf mg) xT)) (va_Qv (fun (u : Int32 × Int32) => (u.1.toInt = 0) ∧ (u.2.toInt = 0)) (fun u => QW D cI cJ (va_A (WZ_LfN cI cJ mv mr mi mf mg) sz) ((fun (u : Int32 × Int32) => (WZ_LfN cI cJ mv mr (upd (upd mi 1 u.1) 2 u.2) mf mg)) u)) (va_A (WZ_LfN cI cJ mv mr mi mf mg) sz)) 0 0 (va_A (WZ_LfN cI cJ mv mr mi mf mg) sz) := by
  refine mk_met (y := yX11_forgetNights) (bytes := cX11_forgetNights) (maxL := 1) (avs := [.ref (mr 0)]) (WS := (WZ_LfN cI cJ mv mr mi mf mg)) (Qf := fun A => va_Qv (fun (u : Int32 × Int32) => (u.1.toInt = 0) ∧ (u.2.toInt = 0)) (fun u => QW D cI cJ A ((fun (u : Int32 × Int32) => (WZ_LfN cI cJ mv mr (upd (upd mi 1 u.1) 2 u.2) mf mg)) u)) A) (by decide) (Nat.le_of_ble_eq_true rfl) ?_
  intro p e s m below meth c A ls E hr hlk hnm hX hw1 hl2
  have hl3 : lv_has ls 1 [(0, .ref (mr 0))] := hl2
  refine lv_aload_n (pc := 0) E.1 E.2.1 dX11_forgetNights_0 rfl (lv_at hl3 0 rfl) ?_
  refine lv_iconst (pc := 1) (v := 0) E.1 E.2.1 dX11_forgetNights_1 (by decide +kernel) ?_
  refine x_put (pc := 2) (T := TX11) (N := 13) (ci := 11) (ws' := (WZ_LfN cI cJ mv mr (upd mi 2 0) mf mg)) E hw1 inX11 tyX11_ok nmX11 0 10 q_616 rfl rfl (by decide) rfl rfl rfl rfl (Nat.le_of_ble_eq_true rfl) rfl dX11_forgetNights_2 (fun H locs hw4 => ?_)
  refine lv_aload_n (pc := 5) E.1 E.2.1 dX11_forgetNights_5 rfl (lv_at hl3 0 rfl) ?_
  refine lv_iconst (pc := 6) (v := 0) E.1 E.2.1 dX11_forgetNights_6 (by decide +kernel) ?_
  refine x_put (pc := 7) (T := TX11) (N := 13) (ci := 11) (ws' := (WZ_LfN cI cJ mv mr (upd (upd mi 1 0) 2 0) mf mg)) E hw4 inX11 tyX11_ok nmX11 0 9 q_615 rfl rfl (by decide) rfl rfl rfl rfl (Nat.le_of_ble_eq_true rfl) rfl dX11_forgetNights_7 (fun H locs hw5 => ?_)
  refine lv_aload_n (pc := 10) E.1 E.2.1 dX11_forgetNights_10 rfl (lv_at hl3 0 rfl) ?_
  refine cq_v (pc := 11) (ws' := (fun (u : Unit) => (WZ_LfN cI cJ mv mr (upd (upd mi 1 0) 2 0) mf mg))) hw5 [0] [] [0] rfl rfl (by decide) (by decide) (fun _ => rfl) (by decide) (rn_V (As := []) (rest := []) E hw5 (t_forgetPlanN l D cI cJ _ (ixf [0, 1, 2] mr) (ixf [0, 1, 2] (upd (upd mi 1 0) 2 0)) (ixf [0, 1, 2] mf) (ixf [0, 1, 2] mg) (vl [mv 0, mv 1, mv 2, mv 3, mv 4, mv 5, mv 6, mv 7, mv 8, mv 9])) (gdV q_654 q_656 q_1 q_151 q_657) hdV_X11_forgetPlan ⟨rfl, rfl⟩ ⟨(Nat.le_of_ble_eq_true rfl), (Nat.le_of_ble_eq_true rfl)⟩ ⟨(Nat.le_of_ble_eq_true rfl), (Nat.le_of_ble_eq_true rfl)⟩ xT_b xT_at 0 11 rfl rfl rfl [0] rfl (by decide) rfl hl3.1 rfl (Nat.le_of_ble_eq_true rfl) dX11_forgetNights_11) (fun u_6 H1 locs hp hw8 => ?_)
  generalize H1 = H at hw8 ⊢
  have hw9 : WD D A s.heap (WZ_LfN cI cJ mv mr (upd (upd mi 1 0) 2 0) mf mg) H locs := hw8
  exact em_v (w1 := (fun (u : Int32 × Int32) => (WZ_LfN cI cJ mv mr (upd (upd mi 1 u.1) 2 u.2) mf mg))) E hr hlk (0, 0) hw9 ⟨(by show (0 : Int32).toInt = 0; have k_0 : (0 : Int32).toInt = 0 := (by decide +kernel); have k_1 : (0 : Int32).toInt = 0 := (by decide +kernel); omega), (by show (0 : Int32).toInt = 0; have k_0 : (0 : Int32).toInt = 0 := (by decide +kernel); have k_1 : (0 : Int32).toInt = 0 := (by decide +kernel); omega)⟩ (Nat.le_of_ble_eq_true rfl) (Nat.le_of_ble_eq_true rfl) dX11_forgetNights_14
set_option maxHeartbeats 4000000 in
set_option maxRecDepth 100000 in
theorem t_stateN (l : Launch) (D : va_G) (cI cJ : ClassId) (sz : Nat) (mr : Nat → Nat) (mi : Nat → Int32) (mf : Nat → Nat → Int32) (mg : Nat → Nat → Int64) (z_v : Int32) (mv : Nat → Value) (h0 : 0 ≤ (mi 1).toInt ∧ (mi 1).toInt ≤ 5) (h1 : 0 ≤ (mi 2).toInt ∧ (mi 2).toInt ≤ 6) (h2 : 0 ≤ (mi 4).toInt ∧ (mi 4).toInt ≤ 1000) (h3 : 0 ≤ (mi 6).toInt ∧ (mi 6).toInt ≤ 99) (h4 : (-1) ≤ (mi 10).toInt ∧ (mi 10).toInt ≤ 9) (h5 : 0 ≤ (mi 11).toInt ∧ (mi 11).toInt ≤ 9999) (h6 : 0 ≤ (mi 14).toInt ∧ (mi 14).toInt ≤ 200) : Met l yX11_state (Cond.code yX11_state cX11_state 3 (some .int) :: GW) ({ frames := 11, cells := 0, slots := 0, locals := 263 } : Room) (va_Pc [.ref (mr 0), .int z_v] (PW D cI cJ sz (WZ_LstateN cI cJ mv mr mi mf mg) xT)) (va_Qi (fun (r : Int32) (u : (Nat → Int32) × (Nat → Nat → Int32) × (Nat → Nat → Int64)) => (0 ≤ (u.1 1).toInt) ∧ ((u.1 1).toInt ≤ 5) ∧ (0 ≤ (u.1 2).toInt) ∧ ((u.1 2).toInt ≤ 6) ∧ (0 ≤ (u.1 4).toInt) ∧ ((u.1 4).toInt ≤ 1000) ∧ (0 ≤ (u.1 6).toInt) ∧ ((u.1 6).toInt ≤ 99) ∧ ((-1) ≤ (u.1 10).toInt) ∧ ((u.1 10).toInt ≤ 9) ∧ (0 ≤ (u.1 11).toInt) ∧ ((u.1 11).toInt ≤ 9999) ∧ (0 ≤ (u.1 14).toInt) ∧ ((u.1 14).toInt ≤ 200) ∧ ((u.1 2).toInt = 0) ∧ ((u.1 11).toInt = (mi 11).toInt) ∧ ((u.1 10).toInt = (mi 10).toInt) ∧ ((u.1 4).toInt = (mi 4).toInt) ∧ (((u.1 13) = z_v ∧ (r : Int32) = (mi 13)))) (fun u => QW D cI cJ (va_A (WZ_LstateN cI cJ mv mr mi mf mg) sz) ((fun (u : (Nat → Int32) × (Nat → Nat → Int32) × (Nat → Nat → Int64)) => (WZ_LstateN cI cJ mv mr u.1 u.2.1 u.2.2)) u)) (va_A (WZ_LstateN cI cJ mv mr mi mf mg) sz)) 0 0 (va_A (WZ_LstateN cI cJ mv mr mi mf mg) sz) := by
  refine mk_met (y := yX11_state) (bytes := cX11_state) (maxL := 3) (avs := [.ref (mr 0), .int z_v]) (WS := (WZ_LstateN cI cJ mv mr mi mf mg)) (Qf := fun A => va_Qi (fun (r : Int32) (u : (Nat → Int32) × (Nat → Nat → Int32) × (Nat → Nat → Int64)) => (0 ≤ (u.1 1).toInt) ∧ ((u.1 1).toInt ≤ 5) ∧ (0 ≤ (u.1 2).toInt) ∧ ((u.1 2).toInt ≤ 6) ∧ (0 ≤ (u.1 4).toInt) ∧ ((u.1 4).toInt ≤ 1000) ∧ (0 ≤ (u.1 6).toInt) ∧ ((u.1 6).toInt ≤ 99) ∧ ((-1) ≤ (u.1 10).toInt) ∧ ((u.1 10).toInt ≤ 9) ∧ (0 ≤ (u.1 11).toInt) ∧ ((u.1 11).toInt ≤ 9999) ∧ (0 ≤ (u.1 14).toInt) ∧ ((u.1 14).toInt ≤ 200) ∧ ((u.1 2).toInt = 0) ∧ ((u.1 11).toInt = (mi 11).toInt) ∧ ((u.1 10).toInt = (mi 10).toInt) ∧ ((u.1 4).toInt = (mi 4).toInt) ∧ (((u.1 13) = z_v ∧ (r : Int32) = (mi 13)))) (fun u => QW D cI cJ A ((fun (u : (Nat → Int32) × (Nat → Nat → Int32) × (Nat → Nat → Int64)) => (WZ_LstateN cI cJ mv mr u.1 u.2.1 u.2.2)) u)) A) (by decide) (Nat.le_of_ble_eq_true rfl) ?_
  intro p e s m below meth c A ls E hr hlk hnm hX hw1 hl2
  have hl3 : lv_has ls 3 [(0, .ref (mr 0)), (1, .int z_v)] := hl2
  refine lv_aload_n (pc := 0) E.1 E.2.1 dX11_state_0 rfl (lv_at hl3 0 rfl) ?_
  refine x_get (pc := 1) (T := TX11) (N := 13) (ci := 11) (v := .ref (mr 3)) E hw1 inX11 0 0 q_606 rfl rfl (by decide) rfl rfl dX11_state_1 ?_
  refine x_get (pc := 4) (T := TX10) (N := 17) (ci := 10) (v := .ref (mr 8)) E hw1 inX10 1 0 q_458 rfl rfl (by decide) rfl rfl dX11_state_4 ?_
  refine x_get (pc := 7) (T := TX4) (N := 12) (ci := 4) (v := .int (mi 13)) E hw1 inX4 2 9 q_226 rfl rfl (by decide) rfl rfl dX11_state_7 ?_
  refine lv_istore_n (pc := 10) (lv' := [(2, .int (mi 13)), (0, .ref (mr 0)), (1, .int z_v)]) E.1 E.2.1 dX11_state_10 rfl hl3 (by decide) rfl (fun ls hl4 => ?_)
  refine lv_aload_n (pc := 11) E.1 E.2.1 dX11_state_11 rfl (lv_at hl4 1 rfl) ?_
  refine x_get (pc := 12) (T := TX11) (N := 13) (ci := 11) (v := .ref (mr 3)) E hw1 inX11 0 0 q_606 rfl rfl (by decide) rfl rfl dX11_state_12 ?_
  refine x_get (pc := 15) (T := TX10) (N := 17) (ci := 10) (v := .ref (mr 8)) E hw1 inX10 1 0 q_458 rfl rfl (by decide) rfl rfl dX11_state_15 ?_
  refine lv_iload_n (pc := 18) E.1 E.2.1 dX11_state_18 rfl (lv_at hl4 2 rfl) ?_
  refine x_put (pc := 19) (T := TX4) (N := 12) (ci := 4) (ws' := (WZ_LstateN cI cJ mv mr (upd mi 13 z_v) mf mg)) E hw1 inX4 tyX4_ok nmX4 2 9 q_226 rfl rfl (by decide) rfl rfl rfl rfl (Nat.le_of_ble_eq_true rfl) rfl dX11_state_19 (fun H locs hw5 => ?_)
  refine lv_aload_n (pc := 22) E.1 E.2.1 dX11_state_22 rfl (lv_at hl4 1 rfl) ?_
  refine cq_v (pc := 23) (ws' := (fun (u : Int32 × Int32) => (WZ_LstateN cI cJ mv mr (upd (upd (upd mi 1 u.1) 2 u.2) 13 z_v) mf mg))) hw5 [0] [1, 2] [2, 0, 1] rfl rfl (by decide) (by decide) (fun _ => rfl) (by decide) (rn_V (As := []) (rest := []) E hw5 (t_forgetNightsN l D cI cJ _ (ixf [0, 1, 2] mr) (ixf [0, 1, 2] (upd mi 13 z_v)) (ixf [0, 1, 2] mf) (ixf [0, 1, 2] mg) (vl [.ref (mr 3), mv 0, mv 1, mv 2, mv 3, mv 4, mv 5, mv 6, mv 7, mv 8])) (gdV q_650 q_652 q_0 q_151 q_653) hdV_X11_forgetNights ⟨rfl, rfl⟩ ⟨(Nat.le_of_ble_eq_true rfl), (Nat.le_of_ble_eq_true rfl)⟩ ⟨(Nat.le_of_ble_eq_true rfl), (Nat.le_of_ble_eq_true rfl)⟩ xT_b xT_at 0 11 rfl rfl rfl [0] rfl (by decide) rfl hl4.1 rfl (Nat.le_of_ble_eq_true rfl) dX11_state_23) (fun u_6 H1 locs hp hw8 => ?_)
  obtain ⟨noldest_9, nundoable_10⟩ := u_6
  generalize H1 = H at hw8 ⊢
  have hw11 : WD D A s.heap (WZ_LstateN cI cJ mv mr (upd (upd (upd mi 1 noldest_9) 2 nundoable_10) 13 z_v) mf mg) H locs := hw8
  obtain ⟨hp_12, hp_13⟩ := hp
  have hp_12 : noldest_9.toInt = 0 := hp_12
  have hp_13 : nundoable_10.toInt = 0 := hp_13
  refine lv_iload_n (pc := 26) E.1 E.2.1 dX11_state_26 rfl (lv_at hl4 0 rfl) ?_
  exact em_i (w1 := (fun (u : (Nat → Int32) × (Nat → Nat → Int32) × (Nat → Nat → Int64)) => (WZ_LstateN cI cJ mv mr u.1 u.2.1 u.2.2))) E hr hlk ((upd (upd (upd mi 1 noldest_9) 2 nundoable_10) 13 z_v), mf, mg) hw11 ⟨(by show 0 ≤ noldest_9.toInt; omega), (by show noldest_9.toInt ≤ 5; omega), (by show 0 ≤ nundoable_10.toInt; omega), (by show nundoable_10.toInt ≤ 6; omega), (by show 0 ≤ (mi 4).toInt; omega), (by show (mi 4).toInt ≤ 1000; omega), (by show 0 ≤ (mi 6).toInt; omega), (by show (mi 6).toInt ≤ 99; omega), (by show (-1) ≤ (mi 10).toInt; omega), (by show (mi 10).toInt ≤ 9; omega), (by show 0 ≤ (mi 11).toInt; omega), (by show (mi 11).toInt ≤ 9999; omega), (by show 0 ≤ (mi 14).toInt; omega), (by show (mi 14).toInt ≤ 200; omega), (by show nundoable_10.toInt = 0; omega), (by show (mi 11).toInt = (mi 11).toInt; omega), (by show (mi 10).toInt = (mi 10).toInt; omega), (by show (mi 4).toInt = (mi 4).toInt; omega), (show (z_v = z_v ∧ ((mi 13) : Int32) = (mi 13)) from ⟨Int32.toInt_inj.mp (by omega), Int32.toInt_inj.mp (by omega)⟩)⟩ (Nat.le_of_ble_eq_true rfl) (Nat.le_of_ble_eq_true rfl) dX11_state_27
