set_option maxHeartbeats 4000000 in
set_option maxRecDepth 100000 in
theorem t_isFreeK (l : Launch) (D : va_G) (cI cJ : ClassId) (sz : Nat) (mr : Nat → Nat) (mi : Nat → Int32) (mf : Nat → Nat → Int32) (mg : Nat → Nat → Int64) (z_where : Int32) (mv : Nat → Value) (h0 : 0 ≤ (mi 6).toInt ∧ (mi 6).toInt ≤ 10) : Met l yX1_isFree (Cond.code yX1_isFree cX1_isFree 3 (some .boolean) :: GW) ({ frames := 1, cells := 0, slots := 0, locals := 40 } : Room) (va_Pc [.ref (mr 0), .int z_where] (PW D cI cJ sz (WZ_HousesO cI cJ mv mr mi mf mg) xT)) (va_Qi (fun (r : Int32) (u : Unit) => (0 ≤ r.toInt) ∧ (r.toInt ≤ 1) ∧ (((r : Int32) = 1 ↔ FREE (mi 6).toInt (mf 1) (z_where : Int32).toInt))) (fun u => QW D cI cJ (va_A (WZ_HousesO cI cJ mv mr mi mf mg) sz) ((fun (u : Unit) => (WZ_HousesO cI cJ mv mr mi mf mg)) u)) (va_A (WZ_HousesO cI cJ mv mr mi mf mg) sz)) 0 0 (va_A (WZ_HousesO cI cJ mv mr mi mf mg) sz) := by
  refine mk_met (y := yX1_isFree) (bytes := cX1_isFree) (maxL := 3) (avs := [.ref (mr 0), .int z_where]) (WS := (WZ_HousesO cI cJ mv mr mi mf mg)) (Qf := fun A => va_Qi (fun (r : Int32) (u : Unit) => (0 ≤ r.toInt) ∧ (r.toInt ≤ 1) ∧ (((r : Int32) = 1 ↔ FREE (mi 6).toInt (mf 1) (z_where : Int32).toInt))) (fun u => QW D cI cJ A ((fun (u : Unit) => (WZ_HousesO cI cJ mv mr mi mf mg)) u)) A) (by decide) (Nat.le_of_ble_eq_true rfl) ?_
  intro p e s m below meth c A ls E hr hlk hnm hX hw1 hl2
  have hl3 : lv_has ls 3 [(0, .ref (mr 0)), (1, .int z_where)] := hl2
  refine lv_iload_n (pc := 0) E.1 E.2.1 dX1_isFree_0 rfl (lv_at hl3 1 rfl) ?_
  refine lv_if_lt (pc := 1) (tgt := 10) E.1 E.2.1 dX1_isFree_1 (by decide) (fun c_4 => ?_) (fun c_4 => ?_)
  · skip
    have hc_4 := ltE (a := z_where.toInt) (b := 0) rfl (by decide +kernel) c_4
    refine lv_iconst (pc := 10) (v := 0) E.1 E.2.1 dX1_isFree_10 (by decide +kernel) ?_
    exact em_z (w1 := (fun (u : Unit) => (WZ_HousesO cI cJ mv mr mi mf mg))) E hr hlk () hw1 ⟨(by show 0 ≤ (0 : Int32).toInt; have k_0 : (0 : Int32).toInt = 0 := (by decide +kernel); omega), (by show (0 : Int32).toInt ≤ 1; have k_0 : (0 : Int32).toInt = 0 := (by decide +kernel); omega), (show ((0 : Int32) = 1 ↔ FREE (mi 6).toInt (mf 1) (z_where : Int32).toInt) from ⟨fun h => absurd h (by decide +kernel), fun h => absurd h.1 (by have h2 := h.2.1; omega)⟩)⟩ (by decide +kernel) (Nat.le_of_ble_eq_true rfl) (Nat.le_of_ble_eq_true rfl) dX1_isFree_11
  · skip
    have hc_4 := nltE (a := z_where.toInt) (b := 0) rfl (by decide +kernel) c_4
    refine lv_iload_n (pc := 4) E.1 E.2.1 dX1_isFree_4 rfl (lv_at hl3 1 rfl) ?_
    refine lv_bipush (pc := 5) (v := 63) E.1 E.2.1 dX1_isFree_5 (by decide +kernel) ?_
    refine lv_icmp_le (pc := 7) (tgt := 12) E.1 E.2.1 dX1_isFree_7 (by decide) (fun c_5 => ?_) (fun c_5 => ?_)
    · skip
      have hc_5 := leE (a := z_where.toInt) (b := 63) rfl (by decide +kernel) c_5
      refine lv_iconst (pc := 12) (v := 0) E.1 E.2.1 dX1_isFree_12 (by decide +kernel) ?_
      refine lv_istore_n (pc := 13) (lv' := [(2, .int 0), (0, .ref (mr 0)), (1, .int z_where)]) E.1 E.2.1 dX1_isFree_13 rfl hl3 (by decide) rfl (fun ls hl6 => ?_)
      have loop_7 : ∀ (k : Nat) (x_8 : Int32) (H : Heap) (locs : List Loc) (ls : Array Slot), (0 ≤ x_8.toInt) ∧ (x_8.toInt ≤ (mi 6).toInt) ∧ (∀ j : Nat, (j : Int) < x_8.toInt → ((mf 1) j).toInt ≠ z_where.toInt) → (mi 6).toInt - x_8.toInt < (k : Int) → WD D A s.heap (WZ_HousesO cI cJ mv mr mi mf mg) H locs → lv_has ls 3 [(2, .int x_8), (0, .ref (mr 0)), (1, .int z_where)] → W p l e ({ frames := 1, cells := 0, slots := 0, locals := 40 } : Room) s m ([.ref (mr 0), .int z_where] : List Value).toArray below meth c H locs 0 0 (MQ below (va_Qi (fun (r : Int32) (u : Unit) => (0 ≤ r.toInt) ∧ (r.toInt ≤ 1) ∧ (((r : Int32) = 1 ↔ FREE (mi 6).toInt (mf 1) (z_where : Int32).toInt))) (fun u => QW D cI cJ A ((fun (u : Unit) => (WZ_HousesO cI cJ mv mr mi mf mg)) u)) A) ([.ref (mr 0), .int z_where] : List Value).toArray s 0 0 A) (F0 m 14 ls []) := by
        intro k
        induction k with
        | zero =>
          intro x_8 _ _ _ hinv hm
          obtain ⟨hi_8_0, hi_8_1, hi_8_2⟩ := hinv
          exact absurd hm (by omega)
        | succ k ih_9 =>
          intro x_8 H locs ls hinv hm hw10 hl11
          obtain ⟨hi_8_0, hi_8_1, hi_8_2⟩ := hinv
          refine lv_iload_n (pc := 14) E.1 E.2.1 dX1_isFree_14 rfl (lv_at hl11 0 rfl) ?_
          refine lv_aload_n (pc := 15) E.1 E.2.1 dX1_isFree_15 rfl (lv_at hl11 1 rfl) ?_
          refine x_get (pc := 16) (T := TX1) (N := 9) (ci := 1) (v := .int (mi 6)) E hw10 inX1 0 5 q_281 rfl rfl (by decide) rfl rfl dX1_isFree_16 ?_
          refine lv_icmp_ge (pc := 19) (tgt := 40) E.1 E.2.1 dX1_isFree_19 (by decide) (fun c_12 => ?_) (fun c_12 => ?_)
          · skip
            have hc_12 := leE (a := (mi 6).toInt) (b := x_8.toInt) rfl rfl c_12
            refine lv_iconst (pc := 40) (v := 1) E.1 E.2.1 dX1_isFree_40 (by decide +kernel) ?_
            exact em_z (w1 := (fun (u : Unit) => (WZ_HousesO cI cJ mv mr mi mf mg))) E hr hlk () hw10 ⟨(by show 0 ≤ (1 : Int32).toInt; have k_0 : (1 : Int32).toInt = 1 := (by decide +kernel); omega), (by show (1 : Int32).toInt ≤ 1; have k_0 : (1 : Int32).toInt = 1 := (by decide +kernel); omega), (show ((1 : Int32) = 1 ↔ FREE (mi 6).toInt (mf 1) (z_where : Int32).toInt) from ⟨fun _ => ⟨by omega, by omega, fun j hj => hi_8_2 j (by omega)⟩, fun _ => rfl⟩)⟩ (by decide +kernel) (Nat.le_of_ble_eq_true rfl) (Nat.le_of_ble_eq_true rfl) dX1_isFree_41
          · skip
            have hc_12 := nleE (a := (mi 6).toInt) (b := x_8.toInt) rfl rfl c_12
            refine lv_aload_n (pc := 22) E.1 E.2.1 dX1_isFree_22 rfl (lv_at hl11 1 rfl) ?_
            refine x_get (pc := 23) (T := TX1) (N := 9) (ci := 1) (v := .ref (mr 1)) E hw10 inX1 0 0 q_266 rfl rfl (by decide) rfl rfl dX1_isFree_23 ?_
            refine lv_iload_n (pc := 26) E.1 E.2.1 dX1_isFree_26 rfl (lv_at hl11 0 rfl) ?_
            refine x_iald (pc := 27) (f := (mf 1)) E hw10 1 rfl (inbE (a := x_8.toInt) rfl (by omega)) dX1_isFree_27 ?_
            refine lv_topi (fun v_13 ev_13 => ?_)
            refine lv_iload_n (pc := 28) E.1 E.2.1 dX1_isFree_28 rfl (lv_at hl11 2 rfl) ?_
            refine lv_icmp_ne (pc := 29) (tgt := 34) E.1 E.2.1 dX1_isFree_29 (by decide) (fun c_14 => ?_) (fun c_14 => ?_)
            · skip
              have hc_14 := neE (a := v_13.toInt) (b := z_where.toInt) rfl rfl c_14
              obtain ⟨v_15, ev_15⟩ : ∃ z : Int32, x_8 + Int32.ofInt (1) = z := ⟨_, rfl⟩
              have hv_15 : v_15.toInt = x_8.toInt + (1) := by rw [← ev_15]; exact incE rfl (by decide) (by omega)
              refine lv_iinc (pc := 34) (v := v_15) (lv' := [(2, .int v_15), (0, .ref (mr 0)), (1, .int z_where)]) E.1 E.2.1 dX1_isFree_34 hl11 (k := 0) rfl ev_15 (by decide) rfl (fun ls hl16 => ?_)
              refine lv_goto (pc := 37) (tgt := 14) E.1 E.2.1 dX1_isFree_37 (by decide) ?_
              exact ih_9 v_15 _ _ _ ⟨(by show 0 ≤ v_15.toInt; omega), (by show v_15.toInt ≤ (mi 6).toInt; omega), (free_step hi_8_2 ev_13 (by omega) rfl (by omega) (m := v_15.toInt) (by omega))⟩ (by omega) hw10 (lv_sub hl16 [0, 1, 2] rfl)
            · skip
              have hc_14 := eqE (a := v_13.toInt) (b := z_where.toInt) rfl rfl c_14
              refine lv_iconst (pc := 32) (v := 0) E.1 E.2.1 dX1_isFree_32 (by decide +kernel) ?_
              exact em_z (w1 := (fun (u : Unit) => (WZ_HousesO cI cJ mv mr mi mf mg))) E hr hlk () hw10 ⟨(by show 0 ≤ (0 : Int32).toInt; have k_0 : (0 : Int32).toInt = 0 := (by decide +kernel); omega), (by show (0 : Int32).toInt ≤ 1; have k_0 : (0 : Int32).toInt = 0 := (by decide +kernel); omega), (show ((0 : Int32) = 1 ↔ FREE (mi 6).toInt (mf 1) (z_where : Int32).toInt) from ⟨fun h => absurd h (by decide +kernel), fun h => (free_hit h ev_13 (by omega) (by omega) (by omega)).elim⟩)⟩ (by decide +kernel) (Nat.le_of_ble_eq_true rfl) (Nat.le_of_ble_eq_true rfl) dX1_isFree_33
      exact loop_7 (Int.toNat ((mi 6).toInt - 0) + 1) 0 _ _ _ ⟨(by show 0 ≤ (0 : Int32).toInt; have k_0 : (0 : Int32).toInt = 0 := (by decide +kernel); omega), (by show (0 : Int32).toInt ≤ (mi 6).toInt; have k_0 : (0 : Int32).toInt = 0 := (by decide +kernel); omega), (fun j hj => absurd hj (by have k0 : (0 : Int32).toInt = 0 := (by decide +kernel); omega))⟩ (by have k_0 : (0 : Int32).toInt = 0 := (by decide +kernel); omega) hw1 (lv_sub hl6 [0, 1, 2] rfl)
    · skip
      have hc_5 := nleE (a := z_where.toInt) (b := 63) rfl (by decide +kernel) c_5
      refine lv_iconst (pc := 10) (v := 0) E.1 E.2.1 dX1_isFree_10 (by decide +kernel) ?_
      exact em_z (w1 := (fun (u : Unit) => (WZ_HousesO cI cJ mv mr mi mf mg))) E hr hlk () hw1 ⟨(by show 0 ≤ (0 : Int32).toInt; have k_0 : (0 : Int32).toInt = 0 := (by decide +kernel); omega), (by show (0 : Int32).toInt ≤ 1; have k_0 : (0 : Int32).toInt = 0 := (by decide +kernel); omega), (show ((0 : Int32) = 1 ↔ FREE (mi 6).toInt (mf 1) (z_where : Int32).toInt) from ⟨fun h => absurd h (by decide +kernel), fun h => absurd h.1 (by have h2 := h.2.1; omega)⟩)⟩ (by decide +kernel) (Nat.le_of_ble_eq_true rfl) (Nat.le_of_ble_eq_true rfl) dX1_isFree_11
set_option maxHeartbeats 4000000 in
set_option maxRecDepth 100000 in
theorem t_allK (l : Launch) (D : va_G) (cI cJ : ClassId) (sz : Nat) (mr : Nat → Nat) (mi : Nat → Int32) (mf : Nat → Nat → Int32) (mg : Nat → Nat → Int64)  (mv : Nat → Value) (h0 : 0 ≤ (mi 6).toInt ∧ (mi 6).toInt ≤ 10) : Met l yX1_all (Cond.code yX1_all cX1_all 1 (some .int) :: GW) ({ frames := 1, cells := 0, slots := 0, locals := 40 } : Room) (va_Pc [.ref (mr 0)] (PW D cI cJ sz (WZ_HousesO cI cJ mv mr mi mf mg) xT)) (va_Qi (fun (r : Int32) (u : Unit) => (0 ≤ r.toInt) ∧ (r.toInt ≤ 1023) ∧ ((r : Int32).toInt = sh1 (mi 6) - 1)) (fun u => QW D cI cJ (va_A (WZ_HousesO cI cJ mv mr mi mf mg) sz) ((fun (u : Unit) => (WZ_HousesO cI cJ mv mr mi mf mg)) u)) (va_A (WZ_HousesO cI cJ mv mr mi mf mg) sz)) 0 0 (va_A (WZ_HousesO cI cJ mv mr mi mf mg) sz) := by
  refine mk_met (y := yX1_all) (bytes := cX1_all) (maxL := 1) (avs := [.ref (mr 0)]) (WS := (WZ_HousesO cI cJ mv mr mi mf mg)) (Qf := fun A => va_Qi (fun (r : Int32) (u : Unit) => (0 ≤ r.toInt) ∧ (r.toInt ≤ 1023) ∧ ((r : Int32).toInt = sh1 (mi 6) - 1)) (fun u => QW D cI cJ A ((fun (u : Unit) => (WZ_HousesO cI cJ mv mr mi mf mg)) u)) A) (by decide) (Nat.le_of_ble_eq_true rfl) ?_
  intro p e s m below meth c A ls E hr hlk hnm hX hw1 hl2
  have hl3 : lv_has ls 1 [(0, .ref (mr 0))] := hl2
  refine lv_iconst (pc := 0) (v := 1) E.1 E.2.1 dX1_all_0 (by decide +kernel) ?_
  refine lv_aload_n (pc := 1) E.1 E.2.1 dX1_all_1 rfl (lv_at hl3 0 rfl) ?_
  refine x_get (pc := 2) (T := TX1) (N := 9) (ci := 1) (v := .int (mi 6)) E hw1 inX1 0 5 q_281 rfl rfl (by decide) rfl rfl dX1_all_2 ?_
  refine lv_ishl (pc := 5) E.1 E.2.1 dX1_all_5 ?_
  refine lv_topi (fun v_4 ev_4 => ?_)
  have hb1v_4 : 1 ≤ v_4.toInt ∧ v_4.toInt ≤ 1024 := by rw [ev_4]; exact shl10 (by omega)
  refine lv_iconst (pc := 6) (v := 1) E.1 E.2.1 dX1_all_6 (by decide +kernel) ?_
  refine lv_isub (pc := 7) E.1 E.2.1 dX1_all_7 ?_
  refine lv_topi (fun v_5 ev_5 => ?_)
  have hv_5 : v_5.toInt = v_4.toInt - 1 := by rw [ev_5]; exact subE rfl (by decide +kernel) (by omega)
  exact em_i (w1 := (fun (u : Unit) => (WZ_HousesO cI cJ mv mr mi mf mg))) E hr hlk () hw1 ⟨(by show 0 ≤ v_5.toInt; omega), (by show v_5.toInt ≤ 1023; omega), (show (v_5 : Int32).toInt = sh1 (mi 6) - 1 from (by have q := all_sh ev_4; omega))⟩ (Nat.le_of_ble_eq_true rfl) (Nat.le_of_ble_eq_true rfl) dX1_all_8
set_option maxHeartbeats 4000000 in
set_option maxRecDepth 100000 in
theorem t_forgetPlanN (l : Launch) (D : va_G) (cI cJ : ClassId) (sz : Nat) (mr : Nat → Nat) (mi : Nat → Int32) (mf : Nat → Nat → Int32) (mg : Nat → Nat → Int64)  (mv : Nat → Value)  : Met l yX11_forgetPlan (Cond.code yX11_forgetPlan cX11_forgetPlan 1 none :: GW) ({ frames := 1, cells := 0, slots := 0, locals := 40 } : Room) (va_Pc [.ref (mr 0)] (PW D cI cJ sz (WZ_LfN cI cJ mv mr mi mf mg) xT)) (va_Qv (fun (u : Unit) => True) (fun u => QW D cI cJ (va_A (WZ_LfN cI cJ mv mr mi mf mg) sz) ((fun (u : Unit) => (WZ_LfN cI cJ mv mr mi mf mg)) u)) (va_A (WZ_LfN cI cJ mv mr mi mf mg) sz)) 0 0 (va_A (WZ_LfN cI cJ mv mr mi mf mg) sz) := by
  refine mk_met (y := yX11_forgetPlan) (bytes := cX11_forgetPlan) (maxL := 1) (avs := [.ref (mr 0)]) (WS := (WZ_LfN cI cJ mv mr mi mf mg)) (Qf := fun A => va_Qv (fun (u : Unit) => True) (fun u => QW D cI cJ A ((fun (u : Unit) => (WZ_LfN cI cJ mv mr mi mf mg)) u)) A) (by decide) (Nat.le_of_ble_eq_true rfl) ?_
  intro p e s m below meth c A ls E hr hlk hnm hX hw1 hl2
  have hl3 : lv_has ls 1 [(0, .ref (mr 0))] := hl2
  refine lv_aload_n (pc := 0) E.1 E.2.1 dX11_forgetPlan_0 rfl (lv_at hl3 0 rfl) ?_
  refine x_get (pc := 1) (T := TX11) (N := 13) (ci := 11) (v := .null) E hw1 inX11 0 11 q_617 rfl rfl (by decide) rfl rfl dX11_forgetPlan_1 ?_
  refine lv_ifnullN (pc := 4) (tgt := 15) E.1 E.2.1 dX11_forgetPlan_4 (by decide) ?_
  exact em_v (w1 := (fun (u : Unit) => (WZ_LfN cI cJ mv mr mi mf mg))) E hr hlk () hw1 trivial (Nat.le_of_ble_eq_true rfl) (Nat.le_of_ble_eq_true rfl) dX11_forgetPlan_15
set_option maxHeartbeats 4000000 in
set_option maxRecDepth 100000 in
theorem t_forgetNightsN (l : Launch) (D : va_G) (cI cJ : ClassId) (sz : Nat) (mr : Nat → Nat) (mi : Nat → Int32) (mf : Nat → Nat → Int32) (mg : Nat → Nat → Int64)  (mv : Nat → Value)  : Met l yX11_forgetNights (Cond.code yX11_forgetNights cX11_forgetNights 1 none :: GW) ({ frames := 2, cells := 0, slots := 0, locals := 60 } : Room) (va_Pc [.ref (mr 0)] (PW D cI cJ sz (WZ_LfN cI cJ mv mr mi mf mg) xT)) (va_Qv (fun (u : Int32 × Int32) => (u.1.toInt = 0) ∧ (u.2.toInt = 0)) (fun u => QW D cI cJ (va_A (WZ_LfN cI cJ mv mr mi mf mg) sz) ((fun (u : Int32 × Int32) => (WZ_LfN cI cJ mv mr (upd (upd mi 1 u.1) 2 u.2) mf mg)) u)) (va_A (WZ_LfN cI cJ mv mr mi mf mg) sz)) 0 0 (va_A (WZ_LfN cI cJ mv mr mi mf mg) sz) := by
  refine mk_met (y := yX11_forgetNights) (bytes := cX11_forgetNights) (maxL := 1) (avs := [.ref (mr 0)]) (WS := (WZ_LfN cI cJ mv mr mi mf mg)) (Qf := fun A => va_Qv (fun (u : Int32 × Int32) => (u.1.toInt = 0) ∧ (u.2.toInt = 0)) (fun u => QW D cI cJ A ((fun (u : Int32 × Int32) => (WZ_LfN cI cJ mv mr (upd (upd mi 1 u.1) 2 u.2) mf mg)) u)) A) (by decide) (Nat.le_of_ble_eq_true rfl) ?_
  intro p e s m below meth c A ls E hr hlk hnm hX hw1 hl2
  have hl3 : lv_has ls 1 [(0, .ref (mr 0))] := hl2
  refine lv_aload_n (pc := 0) E.1 E.2.1 dX11_forgetNights_0 rfl (lv_at hl3 0 rfl) ?_
  refine lv_iconst (pc := 1) (v := 0) E.1 E.2.1 dX11_forgetNights_1 (by decide +kernel) ?_
  refine x_put (pc := 2) (T := TX11) (N := 13) (ci := 11) (ws' := (WZ_LfN cI cJ mv mr (upd mi 2 0) mf mg)) E hw1 inX11 tyX11_ok nmX11 0 10 q_616 rfl rfl (by decide) rfl rfl rfl rfl (Nat.le_of_ble_eq_true rfl) rfl dX11_forgetNights_2 (fun H locs hw4 => ?_)
  refine lv_aload_n (pc := 5) E.1 E.2.1 dX11_forgetNights_5 rfl (lv_at hl3 0 rfl) ?_
  refine lv_iconst (pc := 6) (v := 0) E.1 E.2.1 dX11_forgetNights_6 (by decide +kernel) ?_
  refine x_put (pc := 7) (T := TX11) (N := 13) (ci := 11) (ws' := (WZ_LfN cI cJ mv mr (upd (upd mi 1 0) 2 0) mf mg)) E hw4 inX11 tyX11_ok nmX11 0 9 q_615 rfl rfl (by decide) rfl rfl rfl rfl (Nat.le_of_ble_eq_true rfl) rfl dX11_forgetNights_7 (fun H locs hw5 => ?_)
  refine lv_aload_n (pc := 10) E.1 E.2.1 dX11_forgetNights_10 rfl (lv_at hl3 0 rfl) ?_
  refine ck_v (pc := 11) (ws' := (fun (u : Unit) => (WZ_LfN cI cJ mv mr (upd (upd mi 1 0) 2 0) mf mg))) [true] hw5 rfl (fun hC_ => (rn_V (As := []) (rest := []) E hw5 (t_forgetPlanN l D cI cJ _ mr (upd (upd mi 1 0) 2 0) mf mg (vl [mv 0, mv 1, mv 2, mv 3, mv 4, mv 5, mv 6, mv 7, mv 8, mv 9])) (gdV q_654 q_656 q_1 q_151 q_657) hdV_X11_forgetPlan ⟨rfl, rfl⟩ ⟨(Nat.le_of_ble_eq_true rfl), (Nat.le_of_ble_eq_true rfl)⟩ ⟨(Nat.le_of_ble_eq_true rfl), (Nat.le_of_ble_eq_true rfl)⟩ xT_b xT_at 0 11 rfl rfl rfl _ hC_ (nd_T _ 0) rfl hl3.1 rfl (Nat.le_of_ble_eq_true rfl) dX11_forgetNights_11)) rfl (fun _ => rfl) (fun _ => rfl) (fun u_6 H1 locs hp hw8 => ?_)
  generalize H1 = H at hw8 ⊢
  have hw9 : WD D A s.heap (WZ_LfN cI cJ mv mr (upd (upd mi 1 0) 2 0) mf mg) H locs := hw8
  exact em_v (w1 := (fun (u : Int32 × Int32) => (WZ_LfN cI cJ mv mr (upd (upd mi 1 u.1) 2 u.2) mf mg))) E hr hlk (0, 0) hw9 ⟨(by show (0 : Int32).toInt = 0; have k_0 : (0 : Int32).toInt = 0 := (by decide +kernel); have k_1 : (0 : Int32).toInt = 0 := (by decide +kernel); omega), (by show (0 : Int32).toInt = 0; have k_0 : (0 : Int32).toInt = 0 := (by decide +kernel); have k_1 : (0 : Int32).toInt = 0 := (by decide +kernel); omega)⟩ (Nat.le_of_ble_eq_true rfl) (Nat.le_of_ble_eq_true rfl) dX11_forgetNights_14
set_option maxHeartbeats 4000000 in
set_option maxRecDepth 100000 in
theorem t_stateN (l : Launch) (D : va_G) (cI cJ : ClassId) (sz : Nat) (mr : Nat → Nat) (mi : Nat → Int32) (mf : Nat → Nat → Int32) (mg : Nat → Nat → Int64) (z_v : Int32) (mv : Nat → Value) (h0 : 0 ≤ (mi 1).toInt ∧ (mi 1).toInt ≤ 5) (h1 : 0 ≤ (mi 2).toInt ∧ (mi 2).toInt ≤ 6) (h2 : 0 ≤ (mi 14).toInt ∧ (mi 14).toInt ≤ 200) : Met l yX11_state (Cond.code yX11_state cX11_state 3 (some .int) :: GW) ({ frames := 11, cells := 0, slots := 0, locals := 263 } : Room) (va_Pc [.ref (mr 0), .int z_v] (PW D cI cJ sz (WZ_LstateN cI cJ mv mr mi mf mg) xT)) (va_Qi (fun (r : Int32) (u : (Nat → Int32) × (Nat → Nat → Int32) × (Nat → Nat → Int64)) => (0 ≤ (u.1 1).toInt) ∧ ((u.1 1).toInt ≤ 5) ∧ (0 ≤ (u.1 2).toInt) ∧ ((u.1 2).toInt ≤ 6) ∧ (0 ≤ (u.1 14).toInt) ∧ ((u.1 14).toInt ≤ 200)) (fun u => QW D cI cJ (va_A (WZ_LstateN cI cJ mv mr mi mf mg) sz) ((fun (u : (Nat → Int32) × (Nat → Nat → Int32) × (Nat → Nat → Int64)) => (WZ_LstateN cI cJ mv mr u.1 u.2.1 u.2.2)) u)) (va_A (WZ_LstateN cI cJ mv mr mi mf mg) sz)) 0 0 (va_A (WZ_LstateN cI cJ mv mr mi mf mg) sz) := by
  refine mk_met (y := yX11_state) (bytes := cX11_state) (maxL := 3) (avs := [.ref (mr 0), .int z_v]) (WS := (WZ_LstateN cI cJ mv mr mi mf mg)) (Qf := fun A => va_Qi (fun (r : Int32) (u : (Nat → Int32) × (Nat → Nat → Int32) × (Nat → Nat → Int64)) => (0 ≤ (u.1 1).toInt) ∧ ((u.1 1).toInt ≤ 5) ∧ (0 ≤ (u.1 2).toInt) ∧ ((u.1 2).toInt ≤ 6) ∧ (0 ≤ (u.1 14).toInt) ∧ ((u.1 14).toInt ≤ 200)) (fun u => QW D cI cJ A ((fun (u : (Nat → Int32) × (Nat → Nat → Int32) × (Nat → Nat → Int64)) => (WZ_LstateN cI cJ mv mr u.1 u.2.1 u.2.2)) u)) A) (by decide) (Nat.le_of_ble_eq_true rfl) ?_
  intro p e s m below meth c A ls E hr hlk hnm hX hw1 hl2
  have hl3 : lv_has ls 3 [(0, .ref (mr 0)), (1, .int z_v)] := hl2
  refine lv_aload_n (pc := 0) E.1 E.2.1 dX11_state_0 rfl (lv_at hl3 0 rfl) ?_
  refine x_get (pc := 1) (T := TX11) (N := 13) (ci := 11) (v := .ref (mr 3)) E hw1 inX11 0 0 q_606 rfl rfl (by decide) rfl rfl dX11_state_1 ?_
  refine x_get (pc := 4) (T := TX10) (N := 17) (ci := 10) (v := .ref (mr 8)) E hw1 inX10 1 0 q_458 rfl rfl (by decide) rfl rfl dX11_state_4 ?_
  refine x_get (pc := 7) (T := TX4) (N := 12) (ci := 4) (v := .int (mi 13)) E hw1 inX4 2 9 q_226 rfl rfl (by decide) rfl rfl dX11_state_7 ?_
  refine lv_istore_n (pc := 10) (lv' := [(2, .int (mi 13)), (0, .ref (mr 0)), (1, .int z_v)]) E.1 E.2.1 dX11_state_10 rfl hl3 (by decide) rfl (fun ls hl4 => ?_)
  refine lv_aload_n (pc := 11) E.1 E.2.1 dX11_state_11 rfl (lv_at hl4 1 rfl) ?_
  refine x_get (pc := 12) (T := TX11) (N := 13) (ci := 11) (v := .ref (mr 3)) E hw1 inX11 0 0 q_606 rfl rfl (by decide) rfl rfl dX11_state_12 ?_
  refine x_get (pc := 15) (T := TX10) (N := 17) (ci := 10) (v := .ref (mr 8)) E hw1 inX10 1 0 q_458 rfl rfl (by decide) rfl rfl dX11_state_15 ?_
  refine lv_iload_n (pc := 18) E.1 E.2.1 dX11_state_18 rfl (lv_at hl4 2 rfl) ?_
  refine x_put (pc := 19) (T := TX4) (N := 12) (ci := 4) (ws' := (WZ_LstateN cI cJ mv mr (upd mi 13 z_v) mf mg)) E hw1 inX4 tyX4_ok nmX4 2 9 q_226 rfl rfl (by decide) rfl rfl rfl rfl (Nat.le_of_ble_eq_true rfl) rfl dX11_state_19 (fun H locs hw5 => ?_)
  refine lv_aload_n (pc := 22) E.1 E.2.1 dX11_state_22 rfl (lv_at hl4 1 rfl) ?_
  refine ck_v (pc := 23) (ws' := (fun (u : Int32 × Int32) => (WZ_LstateN cI cJ mv mr (upd (upd (upd mi 1 u.1) 2 u.2) 13 z_v) mf mg))) [true, false, false] hw5 rfl (fun hC_ => (rn_V (As := []) (rest := []) E hw5 (t_forgetNightsN l D cI cJ _ mr (upd mi 13 z_v) mf mg (vl [.ref (mr 3), mv 0, mv 1, mv 2, mv 3, mv 4, mv 5, mv 6, mv 7, mv 8])) (gdV q_650 q_652 q_0 q_151 q_653) hdV_X11_forgetNights ⟨rfl, rfl⟩ ⟨(Nat.le_of_ble_eq_true rfl), (Nat.le_of_ble_eq_true rfl)⟩ ⟨(Nat.le_of_ble_eq_true rfl), (Nat.le_of_ble_eq_true rfl)⟩ xT_b xT_at 0 11 rfl rfl rfl _ hC_ (nd_T _ 0) rfl hl4.1 rfl (Nat.le_of_ble_eq_true rfl) dX11_state_23)) rfl (fun _ => rfl) (fun _ => rfl) (fun u_6 H1 locs hp hw8 => ?_)
  obtain ⟨noldest_9, nundoable_10⟩ := u_6
  generalize H1 = H at hw8 ⊢
  have hw11 : WD D A s.heap (WZ_LstateN cI cJ mv mr (upd (upd (upd mi 1 noldest_9) 2 nundoable_10) 13 z_v) mf mg) H locs := hw8
  obtain ⟨hp_12, hp_13⟩ := hp
  have hp_12 : noldest_9.toInt = 0 := hp_12
  have hp_13 : nundoable_10.toInt = 0 := hp_13
  refine lv_iload_n (pc := 26) E.1 E.2.1 dX11_state_26 rfl (lv_at hl4 0 rfl) ?_
  exact em_i (w1 := (fun (u : (Nat → Int32) × (Nat → Nat → Int32) × (Nat → Nat → Int64)) => (WZ_LstateN cI cJ mv mr u.1 u.2.1 u.2.2))) E hr hlk ((upd (upd (upd mi 1 noldest_9) 2 nundoable_10) 13 z_v), mf, mg) hw11 ⟨(by show 0 ≤ noldest_9.toInt; omega), (by show noldest_9.toInt ≤ 5; omega), (by show 0 ≤ nundoable_10.toInt; omega), (by show nundoable_10.toInt ≤ 6; omega), h2.1, h2.2⟩ (Nat.le_of_ble_eq_true rfl) (Nat.le_of_ble_eq_true rfl) dX11_state_27
set_option maxHeartbeats 4000000 in
set_option maxRecDepth 100000 in
theorem t_houseN (l : Launch) (D : va_G) (cI cJ : ClassId) (sz : Nat) (mr : Nat → Nat) (mi : Nat → Int32) (mf : Nat → Nat → Int32) (mg : Nat → Nat → Int64) (z_place : Int32) (z_people : Int32) (z_oil : Int32) (mv : Nat → Value) (h0 : 0 ≤ (mi 1).toInt ∧ (mi 1).toInt ≤ 5) (h1 : 0 ≤ (mi 2).toInt ∧ (mi 2).toInt ≤ 6) (h2 : 0 ≤ (mi 15).toInt ∧ (mi 15).toInt ≤ 200) (h3 : 0 ≤ (mi 23).toInt ∧ (mi 23).toInt ≤ 10) : Met l yX11_house (Cond.code yX11_house cX11_house 6 (some .int) :: GW) ({ frames := 11, cells := 0, slots := 0, locals := 263 } : Room) (va_Pc [.ref (mr 0), .int z_place, .int z_people, .int z_oil] (PW D cI cJ sz (WZ_LhouseN cI cJ mv mr mi mf mg) xT)) (va_Qi (fun (r : Int32) (u : (Nat → Int32) × (Nat → Nat → Int32) × (Nat → Nat → Int64)) => (0 ≤ (u.1 1).toInt) ∧ ((u.1 1).toInt ≤ 5) ∧ (0 ≤ (u.1 2).toInt) ∧ ((u.1 2).toInt ≤ 6) ∧ (0 ≤ (u.1 15).toInt) ∧ ((u.1 15).toInt ≤ 200) ∧ (0 ≤ (u.1 23).toInt) ∧ ((u.1 23).toInt ≤ 10) ∧ (HST (mi 23).toInt (u.1 23).toInt (mf 18) (u.2.1 18) z_place z_people.toInt z_oil.toInt) ∧ ((((u.1 23).toInt = (mi 23).toInt + 1 ∧ (r : Int32).toInt = (mi 23).toInt) ∨ ((u.1 23).toInt = (mi 23).toInt ∧ (r : Int32).toInt = -1)))) (fun u => QW D cI cJ (va_A (WZ_LhouseN cI cJ mv mr mi mf mg) sz) ((fun (u : (Nat → Int32) × (Nat → Nat → Int32) × (Nat → Nat → Int64)) => (WZ_LhouseN cI cJ mv mr u.1 u.2.1 u.2.2)) u)) (va_A (WZ_LhouseN cI cJ mv mr mi mf mg) sz)) 0 0 (va_A (WZ_LhouseN cI cJ mv mr mi mf mg) sz) := by
  refine mk_met (y := yX11_house) (bytes := cX11_house) (maxL := 6) (avs := [.ref (mr 0), .int z_place, .int z_people, .int z_oil]) (WS := (WZ_LhouseN cI cJ mv mr mi mf mg)) (Qf := fun A => va_Qi (fun (r : Int32) (u : (Nat → Int32) × (Nat → Nat → Int32) × (Nat → Nat → Int64)) => (0 ≤ (u.1 1).toInt) ∧ ((u.1 1).toInt ≤ 5) ∧ (0 ≤ (u.1 2).toInt) ∧ ((u.1 2).toInt ≤ 6) ∧ (0 ≤ (u.1 15).toInt) ∧ ((u.1 15).toInt ≤ 200) ∧ (0 ≤ (u.1 23).toInt) ∧ ((u.1 23).toInt ≤ 10) ∧ (HST (mi 23).toInt (u.1 23).toInt (mf 18) (u.2.1 18) z_place z_people.toInt z_oil.toInt) ∧ ((((u.1 23).toInt = (mi 23).toInt + 1 ∧ (r : Int32).toInt = (mi 23).toInt) ∨ ((u.1 23).toInt = (mi 23).toInt ∧ (r : Int32).toInt = -1)))) (fun u => QW D cI cJ A ((fun (u : (Nat → Int32) × (Nat → Nat → Int32) × (Nat → Nat → Int64)) => (WZ_LhouseN cI cJ mv mr u.1 u.2.1 u.2.2)) u)) A) (by decide) (Nat.le_of_ble_eq_true rfl) ?_
  intro p e s m below meth c A ls E hr hlk hnm hX hw1 hl2
  have hl3 : lv_has ls 6 [(0, .ref (mr 0)), (1, .int z_place), (2, .int z_people), (3, .int z_oil)] := hl2
  refine lv_aload_n (pc := 0) E.1 E.2.1 dX11_house_0 rfl (lv_at hl3 0 rfl) ?_
  refine x_get (pc := 1) (T := TX11) (N := 13) (ci := 11) (v := .ref (mr 3)) E hw1 inX11 0 0 q_606 rfl rfl (by decide) rfl rfl dX11_house_1 ?_
  refine x_get (pc := 4) (T := TX10) (N := 17) (ci := 10) (v := .ref (mr 17)) E hw1 inX10 1 1 q_463 rfl rfl (by decide) rfl rfl dX11_house_4 ?_
  refine lv_astore (pc := 7) (lv' := [(4, .ref (mr 17)), (0, .ref (mr 0)), (1, .int z_place), (2, .int z_people), (3, .int z_oil)]) E.1 E.2.1 dX11_house_7 hl3 (by decide) rfl (fun ls hl4 => ?_)
  refine lv_iload_n (pc := 9) E.1 E.2.1 dX11_house_9 rfl (lv_at hl4 3 rfl) ?_
  refine lv_iconst (pc := 10) (v := 1) E.1 E.2.1 dX11_house_10 (by decide +kernel) ?_
  refine lv_icmp_lt (pc := 11) (tgt := 40) E.1 E.2.1 dX11_house_11 (by decide) (fun c_5 => ?_) (fun c_5 => ?_)
  · skip
    have hc_5 := ltE (a := z_people.toInt) (b := 1) rfl (by decide +kernel) c_5
    refine lv_iconst (pc := 40) (v := (-1)) E.1 E.2.1 dX11_house_40 (by decide +kernel) ?_
    exact em_i (w1 := (fun (u : (Nat → Int32) × (Nat → Nat → Int32) × (Nat → Nat → Int64)) => (WZ_LhouseN cI cJ mv mr u.1 u.2.1 u.2.2))) E hr hlk (mi, mf, mg) hw1 ⟨h0.1, h0.2, h1.1, h1.2, h2.1, h2.2, h3.1, h3.2, (show HST (mi 23).toInt (mi 23).toInt (mf 18) (mf 18) z_place z_people.toInt z_oil.toInt from (Or.inr ⟨fun h => by obtain ⟨⟨h1, h2⟩, ⟨h3, h4⟩, h5, -⟩ := h; omega, rfl, rfl⟩)), (show (((mi 23).toInt = (mi 23).toInt + 1 ∧ ((-1) : Int32).toInt = (mi 23).toInt) ∨ ((mi 23).toInt = (mi 23).toInt ∧ ((-1) : Int32).toInt = -1)) from (Or.inr ⟨rfl, by decide +kernel⟩))⟩ (Nat.le_of_ble_eq_true rfl) (Nat.le_of_ble_eq_true rfl) dX11_house_41
  · skip
    have hc_5 := nltE (a := z_people.toInt) (b := 1) rfl (by decide +kernel) c_5
    refine lv_iload_n (pc := 14) E.1 E.2.1 dX11_house_14 rfl (lv_at hl4 3 rfl) ?_
    refine lv_bipush (pc := 15) (v := 20) E.1 E.2.1 dX11_house_15 (by decide +kernel) ?_
    refine lv_icmp_gt (pc := 17) (tgt := 40) E.1 E.2.1 dX11_house_17 (by decide) (fun c_6 => ?_) (fun c_6 => ?_)
    · skip
      have hc_6 := ltE (a := 20) (b := z_people.toInt) (by decide +kernel) rfl c_6
      refine lv_iconst (pc := 40) (v := (-1)) E.1 E.2.1 dX11_house_40 (by decide +kernel) ?_
      exact em_i (w1 := (fun (u : (Nat → Int32) × (Nat → Nat → Int32) × (Nat → Nat → Int64)) => (WZ_LhouseN cI cJ mv mr u.1 u.2.1 u.2.2))) E hr hlk (mi, mf, mg) hw1 ⟨h0.1, h0.2, h1.1, h1.2, h2.1, h2.2, h3.1, h3.2, (show HST (mi 23).toInt (mi 23).toInt (mf 18) (mf 18) z_place z_people.toInt z_oil.toInt from (Or.inr ⟨fun h => by obtain ⟨⟨h1, h2⟩, ⟨h3, h4⟩, h5, -⟩ := h; omega, rfl, rfl⟩)), (show (((mi 23).toInt = (mi 23).toInt + 1 ∧ ((-1) : Int32).toInt = (mi 23).toInt) ∨ ((mi 23).toInt = (mi 23).toInt ∧ ((-1) : Int32).toInt = -1)) from (Or.inr ⟨rfl, by decide +kernel⟩))⟩ (Nat.le_of_ble_eq_true rfl) (Nat.le_of_ble_eq_true rfl) dX11_house_41
    · skip
      have hc_6 := nltE (a := 20) (b := z_people.toInt) (by decide +kernel) rfl c_6
      refine lv_iload_n (pc := 20) E.1 E.2.1 dX11_house_20 rfl (lv_at hl4 4 rfl) ?_
      refine lv_if_lt (pc := 21) (tgt := 40) E.1 E.2.1 dX11_house_21 (by decide) (fun c_7 => ?_) (fun c_7 => ?_)
      · skip
        have hc_7 := ltE (a := z_oil.toInt) (b := 0) rfl (by decide +kernel) c_7
        refine lv_iconst (pc := 40) (v := (-1)) E.1 E.2.1 dX11_house_40 (by decide +kernel) ?_
        exact em_i (w1 := (fun (u : (Nat → Int32) × (Nat → Nat → Int32) × (Nat → Nat → Int64)) => (WZ_LhouseN cI cJ mv mr u.1 u.2.1 u.2.2))) E hr hlk (mi, mf, mg) hw1 ⟨h0.1, h0.2, h1.1, h1.2, h2.1, h2.2, h3.1, h3.2, (show HST (mi 23).toInt (mi 23).toInt (mf 18) (mf 18) z_place z_people.toInt z_oil.toInt from (Or.inr ⟨fun h => by obtain ⟨⟨h1, h2⟩, ⟨h3, h4⟩, h5, -⟩ := h; omega, rfl, rfl⟩)), (show (((mi 23).toInt = (mi 23).toInt + 1 ∧ ((-1) : Int32).toInt = (mi 23).toInt) ∨ ((mi 23).toInt = (mi 23).toInt ∧ ((-1) : Int32).toInt = -1)) from (Or.inr ⟨rfl, by decide +kernel⟩))⟩ (Nat.le_of_ble_eq_true rfl) (Nat.le_of_ble_eq_true rfl) dX11_house_41
      · skip
        have hc_7 := nltE (a := z_oil.toInt) (b := 0) rfl (by decide +kernel) c_7
        refine lv_iload_n (pc := 24) E.1 E.2.1 dX11_house_24 rfl (lv_at hl4 4 rfl) ?_
        refine lv_sipush (pc := 25) (v := 999) E.1 E.2.1 dX11_house_25 (by decide +kernel) ?_
        refine lv_icmp_gt (pc := 28) (tgt := 40) E.1 E.2.1 dX11_house_28 (by decide) (fun c_8 => ?_) (fun c_8 => ?_)
        · skip
          have hc_8 := ltE (a := 999) (b := z_oil.toInt) (by decide +kernel) rfl c_8
          refine lv_iconst (pc := 40) (v := (-1)) E.1 E.2.1 dX11_house_40 (by decide +kernel) ?_
          exact em_i (w1 := (fun (u : (Nat → Int32) × (Nat → Nat → Int32) × (Nat → Nat → Int64)) => (WZ_LhouseN cI cJ mv mr u.1 u.2.1 u.2.2))) E hr hlk (mi, mf, mg) hw1 ⟨h0.1, h0.2, h1.1, h1.2, h2.1, h2.2, h3.1, h3.2, (show HST (mi 23).toInt (mi 23).toInt (mf 18) (mf 18) z_place z_people.toInt z_oil.toInt from (Or.inr ⟨fun h => by obtain ⟨⟨h1, h2⟩, ⟨h3, h4⟩, h5, -⟩ := h; omega, rfl, rfl⟩)), (show (((mi 23).toInt = (mi 23).toInt + 1 ∧ ((-1) : Int32).toInt = (mi 23).toInt) ∨ ((mi 23).toInt = (mi 23).toInt ∧ ((-1) : Int32).toInt = -1)) from (Or.inr ⟨rfl, by decide +kernel⟩))⟩ (Nat.le_of_ble_eq_true rfl) (Nat.le_of_ble_eq_true rfl) dX11_house_41
        · skip
          have hc_8 := nltE (a := 999) (b := z_oil.toInt) (by decide +kernel) rfl c_8
          refine lv_aload (pc := 31) E.1 E.2.1 dX11_house_31 (lv_at hl4 0 rfl) ?_
          refine lv_iload_n (pc := 33) E.1 E.2.1 dX11_house_33 rfl (lv_at hl4 2 rfl) ?_
          refine ck_i (pc := 34) (ws' := (fun (u : Unit) => (WZ_LhouseN cI cJ mv mr mi mf mg))) [false, false, false, false, true, true, true, true, true, true, true, true] hw1 rfl (fun hC_ => (rn_V (As := [.int z_place]) (rest := []) E hw1 (t_isFreeK l D cI cJ _ (shf 17 mr) (shf 17 mi) (shf 17 mf) (shf 17 mg) z_place (vl [mv 24]) h3) (gdV q_662 q_663 q_664 q_154 q_665) hdV_X1_isFree ⟨rfl, rfl⟩ ⟨(Nat.le_of_ble_eq_true rfl), (Nat.le_of_ble_eq_true rfl)⟩ ⟨(Nat.le_of_ble_eq_true rfl), (Nat.le_of_ble_eq_true rfl)⟩ xT_b xT_at 4 1 rfl rfl rfl _ hC_ (nd_T _ 0) rfl hl4.1 rfl (Nat.le_of_ble_eq_true rfl) dX11_house_34)) rfl (fun _ => rfl) (fun _ => rfl) (fun r_10 u_9 H1 locs hp hw11 => ?_)
          generalize H1 = H at hw11 ⊢
          have hw12 : WD D A s.heap (WZ_LhouseN cI cJ mv mr mi mf mg) H locs := hw11
          obtain ⟨hp_13, hp_14, hp_15⟩ := hp
          have hp_13 : 0 ≤ r_10.toInt := hp_13
          have hp_14 : r_10.toInt ≤ 1 := hp_14
          have hp_15 : ((r_10 : Int32) = 1 ↔ FREE (mi 23).toInt (mf 18) (z_place : Int32).toInt) := hp_15
          refine lv_if_ne (pc := 37) (tgt := 42) E.1 E.2.1 dX11_house_37 (by decide) (fun c_16 => ?_) (fun c_16 => ?_)
          · skip
            have hc_16 := neE (a := r_10.toInt) (b := 0) rfl (by decide +kernel) c_16
            refine lv_aload (pc := 42) E.1 E.2.1 dX11_house_42 (lv_at hl4 0 rfl) ?_
            refine x_get (pc := 44) (T := TX1) (N := 9) (ci := 1) (v := .int (mi 23)) E hw12 inX1 4 5 q_282 rfl rfl (by decide) rfl rfl dX11_house_44 ?_
            refine lv_bipush (pc := 47) (v := 10) E.1 E.2.1 dX11_house_47 (by decide +kernel) ?_
            refine lv_icmp_lt (pc := 49) (tgt := 54) E.1 E.2.1 dX11_house_49 (by decide) (fun c_17 => ?_) (fun c_17 => ?_)
            · skip
              have hc_17 := ltE (a := (mi 23).toInt) (b := 10) rfl (by decide +kernel) c_17
              refine lv_aload (pc := 54) E.1 E.2.1 dX11_house_54 (lv_at hl4 0 rfl) ?_
              refine x_get (pc := 56) (T := TX1) (N := 9) (ci := 1) (v := .int (mi 23)) E hw12 inX1 4 5 q_282 rfl rfl (by decide) rfl rfl dX11_house_56 ?_
              refine lv_istore (pc := 59) (lv' := [(5, .int (mi 23)), (4, .ref (mr 17)), (0, .ref (mr 0)), (1, .int z_place), (2, .int z_people), (3, .int z_oil)]) E.1 E.2.1 dX11_house_59 hl4 (by decide) rfl (fun ls hl18 => ?_)
              refine lv_aload (pc := 61) E.1 E.2.1 dX11_house_61 (lv_at hl18 1 rfl) ?_
              refine x_get (pc := 63) (T := TX1) (N := 9) (ci := 1) (v := .ref (mr 18)) E hw12 inX1 4 0 q_267 rfl rfl (by decide) rfl rfl dX11_house_63 ?_
              refine lv_iload (pc := 66) E.1 E.2.1 dX11_house_66 (lv_at hl18 0 rfl) ?_
              refine lv_iload_n (pc := 68) E.1 E.2.1 dX11_house_68 rfl (lv_at hl18 3 rfl) ?_
              refine x_iastG (pc := 69) (f := (mf 18)) (wf := fun g => (WZ_LhouseN cI cJ mv mr mi (va_up mf 18 g) mg)) E hw12 5 rfl (inbE (a := (mi 23).toInt) rfl (by omega)) (fun _ => rfl) dX11_house_69 (fun g_19 H locs eg_19 hw20 => ?_)
              refine lv_aload (pc := 70) E.1 E.2.1 dX11_house_70 (lv_at hl18 1 rfl) ?_
              refine x_get (pc := 72) (T := TX1) (N := 9) (ci := 1) (v := .ref (mr 19)) E hw20 inX1 4 1 q_269 rfl rfl (by decide) rfl rfl dX11_house_72 ?_
              refine lv_iload (pc := 75) E.1 E.2.1 dX11_house_75 (lv_at hl18 0 rfl) ?_
              refine lv_iload_n (pc := 77) E.1 E.2.1 dX11_house_77 rfl (lv_at hl18 4 rfl) ?_
              refine x_iastG (pc := 78) (f := (mf 19)) (wf := fun g => (WZ_LhouseN cI cJ mv mr mi (va_up (va_up mf 18 g_19) 19 g) mg)) E hw20 6 rfl (inbE (a := (mi 23).toInt) rfl (by omega)) (fun _ => rfl) dX11_house_78 (fun g_21 H locs eg_21 hw22 => ?_)
              refine lv_aload_n (pc := 79) E.1 E.2.1 dX11_house_79 rfl (lv_at hl18 2 rfl) ?_
              refine x_get (pc := 80) (T := TX11) (N := 13) (ci := 11) (v := .ref (mr 3)) E hw22 inX11 0 0 q_606 rfl rfl (by decide) rfl rfl dX11_house_80 ?_
              refine x_get (pc := 83) (T := TX10) (N := 17) (ci := 10) (v := .ref (mr 8)) E hw22 inX10 1 0 q_458 rfl rfl (by decide) rfl rfl dX11_house_83 ?_
              refine x_get (pc := 86) (T := TX4) (N := 12) (ci := 4) (v := .ref (mr 9)) E hw22 inX4 2 0 q_192 rfl rfl (by decide) rfl rfl dX11_house_86 ?_
              refine lv_iload (pc := 89) E.1 E.2.1 dX11_house_89 (lv_at hl18 0 rfl) ?_
              refine lv_iload_n (pc := 91) E.1 E.2.1 dX11_house_91 rfl (lv_at hl18 5 rfl) ?_
              refine x_iastG (pc := 92) (f := (mf 9)) (wf := fun g => (WZ_LhouseN cI cJ mv mr mi (va_up (va_up (va_up mf 9 g) 18 g_19) 19 g_21) mg)) E hw22 3 rfl (inbE (a := (mi 23).toInt) rfl (by omega)) (fun _ => rfl) dX11_house_92 (fun g_23 H locs eg_23 hw24 => ?_)
              refine lv_aload (pc := 93) E.1 E.2.1 dX11_house_93 (lv_at hl18 1 rfl) ?_
              refine lv_iload (pc := 95) E.1 E.2.1 dX11_house_95 (lv_at hl18 0 rfl) ?_
              refine lv_iconst (pc := 97) (v := 1) E.1 E.2.1 dX11_house_97 (by decide +kernel) ?_
              refine lv_iadd (pc := 98) E.1 E.2.1 dX11_house_98 ?_
              refine lv_topi (fun v_25 ev_25 => ?_)
              have hv_25 : v_25.toInt = (mi 23).toInt + 1 := by rw [ev_25]; exact addE rfl (by decide +kernel) (by omega)
              refine x_put (pc := 99) (T := TX1) (N := 9) (ci := 1) (ws' := (WZ_LhouseN cI cJ mv mr (upd mi 23 v_25) (va_up (va_up (va_up mf 9 g_23) 18 g_19) 19 g_21) mg)) E hw24 inX1 tyX1_ok nmX1 4 5 q_282 rfl rfl (by decide) rfl rfl rfl rfl (Nat.le_of_ble_eq_true rfl) rfl dX11_house_99 (fun H locs hw26 => ?_)
              refine lv_iload (pc := 102) E.1 E.2.1 dX11_house_102 (lv_at hl18 0 rfl) ?_
              refine lv_if_ne (pc := 104) (tgt := 118) E.1 E.2.1 dX11_house_104 (by decide) (fun c_27 => ?_) (fun c_27 => ?_)
              · skip
                have hc_27 := neE (a := (mi 23).toInt) (b := 0) rfl (by decide +kernel) c_27
                refine lv_aload_n (pc := 118) E.1 E.2.1 dX11_house_118 rfl (lv_at hl18 2 rfl) ?_
                refine ck_v (pc := 119) (ws' := (fun (u : Int32 × Int32) => (WZ_LhouseN cI cJ mv mr (upd (upd (upd mi 1 u.1) 2 u.2) 23 v_25) (va_up (va_up (va_up mf 9 g_23) 18 g_19) 19 g_21) mg))) [true, false, false, false, false, false, false, false, false, false, false, false] hw26 rfl (fun hC_ => (rn_V (As := []) (rest := []) E hw26 (t_forgetNightsN l D cI cJ _ mr (upd mi 23 v_25) (va_up (va_up (va_up mf 9 g_23) 18 g_19) 19 g_21) mg (vl [.ref (mr 3), mv 0, mv 1, mv 2, mv 3, mv 4, mv 5, mv 6, mv 7, mv 8])) (gdV q_650 q_652 q_0 q_151 q_653) hdV_X11_forgetNights ⟨rfl, rfl⟩ ⟨(Nat.le_of_ble_eq_true rfl), (Nat.le_of_ble_eq_true rfl)⟩ ⟨(Nat.le_of_ble_eq_true rfl), (Nat.le_of_ble_eq_true rfl)⟩ xT_b xT_at 0 11 rfl rfl rfl _ hC_ (nd_T _ 0) rfl hl18.1 rfl (Nat.le_of_ble_eq_true rfl) dX11_house_119)) rfl (fun _ => rfl) (fun _ => rfl) (fun u_28 H1 locs hp hw30 => ?_)
                obtain ⟨noldest_31, nundoable_32⟩ := u_28
                generalize H1 = H at hw30 ⊢
                have hw33 : WD D A s.heap (WZ_LhouseN cI cJ mv mr (upd (upd (upd mi 1 noldest_31) 2 nundoable_32) 23 v_25) (va_up (va_up (va_up mf 9 g_23) 18 g_19) 19 g_21) mg) H locs := hw30
                obtain ⟨hp_34, hp_35⟩ := hp
                have hp_34 : noldest_31.toInt = 0 := hp_34
                have hp_35 : nundoable_32.toInt = 0 := hp_35
                refine lv_iload (pc := 122) E.1 E.2.1 dX11_house_122 (lv_at hl18 0 rfl) ?_
                exact em_i (w1 := (fun (u : (Nat → Int32) × (Nat → Nat → Int32) × (Nat → Nat → Int64)) => (WZ_LhouseN cI cJ mv mr u.1 u.2.1 u.2.2))) E hr hlk ((upd (upd (upd mi 1 noldest_31) 2 nundoable_32) 23 v_25), (va_up (va_up (va_up mf 9 g_23) 18 g_19) 19 g_21), mg) hw33 ⟨(by show 0 ≤ noldest_31.toInt; omega), (by show noldest_31.toInt ≤ 5; omega), (by show 0 ≤ nundoable_32.toInt; omega), (by show nundoable_32.toInt ≤ 6; omega), h2.1, h2.2, (by show 0 ≤ v_25.toInt; omega), (by show v_25.toInt ≤ 10; omega), (show HST (mi 23).toInt v_25.toInt (mf 18) g_19 z_place z_people.toInt z_oil.toInt from (Or.inl ⟨⟨⟨by omega, by omega⟩, ⟨by omega, by omega⟩, by omega, hp_15.mp (Int32.toInt_inj.mp (by have k1 : (1 : Int32).toInt = 1 := (by decide +kernel); omega))⟩, by omega, hst_w eg_19 (by omega) rfl⟩)), (show ((v_25.toInt = (mi 23).toInt + 1 ∧ ((mi 23) : Int32).toInt = (mi 23).toInt) ∨ (v_25.toInt = (mi 23).toInt ∧ ((mi 23) : Int32).toInt = -1)) from (Or.inl ⟨by omega, by omega⟩))⟩ (Nat.le_of_ble_eq_true rfl) (Nat.le_of_ble_eq_true rfl) dX11_house_124
              · skip
                have hc_27 := eqE (a := (mi 23).toInt) (b := 0) rfl (by decide +kernel) c_27
                refine lv_aload_n (pc := 107) E.1 E.2.1 dX11_house_107 rfl (lv_at hl18 2 rfl) ?_
                refine x_get (pc := 108) (T := TX11) (N := 13) (ci := 11) (v := .ref (mr 3)) E hw26 inX11 0 0 q_606 rfl rfl (by decide) rfl rfl dX11_house_108 ?_
                refine x_get (pc := 111) (T := TX10) (N := 17) (ci := 10) (v := .ref (mr 8)) E hw26 inX10 1 0 q_458 rfl rfl (by decide) rfl rfl dX11_house_111 ?_
                refine lv_iconst (pc := 114) (v := 0) E.1 E.2.1 dX11_house_114 (by decide +kernel) ?_
                refine x_put (pc := 115) (T := TX4) (N := 12) (ci := 4) (ws' := (WZ_LhouseN cI cJ mv mr (upd (upd mi 11 0) 23 v_25) (va_up (va_up (va_up mf 9 g_23) 18 g_19) 19 g_21) mg)) E hw26 inX4 tyX4_ok nmX4 2 6 q_216 rfl rfl (by decide) rfl rfl rfl rfl (Nat.le_of_ble_eq_true rfl) rfl dX11_house_115 (fun H locs hw36 => ?_)
                refine lv_aload_n (pc := 118) E.1 E.2.1 dX11_house_118 rfl (lv_at hl18 2 rfl) ?_
                refine ck_v (pc := 119) (ws' := (fun (u : Int32 × Int32) => (WZ_LhouseN cI cJ mv mr (upd (upd (upd (upd mi 1 u.1) 2 u.2) 11 0) 23 v_25) (va_up (va_up (va_up mf 9 g_23) 18 g_19) 19 g_21) mg))) [true, false, false, false, false, false, false, false, false, false, false, false] hw36 rfl (fun hC_ => (rn_V (As := []) (rest := []) E hw36 (t_forgetNightsN l D cI cJ _ mr (upd (upd mi 11 0) 23 v_25) (va_up (va_up (va_up mf 9 g_23) 18 g_19) 19 g_21) mg (vl [.ref (mr 3), mv 0, mv 1, mv 2, mv 3, mv 4, mv 5, mv 6, mv 7, mv 8])) (gdV q_650 q_652 q_0 q_151 q_653) hdV_X11_forgetNights ⟨rfl, rfl⟩ ⟨(Nat.le_of_ble_eq_true rfl), (Nat.le_of_ble_eq_true rfl)⟩ ⟨(Nat.le_of_ble_eq_true rfl), (Nat.le_of_ble_eq_true rfl)⟩ xT_b xT_at 0 11 rfl rfl rfl _ hC_ (nd_T _ 0) rfl hl18.1 rfl (Nat.le_of_ble_eq_true rfl) dX11_house_119)) rfl (fun _ => rfl) (fun _ => rfl) (fun u_37 H1 locs hp hw39 => ?_)
                obtain ⟨noldest_40, nundoable_41⟩ := u_37
                generalize H1 = H at hw39 ⊢
                have hw42 : WD D A s.heap (WZ_LhouseN cI cJ mv mr (upd (upd (upd (upd mi 1 noldest_40) 2 nundoable_41) 11 0) 23 v_25) (va_up (va_up (va_up mf 9 g_23) 18 g_19) 19 g_21) mg) H locs := hw39
                obtain ⟨hp_43, hp_44⟩ := hp
                have hp_43 : noldest_40.toInt = 0 := hp_43
                have hp_44 : nundoable_41.toInt = 0 := hp_44
                refine lv_iload (pc := 122) E.1 E.2.1 dX11_house_122 (lv_at hl18 0 rfl) ?_
                exact em_i (w1 := (fun (u : (Nat → Int32) × (Nat → Nat → Int32) × (Nat → Nat → Int64)) => (WZ_LhouseN cI cJ mv mr u.1 u.2.1 u.2.2))) E hr hlk ((upd (upd (upd (upd mi 1 noldest_40) 2 nundoable_41) 11 0) 23 v_25), (va_up (va_up (va_up mf 9 g_23) 18 g_19) 19 g_21), mg) hw42 ⟨(by show 0 ≤ noldest_40.toInt; have k_0 : (0 : Int32).toInt = 0 := (by decide +kernel); omega), (by show noldest_40.toInt ≤ 5; have k_0 : (0 : Int32).toInt = 0 := (by decide +kernel); omega), (by show 0 ≤ nundoable_41.toInt; have k_0 : (0 : Int32).toInt = 0 := (by decide +kernel); omega), (by show nundoable_41.toInt ≤ 6; have k_0 : (0 : Int32).toInt = 0 := (by decide +kernel); omega), h2.1, h2.2, (by show 0 ≤ v_25.toInt; have k_0 : (0 : Int32).toInt = 0 := (by decide +kernel); omega), (by show v_25.toInt ≤ 10; have k_0 : (0 : Int32).toInt = 0 := (by decide +kernel); omega), (show HST (mi 23).toInt v_25.toInt (mf 18) g_19 z_place z_people.toInt z_oil.toInt from (Or.inl ⟨⟨⟨by omega, by omega⟩, ⟨by omega, by omega⟩, by omega, hp_15.mp (Int32.toInt_inj.mp (by have k1 : (1 : Int32).toInt = 1 := (by decide +kernel); omega))⟩, by omega, hst_w eg_19 (by omega) rfl⟩)), (show ((v_25.toInt = (mi 23).toInt + 1 ∧ ((mi 23) : Int32).toInt = (mi 23).toInt) ∨ (v_25.toInt = (mi 23).toInt ∧ ((mi 23) : Int32).toInt = -1)) from (Or.inl ⟨by omega, by omega⟩))⟩ (Nat.le_of_ble_eq_true rfl) (Nat.le_of_ble_eq_true rfl) dX11_house_124
            · skip
              have hc_17 := nltE (a := (mi 23).toInt) (b := 10) rfl (by decide +kernel) c_17
              refine lv_iconst (pc := 52) (v := (-1)) E.1 E.2.1 dX11_house_52 (by decide +kernel) ?_
              exact em_i (w1 := (fun (u : (Nat → Int32) × (Nat → Nat → Int32) × (Nat → Nat → Int64)) => (WZ_LhouseN cI cJ mv mr u.1 u.2.1 u.2.2))) E hr hlk (mi, mf, mg) hw12 ⟨h0.1, h0.2, h1.1, h1.2, h2.1, h2.2, h3.1, h3.2, (show HST (mi 23).toInt (mi 23).toInt (mf 18) (mf 18) z_place z_people.toInt z_oil.toInt from (Or.inr ⟨fun h => by obtain ⟨⟨h1, h2⟩, ⟨h3, h4⟩, h5, -⟩ := h; omega, rfl, rfl⟩)), (show (((mi 23).toInt = (mi 23).toInt + 1 ∧ ((-1) : Int32).toInt = (mi 23).toInt) ∨ ((mi 23).toInt = (mi 23).toInt ∧ ((-1) : Int32).toInt = -1)) from (Or.inr ⟨rfl, by decide +kernel⟩))⟩ (Nat.le_of_ble_eq_true rfl) (Nat.le_of_ble_eq_true rfl) dX11_house_53
          · skip
            have hc_16 := eqE (a := r_10.toInt) (b := 0) rfl (by decide +kernel) c_16
            refine lv_iconst (pc := 40) (v := (-1)) E.1 E.2.1 dX11_house_40 (by decide +kernel) ?_
            exact em_i (w1 := (fun (u : (Nat → Int32) × (Nat → Nat → Int32) × (Nat → Nat → Int64)) => (WZ_LhouseN cI cJ mv mr u.1 u.2.1 u.2.2))) E hr hlk (mi, mf, mg) hw12 ⟨h0.1, h0.2, h1.1, h1.2, h2.1, h2.2, h3.1, h3.2, (show HST (mi 23).toInt (mi 23).toInt (mf 18) (mf 18) z_place z_people.toInt z_oil.toInt from (Or.inr ⟨fun h => by have q := congrArg Int32.toInt (hp_15.mpr h.2.2.2); have k1 : (1 : Int32).toInt = 1 := (by decide +kernel); omega, rfl, rfl⟩)), (show (((mi 23).toInt = (mi 23).toInt + 1 ∧ ((-1) : Int32).toInt = (mi 23).toInt) ∨ ((mi 23).toInt = (mi 23).toInt ∧ ((-1) : Int32).toInt = -1)) from (Or.inr ⟨rfl, by decide +kernel⟩))⟩ (Nat.le_of_ble_eq_true rfl) (Nat.le_of_ble_eq_true rfl) dX11_house_41
