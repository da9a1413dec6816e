set_option maxHeartbeats 4000000 in
set_option maxRecDepth 100000 in
theorem t_isFreeK (l : Launch) (D : va_G) (cI cJ : ClassId) (sz : Nat) (mr : Nat → Nat) (mi : Nat → Int32) (mf : Nat → Nat → Int32) (mg : Nat → Nat → Int64) (z_where : Int32) (mv : Nat → Value) (h0 : 0 ≤ (mi 6).toInt ∧ (mi 6).toInt ≤ 10) : Met l yX1_isFree (Cond.code yX1_isFree cX1_isFree 3 (some .boolean) :: GW) ({ frames := 1, cells := 0, slots := 0, locals := 40 } : Room) (va_Pc [.ref (mr 0), .int z_where] (PW D cI cJ sz (WZ_HousesO cI cJ mv mr mi mf mg) xT)) (va_Qi (fun (r : Int32) (u : Unit) => (0 ≤ r.toInt) ∧ (r.toInt ≤ 1) ∧ (((r : Int32) = 1 ↔ FREE (mi 6).toInt (mf 1) (z_where : Int32).toInt))) (fun u => QW D cI cJ (va_A (WZ_HousesO cI cJ mv mr mi mf mg) sz) ((fun (u : Unit) => (WZ_HousesO cI cJ mv mr mi mf mg)) u)) (va_A (WZ_HousesO cI cJ mv mr mi mf mg) sz)) 0 0 (va_A (WZ_HousesO cI cJ mv mr mi mf mg) sz) := by
  refine mk_met (y := yX1_isFree) (bytes := cX1_isFree) (maxL := 3) (avs := [.ref (mr 0), .int z_where]) (WS := (WZ_HousesO cI cJ mv mr mi mf mg)) (Qf := fun A => va_Qi (fun (r : Int32) (u : Unit) => (0 ≤ r.toInt) ∧ (r.toInt ≤ 1) ∧ (((r : Int32) = 1 ↔ FREE (mi 6).toInt (mf 1) (z_where : Int32).toInt))) (fun u => QW D cI cJ A ((fun (u : Unit) => (WZ_HousesO cI cJ mv mr mi mf mg)) u)) A) (by decide) (Nat.le_of_ble_eq_true rfl) ?_
  intro p e s m below meth c A ls E hr hlk hnm hX hw1 hl2
  have hl3 : lv_has ls 3 [(0, .ref (mr 0)), (1, .int z_where)] := hl2
  refine lv_iload_n (pc := 0) E.1 E.2.1 dX1_isFree_0 rfl (lv_at hl3 1 rfl) ?_
  refine lv_if_lt (pc := 1) (tgt := 10) E.1 E.2.1 dX1_isFree_1 (by decide) (fun c_4 => ?_) (fun c_4 => ?_)
  · skip
    have hc_4 := ltE (a := z_where.toInt) (b := 0) rfl (by decide +kernel) c_4
    refine lv_iconst (pc := 10) (v := 0) E.1 E.2.1 dX1_isFree_10 (by decide +kernel) ?_
    exact em_z (w1 := (fun (u : Unit) => (WZ_HousesO cI cJ mv mr mi mf mg))) E hr hlk () hw1 ⟨(by show 0 ≤ (0 : Int32).toInt; have k_0 : (0 : Int32).toInt = 0 := (by decide +kernel); omega), (by show (0 : Int32).toInt ≤ 1; have k_0 : (0 : Int32).toInt = 0 := (by decide +kernel); omega), (show ((0 : Int32) = 1 ↔ FREE (mi 6).toInt (mf 1) (z_where : Int32).toInt) from ⟨fun h => absurd h (by decide +kernel), fun h => absurd h.1 (by have h2 := h.2.1; omega)⟩)⟩ (by decide +kernel) (Nat.le_of_ble_eq_true rfl) (Nat.le_of_ble_eq_true rfl) dX1_isFree_11
  · skip
    have hc_4 := nltE (a := z_where.toInt) (b := 0) rfl (by decide +kernel) c_4
    refine lv_iload_n (pc := 4) E.1 E.2.1 dX1_isFree_4 rfl (lv_at hl3 1 rfl) ?_
    refine lv_bipush (pc := 5) (v := 63) E.1 E.2.1 dX1_isFree_5 (by decide +kernel) ?_
    refine lv_icmp_le (pc := 7) (tgt := 12) E.1 E.2.1 dX1_isFree_7 (by decide) (fun c_5 => ?_) (fun c_5 => ?_)
    · skip
      have hc_5 := leE (a := z_where.toInt) (b := 63) rfl (by decide +kernel) c_5
      refine lv_iconst (pc := 12) (v := 0) E.1 E.2.1 dX1_isFree_12 (by decide +kernel) ?_
      refine lv_istore_n (pc := 13) (lv' := [(2, .int 0), (0, .ref (mr 0)), (1, .int z_where)]) E.1 E.2.1 dX1_isFree_13 rfl hl3 (by decide) rfl (fun ls hl6 => ?_)
      have loop_7 : ∀ (k : Nat) (x_8 : Int32) (H : Heap) (locs : List Loc) (ls : Array Slot), (0 ≤ x_8.toInt) ∧ (x_8.toInt ≤ (mi 6).toInt) ∧ (∀ j : Nat, (j : Int) < x_8.toInt → ((mf 1) j).toInt ≠ z_where.toInt) → (mi 6).toInt - x_8.toInt < (k : Int) → WD D A s.heap (WZ_HousesO cI cJ mv mr mi mf mg) H locs → lv_has ls 3 [(2, .int x_8), (0, .ref (mr 0)), (1, .int z_where)] → W p l e ({ frames := 1, cells := 0, slots := 0, locals := 40 } : Room) s m ([.ref (mr 0), .int z_where] : List Value).toArray below meth c H locs 0 0 (MQ below (va_Qi (fun (r : Int32) (u : Unit) => (0 ≤ r.toInt) ∧ (r.toInt ≤ 1) ∧ (((r : Int32) = 1 ↔ FREE (mi 6).toInt (mf 1) (z_where : Int32).toInt))) (fun u => QW D cI cJ A ((fun (u : Unit) => (WZ_HousesO cI cJ mv mr mi mf mg)) u)) A) ([.ref (mr 0), .int z_where] : List Value).toArray s 0 0 A) (F0 m 14 ls []) := by
        intro k
        induction k with
        | zero =>
          intro x_8 _ _ _ hinv hm
          obtain ⟨hi_8_0, hi_8_1, hi_8_2⟩ := hinv
          exact absurd hm (by omega)
        | succ k ih_9 =>
          intro x_8 H locs ls hinv hm hw10 hl11
          obtain ⟨hi_8_0, hi_8_1, hi_8_2⟩ := hinv
          refine lv_iload_n (pc := 14) E.1 E.2.1 dX1_isFree_14 rfl (lv_at hl11 0 rfl) ?_
          refine lv_aload_n (pc := 15) E.1 E.2.1 dX1_isFree_15 rfl (lv_at hl11 1 rfl) ?_
          refine x_get (pc := 16) (T := TX1) (N := 9) (ci := 1) (v := .int (mi 6)) E hw10 inX1 0 5 q_281 rfl rfl (by decide) rfl rfl dX1_isFree_16 ?_
          refine lv_icmp_ge (pc := 19) (tgt := 40) E.1 E.2.1 dX1_isFree_19 (by decide) (fun c_12 => ?_) (fun c_12 => ?_)
          · skip
            have hc_12 := leE (a := (mi 6).toInt) (b := x_8.toInt) rfl rfl c_12
            refine lv_iconst (pc := 40) (v := 1) E.1 E.2.1 dX1_isFree_40 (by decide +kernel) ?_
            exact em_z (w1 := (fun (u : Unit) => (WZ_HousesO cI cJ mv mr mi mf mg))) E hr hlk () hw10 ⟨(by show 0 ≤ (1 : Int32).toInt; have k_0 : (1 : Int32).toInt = 1 := (by decide +kernel); omega), (by show (1 : Int32).toInt ≤ 1; have k_0 : (1 : Int32).toInt = 1 := (by decide +kernel); omega), (show ((1 : Int32) = 1 ↔ FREE (mi 6).toInt (mf 1) (z_where : Int32).toInt) from ⟨fun _ => ⟨by omega, by omega, fun j hj => hi_8_2 j (by omega)⟩, fun _ => rfl⟩)⟩ (by decide +kernel) (Nat.le_of_ble_eq_true rfl) (Nat.le_of_ble_eq_true rfl) dX1_isFree_41
          · skip
            have hc_12 := nleE (a := (mi 6).toInt) (b := x_8.toInt) rfl rfl c_12
            refine lv_aload_n (pc := 22) E.1 E.2.1 dX1_isFree_22 rfl (lv_at hl11 1 rfl) ?_
            refine x_get (pc := 23) (T := TX1) (N := 9) (ci := 1) (v := .ref (mr 1)) E hw10 inX1 0 0 q_266 rfl rfl (by decide) rfl rfl dX1_isFree_23 ?_
            refine lv_iload_n (pc := 26) E.1 E.2.1 dX1_isFree_26 rfl (lv_at hl11 0 rfl) ?_
            refine x_iald (pc := 27) (f := (mf 1)) E hw10 1 rfl (inbE (a := x_8.toInt) rfl (by omega)) dX1_isFree_27 ?_
            refine lv_topi (fun v_13 ev_13 => ?_)
            refine lv_iload_n (pc := 28) E.1 E.2.1 dX1_isFree_28 rfl (lv_at hl11 2 rfl) ?_
            refine lv_icmp_ne (pc := 29) (tgt := 34) E.1 E.2.1 dX1_isFree_29 (by decide) (fun c_14 => ?_) (fun c_14 => ?_)
            · skip
              have hc_14 := neE (a := v_13.toInt) (b := z_where.toInt) rfl rfl c_14
              obtain ⟨v_15, ev_15⟩ : ∃ z : Int32, x_8 + Int32.ofInt (1) = z := ⟨_, rfl⟩
              have hv_15 : v_15.toInt = x_8.toInt + (1) := by rw [← ev_15]; exact incE rfl (by decide) (by omega)
              refine lv_iinc (pc := 34) (v := v_15) (lv' := [(2, .int v_15), (0, .ref (mr 0)), (1, .int z_where)]) E.1 E.2.1 dX1_isFree_34 hl11 (k := 0) rfl ev_15 (by decide) rfl (fun ls hl16 => ?_)
              refine lv_goto (pc := 37) (tgt := 14) E.1 E.2.1 dX1_isFree_37 (by decide) ?_
              exact ih_9 v_15 _ _ _ ⟨(by show 0 ≤ v_15.toInt; omega), (by show v_15.toInt ≤ (mi 6).toInt; omega), (free_step hi_8_2 ev_13 (by omega) rfl (by omega) (m := v_15.toInt) (by omega))⟩ (by omega) hw10 (lv_sub hl16 [0, 1, 2] rfl)
            · skip
              have hc_14 := eqE (a := v_13.toInt) (b := z_where.toInt) rfl rfl c_14
              refine lv_iconst (pc := 32) (v := 0) E.1 E.2.1 dX1_isFree_32 (by decide +kernel) ?_
              exact em_z (w1 := (fun (u : Unit) => (WZ_HousesO cI cJ mv mr mi mf mg))) E hr hlk () hw10 ⟨(by show 0 ≤ (0 : Int32).toInt; have k_0 : (0 : Int32).toInt = 0 := (by decide +kernel); omega), (by show (0 : Int32).toInt ≤ 1; have k_0 : (0 : Int32).toInt = 0 := (by decide +kernel); omega), (show ((0 : Int32) = 1 ↔ FREE (mi 6).toInt (mf 1) (z_where : Int32).toInt) from ⟨fun h => absurd h (by decide +kernel), fun h => (free_hit h ev_13 (by omega) (by omega) (by omega)).elim⟩)⟩ (by decide +kernel) (Nat.le_of_ble_eq_true rfl) (Nat.le_of_ble_eq_true rfl) dX1_isFree_33
      exact loop_7 (Int.toNat ((mi 6).toInt - 0) + 1) 0 _ _ _ ⟨(by show 0 ≤ (0 : Int32).toInt; have k_0 : (0 : Int32).toInt = 0 := (by decide +kernel); omega), (by show (0 : Int32).toInt ≤ (mi 6).toInt; have k_0 : (0 : Int32).toInt = 0 := (by decide +kernel); omega), (fun j hj => absurd hj (by have k0 : (0 : Int32).toInt = 0 := (by decide +kernel); omega))⟩ (by have k_0 : (0 : Int32).toInt = 0 := (by decide +kernel); omega) hw1 (lv_sub hl6 [0, 1, 2] rfl)
    · skip
      have hc_5 := nleE (a := z_where.toInt) (b := 63) rfl (by decide +kernel) c_5
      refine lv_iconst (pc := 10) (v := 0) E.1 E.2.1 dX1_isFree_10 (by decide +kernel) ?_
      exact em_z (w1 := (fun (u : Unit) => (WZ_HousesO cI cJ mv mr mi mf mg))) E hr hlk () hw1 ⟨(by show 0 ≤ (0 : Int32).toInt; have k_0 : (0 : Int32).toInt = 0 := (by decide +kernel); omega), (by show (0 : Int32).toInt ≤ 1; have k_0 : (0 : Int32).toInt = 0 := (by decide +kernel); omega), (show ((0 : Int32) = 1 ↔ FREE (mi 6).toInt (mf 1) (z_where : Int32).toInt) from ⟨fun h => absurd h (by decide +kernel), fun h => absurd h.1 (by have h2 := h.2.1; omega)⟩)⟩ (by decide +kernel) (Nat.le_of_ble_eq_true rfl) (Nat.le_of_ble_eq_true rfl) dX1_isFree_11
set_option maxHeartbeats 4000000 in
set_option maxRecDepth 100000 in
theorem t_allK (l : Launch) (D : va_G) (cI cJ : ClassId) (sz : Nat) (mr : Nat → Nat) (mi : Nat → Int32) (mf : Nat → Nat → Int32) (mg : Nat → Nat → Int64)  (mv : Nat → Value) (h0 : 0 ≤ (mi 6).toInt ∧ (mi 6).toInt ≤ 10) : Met l yX1_all (Cond.code yX1_all cX1_all 1 (some .int) :: GW) ({ frames := 1, cells := 0, slots := 0, locals := 40 } : Room) (va_Pc [.ref (mr 0)] (PW D cI cJ sz (WZ_HousesO cI cJ mv mr mi mf mg) xT)) (va_Qi (fun (r : Int32) (u : Unit) => (0 ≤ r.toInt) ∧ (r.toInt ≤ 1023) ∧ ((r : Int32).toInt = sh1 (mi 6) - 1)) (fun u => QW D cI cJ (va_A (WZ_HousesO cI cJ mv mr mi mf mg) sz) ((fun (u : Unit) => (WZ_HousesO cI cJ mv mr mi mf mg)) u)) (va_A (WZ_HousesO cI cJ mv mr mi mf mg) sz)) 0 0 (va_A (WZ_HousesO cI cJ mv mr mi mf mg) sz) := by
  refine mk_met (y := yX1_all) (bytes := cX1_all) (maxL := 1) (avs := [.ref (mr 0)]) (WS := (WZ_HousesO cI cJ mv mr mi mf mg)) (Qf := fun A => va_Qi (fun (r : Int32) (u : Unit) => (0 ≤ r.toInt) ∧ (r.toInt ≤ 1023) ∧ ((r : Int32).toInt = sh1 (mi 6) - 1)) (fun u => QW D cI cJ A ((fun (u : Unit) => (WZ_HousesO cI cJ mv mr mi mf mg)) u)) A) (by decide) (Nat.le_of_ble_eq_true rfl) ?_
  intro p e s m below meth c A ls E hr hlk hnm hX hw1 hl2
  have hl3 : lv_has ls 1 [(0, .ref (mr 0))] := hl2
  refine lv_iconst (pc := 0) (v := 1) E.1 E.2.1 dX1_all_0 (by decide +kernel) ?_
  refine lv_aload_n (pc := 1) E.1 E.2.1 dX1_all_1 rfl (lv_at hl3 0 rfl) ?_
  refine x_get (pc := 2) (T := TX1) (N := 9) (ci := 1) (v := .int (mi 6)) E hw1 inX1 0 5 q_281 rfl rfl (by decide) rfl rfl dX1_all_2 ?_
  refine lv_ishl (pc := 5) E.1 E.2.1 dX1_all_5 ?_
  refine lv_topi (fun v_4 ev_4 => ?_)
  have hb1v_4 : 1 ≤ v_4.toInt ∧ v_4.toInt ≤ 1024 := by rw [ev_4]; exact shl10 (by omega)
  refine lv_iconst (pc := 6) (v := 1) E.1 E.2.1 dX1_all_6 (by decide +kernel) ?_
  refine lv_isub (pc := 7) E.1 E.2.1 dX1_all_7 ?_
  refine lv_topi (fun v_5 ev_5 => ?_)
  have hv_5 : v_5.toInt = v_4.toInt - 1 := by rw [ev_5]; exact subE rfl (by decide +kernel) (by omega)
  exact em_i (w1 := (fun (u : Unit) => (WZ_HousesO cI cJ mv mr mi mf mg))) E hr hlk () hw1 ⟨(by show 0 ≤ v_5.toInt; omega), (by show v_5.toInt ≤ 1023; omega), (show (v_5 : Int32).toInt = sh1 (mi 6) - 1 from (by have q := all_sh ev_4; omega))⟩ (Nat.le_of_ble_eq_true rfl) (Nat.le_of_ble_eq_true rfl) dX1_all_8
set_option maxHeartbeats 4000000 in
set_option maxRecDepth 100000 in
theorem t_highestBidK (l : Launch) (D : va_G) (cI cJ : ClassId) (sz : Nat) (mr : Nat → Nat) (mi : Nat → Int32) (mf : Nat → Nat → Int32) (mg : Nat → Nat → Int64) (z_without : Int32) (mv : Nat → Value) (h0 : 0 ≤ (mi 6).toInt ∧ (mi 6).toInt ≤ 10) : Met l yX1_highestBid (Cond.code yX1_highestBid cX1_highestBid 5 (some .int) :: GW) ({ frames := 1, cells := 0, slots := 0, locals := 40 } : Room) (va_Pc [.ref (mr 0), .int z_without] (PW D cI cJ sz (WZ_HousesO cI cJ mv mr mi mf mg) xT)) (va_Qi (fun (r : Int32) (u : Unit) => ((-1) ≤ r.toInt) ∧ (r.toInt + 1 ≤ (mi 6).toInt) ∧ ((r : Int32).toInt = hgN (mf 3) (z_without : Int32).toInt ((mi 6).toInt).toNat)) (fun u => QW D cI cJ (va_A (WZ_HousesO cI cJ mv mr mi mf mg) sz) ((fun (u : Unit) => (WZ_HousesO cI cJ mv mr mi mf mg)) u)) (va_A (WZ_HousesO cI cJ mv mr mi mf mg) sz)) 0 0 (va_A (WZ_HousesO cI cJ mv mr mi mf mg) sz) := by
  refine mk_met (y := yX1_highestBid) (bytes := cX1_highestBid) (maxL := 5) (avs := [.ref (mr 0), .int z_without]) (WS := (WZ_HousesO cI cJ mv mr mi mf mg)) (Qf := fun A => va_Qi (fun (r : Int32) (u : Unit) => ((-1) ≤ r.toInt) ∧ (r.toInt + 1 ≤ (mi 6).toInt) ∧ ((r : Int32).toInt = hgN (mf 3) (z_without : Int32).toInt ((mi 6).toInt).toNat)) (fun u => QW D cI cJ A ((fun (u : Unit) => (WZ_HousesO cI cJ mv mr mi mf mg)) u)) A) (by decide) (Nat.le_of_ble_eq_true rfl) ?_
  intro p e s m below meth c A ls E hr hlk hnm hX hw1 hl2
  have hl3 : lv_has ls 5 [(0, .ref (mr 0)), (1, .int z_without)] := hl2
  refine lv_iconst (pc := 0) (v := (-1)) E.1 E.2.1 dX1_highestBid_0 (by decide +kernel) ?_
  refine lv_istore_n (pc := 1) (lv' := [(2, .int (-1)), (0, .ref (mr 0)), (1, .int z_without)]) E.1 E.2.1 dX1_highestBid_1 rfl hl3 (by decide) rfl (fun ls hl4 => ?_)
  refine lv_iconst (pc := 2) (v := 0) E.1 E.2.1 dX1_highestBid_2 (by decide +kernel) ?_
  refine lv_istore_n (pc := 3) (lv' := [(3, .int 0), (2, .int (-1)), (0, .ref (mr 0)), (1, .int z_without)]) E.1 E.2.1 dX1_highestBid_3 rfl hl4 (by decide) rfl (fun ls hl5 => ?_)
  have loop_6 : ∀ (k : Nat) (x_7 : Int32) (x_8 : Int32) (H : Heap) (locs : List Loc) (ls : Array Slot), (0 ≤ x_7.toInt) ∧ (x_7.toInt ≤ (mi 6).toInt) ∧ ((-1) ≤ x_8.toInt) ∧ (x_8.toInt + 1 ≤ (mi 6).toInt) ∧ (x_8.toInt = hgN (mf 3) z_without.toInt (x_7.toInt).toNat) → (mi 6).toInt - x_7.toInt < (k : Int) → WD D A s.heap (WZ_HousesO cI cJ mv mr mi mf mg) H locs → lv_has ls 5 [(3, .int x_7), (2, .int x_8), (0, .ref (mr 0)), (1, .int z_without)] → W p l e ({ frames := 1, cells := 0, slots := 0, locals := 40 } : Room) s m ([.ref (mr 0), .int z_without] : List Value).toArray below meth c H locs 0 0 (MQ below (va_Qi (fun (r : Int32) (u : Unit) => ((-1) ≤ r.toInt) ∧ (r.toInt + 1 ≤ (mi 6).toInt) ∧ ((r : Int32).toInt = hgN (mf 3) (z_without : Int32).toInt ((mi 6).toInt).toNat)) (fun u => QW D cI cJ A ((fun (u : Unit) => (WZ_HousesO cI cJ mv mr mi mf mg)) u)) A) ([.ref (mr 0), .int z_without] : List Value).toArray s 0 0 A) (F0 m 4 ls []) := by
    intro k
    induction k with
    | zero =>
      intro x_7 x_8 _ _ _ hinv hm
      obtain ⟨hi_8_0, hi_8_1, hi_8_2, hi_8_3, hi_8_4⟩ := hinv
      exact absurd hm (by omega)
    | succ k ih_9 =>
      intro x_7 x_8 H locs ls hinv hm hw10 hl11
      obtain ⟨hi_8_0, hi_8_1, hi_8_2, hi_8_3, hi_8_4⟩ := hinv
      refine lv_iload_n (pc := 4) E.1 E.2.1 dX1_highestBid_4 rfl (lv_at hl11 0 rfl) ?_
      refine lv_aload_n (pc := 5) E.1 E.2.1 dX1_highestBid_5 rfl (lv_at hl11 2 rfl) ?_
      refine x_get (pc := 6) (T := TX1) (N := 9) (ci := 1) (v := .int (mi 6)) E hw10 inX1 0 5 q_281 rfl rfl (by decide) rfl rfl dX1_highestBid_6 ?_
      refine lv_icmp_ge (pc := 9) (tgt := 61) E.1 E.2.1 dX1_highestBid_9 (by decide) (fun c_12 => ?_) (fun c_12 => ?_)
      · skip
        have hc_12 := leE (a := (mi 6).toInt) (b := x_7.toInt) rfl rfl c_12
        refine lv_iload_n (pc := 61) E.1 E.2.1 dX1_highestBid_61 rfl (lv_at hl11 1 rfl) ?_
        exact em_i (w1 := (fun (u : Unit) => (WZ_HousesO cI cJ mv mr mi mf mg))) E hr hlk () hw10 ⟨hi_8_2, hi_8_3, (show (x_8 : Int32).toInt = hgN (mf 3) (z_without : Int32).toInt ((mi 6).toInt).toNat from (by have q := hi_8_4; rwa [show x_7.toInt = (mi 6).toInt from by omega] at q))⟩ (Nat.le_of_ble_eq_true rfl) (Nat.le_of_ble_eq_true rfl) dX1_highestBid_62
      · skip
        have hc_12 := nleE (a := (mi 6).toInt) (b := x_7.toInt) rfl rfl c_12
        refine lv_aload_n (pc := 12) E.1 E.2.1 dX1_highestBid_12 rfl (lv_at hl11 2 rfl) ?_
        refine x_get (pc := 13) (T := TX1) (N := 9) (ci := 1) (v := .ref (mr 3)) E hw10 inX1 0 2 q_271 rfl rfl (by decide) rfl rfl dX1_highestBid_13 ?_
        refine lv_iload_n (pc := 16) E.1 E.2.1 dX1_highestBid_16 rfl (lv_at hl11 0 rfl) ?_
        refine x_iald (pc := 17) (f := (mf 3)) E hw10 3 rfl (inbE (a := x_7.toInt) rfl (by omega)) dX1_highestBid_17 ?_
        refine lv_topi (fun v_13 ev_13 => ?_)
        refine lv_iload_n (pc := 18) E.1 E.2.1 dX1_highestBid_18 rfl (lv_at hl11 1 rfl) ?_
        refine lv_iconst (pc := 19) (v := (-1)) E.1 E.2.1 dX1_highestBid_19 (by decide +kernel) ?_
        refine lv_icmp_ne (pc := 20) (tgt := 27) E.1 E.2.1 dX1_highestBid_20 (by decide) (fun c_14 => ?_) (fun c_14 => ?_)
        · skip
          have hc_14 := neE (a := x_8.toInt) (b := (-1)) rfl (by decide +kernel) c_14
          refine lv_aload_n (pc := 27) E.1 E.2.1 dX1_highestBid_27 rfl (lv_at hl11 2 rfl) ?_
          refine x_get (pc := 28) (T := TX1) (N := 9) (ci := 1) (v := .ref (mr 3)) E hw10 inX1 0 2 q_271 rfl rfl (by decide) rfl rfl dX1_highestBid_28 ?_
          refine lv_iload_n (pc := 31) E.1 E.2.1 dX1_highestBid_31 rfl (lv_at hl11 1 rfl) ?_
          refine x_iald (pc := 32) (f := (mf 3)) E hw10 3 rfl (inbE (a := x_8.toInt) rfl (by omega)) dX1_highestBid_32 ?_
          refine lv_topi (fun v_15 ev_15 => ?_)
          refine lv_icmp_le (pc := 33) (tgt := 40) E.1 E.2.1 dX1_highestBid_33 (by decide) (fun c_16 => ?_) (fun c_16 => ?_)
          · skip
            have hc_16 := leE (a := v_13.toInt) (b := v_15.toInt) rfl rfl c_16
            refine lv_iconst (pc := 40) (v := 0) E.1 E.2.1 dX1_highestBid_40 (by decide +kernel) ?_
            refine lv_istore (pc := 41) (lv' := [(4, .int 0), (3, .int x_7), (2, .int x_8), (0, .ref (mr 0)), (1, .int z_without)]) E.1 E.2.1 dX1_highestBid_41 hl11 (by decide) rfl (fun ls hl17 => ?_)
            refine lv_iload_n (pc := 43) E.1 E.2.1 dX1_highestBid_43 rfl (lv_at hl17 1 rfl) ?_
            refine lv_iload_n (pc := 44) E.1 E.2.1 dX1_highestBid_44 rfl (lv_at hl17 4 rfl) ?_
            refine lv_icmp_eq (pc := 45) (tgt := 55) E.1 E.2.1 dX1_highestBid_45 (by decide) (fun c_18 => ?_) (fun c_18 => ?_)
            · skip
              have hc_18 := eqE (a := x_7.toInt) (b := z_without.toInt) rfl rfl c_18
              obtain ⟨v_19, ev_19⟩ : ∃ z : Int32, x_7 + Int32.ofInt (1) = z := ⟨_, rfl⟩
              have hv_19 : v_19.toInt = x_7.toInt + (1) := by rw [← ev_19]; exact incE rfl (by decide) (by omega)
              refine lv_iinc (pc := 55) (v := v_19) (lv' := [(3, .int v_19), (4, .int 0), (2, .int x_8), (0, .ref (mr 0)), (1, .int z_without)]) E.1 E.2.1 dX1_highestBid_55 hl17 (k := 1) rfl ev_19 (by decide) rfl (fun ls hl20 => ?_)
              refine lv_goto (pc := 58) (tgt := 4) E.1 E.2.1 dX1_highestBid_58 (by decide) ?_
              exact ih_9 v_19 x_8 _ _ _ ⟨(by show 0 ≤ v_19.toInt; omega), (by show v_19.toInt ≤ (mi 6).toInt; omega), hi_8_2, hi_8_3, (hgN_s hi_8_4 (by omega) ev_13 rfl (by omega) ev_15 rfl (by omega) (by omega))⟩ (by omega) hw10 (lv_sub hl20 [0, 2, 3, 4] rfl)
            · skip
              have hc_18 := neE (a := x_7.toInt) (b := z_without.toInt) rfl rfl c_18
              refine lv_iload (pc := 48) E.1 E.2.1 dX1_highestBid_48 (lv_at hl17 0 rfl) ?_
              refine lv_if_eq (pc := 50) (tgt := 55) E.1 E.2.1 dX1_highestBid_50 (by decide) (fun _ => ?_) (fun c_21 => absurd (meqE (a := 0) (b := 0) (by decide +kernel) (by decide +kernel) (by omega)) c_21)
              obtain ⟨v_22, ev_22⟩ : ∃ z : Int32, x_7 + Int32.ofInt (1) = z := ⟨_, rfl⟩
              have hv_22 : v_22.toInt = x_7.toInt + (1) := by rw [← ev_22]; exact incE rfl (by decide) (by omega)
              refine lv_iinc (pc := 55) (v := v_22) (lv' := [(3, .int v_22), (4, .int 0), (2, .int x_8), (0, .ref (mr 0)), (1, .int z_without)]) E.1 E.2.1 dX1_highestBid_55 hl17 (k := 1) rfl ev_22 (by decide) rfl (fun ls hl23 => ?_)
              refine lv_goto (pc := 58) (tgt := 4) E.1 E.2.1 dX1_highestBid_58 (by decide) ?_
              exact ih_9 v_22 x_8 _ _ _ ⟨(by show 0 ≤ v_22.toInt; omega), (by show v_22.toInt ≤ (mi 6).toInt; omega), hi_8_2, hi_8_3, (hgN_s hi_8_4 (by omega) ev_13 rfl (by omega) ev_15 rfl (by omega) (by omega))⟩ (by omega) hw10 (lv_sub hl23 [0, 2, 3, 4] rfl)
          · skip
            have hc_16 := nleE (a := v_13.toInt) (b := v_15.toInt) rfl rfl c_16
            refine lv_iconst (pc := 36) (v := 1) E.1 E.2.1 dX1_highestBid_36 (by decide +kernel) ?_
            refine lv_goto (pc := 37) (tgt := 41) E.1 E.2.1 dX1_highestBid_37 (by decide) ?_
            refine lv_istore (pc := 41) (lv' := [(4, .int 1), (3, .int x_7), (2, .int x_8), (0, .ref (mr 0)), (1, .int z_without)]) E.1 E.2.1 dX1_highestBid_41 hl11 (by decide) rfl (fun ls hl24 => ?_)
            refine lv_iload_n (pc := 43) E.1 E.2.1 dX1_highestBid_43 rfl (lv_at hl24 1 rfl) ?_
            refine lv_iload_n (pc := 44) E.1 E.2.1 dX1_highestBid_44 rfl (lv_at hl24 4 rfl) ?_
            refine lv_icmp_eq (pc := 45) (tgt := 55) E.1 E.2.1 dX1_highestBid_45 (by decide) (fun c_25 => ?_) (fun c_25 => ?_)
            · skip
              have hc_25 := eqE (a := x_7.toInt) (b := z_without.toInt) rfl rfl c_25
              obtain ⟨v_26, ev_26⟩ : ∃ z : Int32, x_7 + Int32.ofInt (1) = z := ⟨_, rfl⟩
              have hv_26 : v_26.toInt = x_7.toInt + (1) := by rw [← ev_26]; exact incE rfl (by decide) (by omega)
              refine lv_iinc (pc := 55) (v := v_26) (lv' := [(3, .int v_26), (4, .int 1), (2, .int x_8), (0, .ref (mr 0)), (1, .int z_without)]) E.1 E.2.1 dX1_highestBid_55 hl24 (k := 1) rfl ev_26 (by decide) rfl (fun ls hl27 => ?_)
              refine lv_goto (pc := 58) (tgt := 4) E.1 E.2.1 dX1_highestBid_58 (by decide) ?_
              exact ih_9 v_26 x_8 _ _ _ ⟨(by show 0 ≤ v_26.toInt; omega), (by show v_26.toInt ≤ (mi 6).toInt; omega), hi_8_2, hi_8_3, (hgN_s hi_8_4 (by omega) ev_13 rfl (by omega) ev_15 rfl (by omega) (by omega))⟩ (by omega) hw10 (lv_sub hl27 [0, 2, 3, 4] rfl)
            · skip
              have hc_25 := neE (a := x_7.toInt) (b := z_without.toInt) rfl rfl c_25
              refine lv_iload (pc := 48) E.1 E.2.1 dX1_highestBid_48 (lv_at hl24 0 rfl) ?_
              refine lv_if_eq (pc := 50) (tgt := 55) E.1 E.2.1 dX1_highestBid_50 (by decide) (fun c_28 => absurd c_28 (mneE (a := 1) (b := 0) (by decide +kernel) (by decide +kernel) (by omega))) (fun _ => ?_)
              refine lv_iload_n (pc := 53) E.1 E.2.1 dX1_highestBid_53 rfl (lv_at hl24 1 rfl) ?_
              refine lv_istore_n (pc := 54) (lv' := [(2, .int x_7), (4, .int 1), (3, .int x_7), (0, .ref (mr 0)), (1, .int z_without)]) E.1 E.2.1 dX1_highestBid_54 rfl hl24 (by decide) rfl (fun ls hl29 => ?_)
              obtain ⟨v_30, ev_30⟩ : ∃ z : Int32, x_7 + Int32.ofInt (1) = z := ⟨_, rfl⟩
              have hv_30 : v_30.toInt = x_7.toInt + (1) := by rw [← ev_30]; exact incE rfl (by decide) (by omega)
              refine lv_iinc (pc := 55) (v := v_30) (lv' := [(3, .int v_30), (2, .int x_7), (4, .int 1), (0, .ref (mr 0)), (1, .int z_without)]) E.1 E.2.1 dX1_highestBid_55 hl29 (k := 2) rfl ev_30 (by decide) rfl (fun ls hl31 => ?_)
              refine lv_goto (pc := 58) (tgt := 4) E.1 E.2.1 dX1_highestBid_58 (by decide) ?_
              exact ih_9 v_30 x_7 _ _ _ ⟨(by show 0 ≤ v_30.toInt; omega), (by show v_30.toInt ≤ (mi 6).toInt; omega), (by show (-1) ≤ x_7.toInt; omega), (by show x_7.toInt + 1 ≤ (mi 6).toInt; omega), (hgN_s hi_8_4 (by omega) ev_13 rfl (by omega) ev_15 rfl (by omega) (by omega))⟩ (by omega) hw10 (lv_sub hl31 [0, 1, 3, 4] rfl)
        · skip
          have hc_14 := eqE (a := x_8.toInt) (b := (-1)) rfl (by decide +kernel) c_14
          refine lv_iconst (pc := 23) (v := 0) E.1 E.2.1 dX1_highestBid_23 (by decide +kernel) ?_
          refine lv_goto (pc := 24) (tgt := 33) E.1 E.2.1 dX1_highestBid_24 (by decide) ?_
          refine lv_icmp_le (pc := 33) (tgt := 40) E.1 E.2.1 dX1_highestBid_33 (by decide) (fun c_32 => ?_) (fun c_32 => ?_)
          · skip
            have hc_32 := leE (a := v_13.toInt) (b := 0) rfl (by decide +kernel) c_32
            refine lv_iconst (pc := 40) (v := 0) E.1 E.2.1 dX1_highestBid_40 (by decide +kernel) ?_
            refine lv_istore (pc := 41) (lv' := [(4, .int 0), (3, .int x_7), (2, .int x_8), (0, .ref (mr 0)), (1, .int z_without)]) E.1 E.2.1 dX1_highestBid_41 hl11 (by decide) rfl (fun ls hl33 => ?_)
            refine lv_iload_n (pc := 43) E.1 E.2.1 dX1_highestBid_43 rfl (lv_at hl33 1 rfl) ?_
            refine lv_iload_n (pc := 44) E.1 E.2.1 dX1_highestBid_44 rfl (lv_at hl33 4 rfl) ?_
            refine lv_icmp_eq (pc := 45) (tgt := 55) E.1 E.2.1 dX1_highestBid_45 (by decide) (fun c_34 => ?_) (fun c_34 => ?_)
            · skip
              have hc_34 := eqE (a := x_7.toInt) (b := z_without.toInt) rfl rfl c_34
              obtain ⟨v_35, ev_35⟩ : ∃ z : Int32, x_7 + Int32.ofInt (1) = z := ⟨_, rfl⟩
              have hv_35 : v_35.toInt = x_7.toInt + (1) := by rw [← ev_35]; exact incE rfl (by decide) (by omega)
              refine lv_iinc (pc := 55) (v := v_35) (lv' := [(3, .int v_35), (4, .int 0), (2, .int x_8), (0, .ref (mr 0)), (1, .int z_without)]) E.1 E.2.1 dX1_highestBid_55 hl33 (k := 1) rfl ev_35 (by decide) rfl (fun ls hl36 => ?_)
              refine lv_goto (pc := 58) (tgt := 4) E.1 E.2.1 dX1_highestBid_58 (by decide) ?_
              exact ih_9 v_35 x_8 _ _ _ ⟨(by show 0 ≤ v_35.toInt; omega), (by show v_35.toInt ≤ (mi 6).toInt; omega), hi_8_2, hi_8_3, (hgN_n hi_8_4 (by omega) ev_13 rfl (by omega) (by omega) (by omega))⟩ (by omega) hw10 (lv_sub hl36 [0, 2, 3, 4] rfl)
            · skip
              have hc_34 := neE (a := x_7.toInt) (b := z_without.toInt) rfl rfl c_34
              refine lv_iload (pc := 48) E.1 E.2.1 dX1_highestBid_48 (lv_at hl33 0 rfl) ?_
              refine lv_if_eq (pc := 50) (tgt := 55) E.1 E.2.1 dX1_highestBid_50 (by decide) (fun _ => ?_) (fun c_37 => absurd (meqE (a := 0) (b := 0) (by decide +kernel) (by decide +kernel) (by omega)) c_37)
              obtain ⟨v_38, ev_38⟩ : ∃ z : Int32, x_7 + Int32.ofInt (1) = z := ⟨_, rfl⟩
              have hv_38 : v_38.toInt = x_7.toInt + (1) := by rw [← ev_38]; exact incE rfl (by decide) (by omega)
              refine lv_iinc (pc := 55) (v := v_38) (lv' := [(3, .int v_38), (4, .int 0), (2, .int x_8), (0, .ref (mr 0)), (1, .int z_without)]) E.1 E.2.1 dX1_highestBid_55 hl33 (k := 1) rfl ev_38 (by decide) rfl (fun ls hl39 => ?_)
              refine lv_goto (pc := 58) (tgt := 4) E.1 E.2.1 dX1_highestBid_58 (by decide) ?_
              exact ih_9 v_38 x_8 _ _ _ ⟨(by show 0 ≤ v_38.toInt; omega), (by show v_38.toInt ≤ (mi 6).toInt; omega), hi_8_2, hi_8_3, (hgN_n hi_8_4 (by omega) ev_13 rfl (by omega) (by omega) (by omega))⟩ (by omega) hw10 (lv_sub hl39 [0, 2, 3, 4] rfl)
          · skip
            have hc_32 := nleE (a := v_13.toInt) (b := 0) rfl (by decide +kernel) c_32
            refine lv_iconst (pc := 36) (v := 1) E.1 E.2.1 dX1_highestBid_36 (by decide +kernel) ?_
            refine lv_goto (pc := 37) (tgt := 41) E.1 E.2.1 dX1_highestBid_37 (by decide) ?_
            refine lv_istore (pc := 41) (lv' := [(4, .int 1), (3, .int x_7), (2, .int x_8), (0, .ref (mr 0)), (1, .int z_without)]) E.1 E.2.1 dX1_highestBid_41 hl11 (by decide) rfl (fun ls hl40 => ?_)
            refine lv_iload_n (pc := 43) E.1 E.2.1 dX1_highestBid_43 rfl (lv_at hl40 1 rfl) ?_
            refine lv_iload_n (pc := 44) E.1 E.2.1 dX1_highestBid_44 rfl (lv_at hl40 4 rfl) ?_
            refine lv_icmp_eq (pc := 45) (tgt := 55) E.1 E.2.1 dX1_highestBid_45 (by decide) (fun c_41 => ?_) (fun c_41 => ?_)
            · skip
              have hc_41 := eqE (a := x_7.toInt) (b := z_without.toInt) rfl rfl c_41
              obtain ⟨v_42, ev_42⟩ : ∃ z : Int32, x_7 + Int32.ofInt (1) = z := ⟨_, rfl⟩
              have hv_42 : v_42.toInt = x_7.toInt + (1) := by rw [← ev_42]; exact incE rfl (by decide) (by omega)
              refine lv_iinc (pc := 55) (v := v_42) (lv' := [(3, .int v_42), (4, .int 1), (2, .int x_8), (0, .ref (mr 0)), (1, .int z_without)]) E.1 E.2.1 dX1_highestBid_55 hl40 (k := 1) rfl ev_42 (by decide) rfl (fun ls hl43 => ?_)
              refine lv_goto (pc := 58) (tgt := 4) E.1 E.2.1 dX1_highestBid_58 (by decide) ?_
              exact ih_9 v_42 x_8 _ _ _ ⟨(by show 0 ≤ v_42.toInt; omega), (by show v_42.toInt ≤ (mi 6).toInt; omega), hi_8_2, hi_8_3, (hgN_n hi_8_4 (by omega) ev_13 rfl (by omega) (by omega) (by omega))⟩ (by omega) hw10 (lv_sub hl43 [0, 2, 3, 4] rfl)
            · skip
              have hc_41 := neE (a := x_7.toInt) (b := z_without.toInt) rfl rfl c_41
              refine lv_iload (pc := 48) E.1 E.2.1 dX1_highestBid_48 (lv_at hl40 0 rfl) ?_
              refine lv_if_eq (pc := 50) (tgt := 55) E.1 E.2.1 dX1_highestBid_50 (by decide) (fun c_44 => absurd c_44 (mneE (a := 1) (b := 0) (by decide +kernel) (by decide +kernel) (by omega))) (fun _ => ?_)
              refine lv_iload_n (pc := 53) E.1 E.2.1 dX1_highestBid_53 rfl (lv_at hl40 1 rfl) ?_
              refine lv_istore_n (pc := 54) (lv' := [(2, .int x_7), (4, .int 1), (3, .int x_7), (0, .ref (mr 0)), (1, .int z_without)]) E.1 E.2.1 dX1_highestBid_54 rfl hl40 (by decide) rfl (fun ls hl45 => ?_)
              obtain ⟨v_46, ev_46⟩ : ∃ z : Int32, x_7 + Int32.ofInt (1) = z := ⟨_, rfl⟩
              have hv_46 : v_46.toInt = x_7.toInt + (1) := by rw [← ev_46]; exact incE rfl (by decide) (by omega)
              refine lv_iinc (pc := 55) (v := v_46) (lv' := [(3, .int v_46), (2, .int x_7), (4, .int 1), (0, .ref (mr 0)), (1, .int z_without)]) E.1 E.2.1 dX1_highestBid_55 hl45 (k := 2) rfl ev_46 (by decide) rfl (fun ls hl47 => ?_)
              refine lv_goto (pc := 58) (tgt := 4) E.1 E.2.1 dX1_highestBid_58 (by decide) ?_
              exact ih_9 v_46 x_7 _ _ _ ⟨(by show 0 ≤ v_46.toInt; omega), (by show v_46.toInt ≤ (mi 6).toInt; omega), (by show (-1) ≤ x_7.toInt; omega), (by show x_7.toInt + 1 ≤ (mi 6).toInt; omega), (hgN_n hi_8_4 (by omega) ev_13 rfl (by omega) (by omega) (by omega))⟩ (by omega) hw10 (lv_sub hl47 [0, 1, 3, 4] rfl)
  exact loop_6 (Int.toNat ((mi 6).toInt - 0) + 1) 0 (-1) _ _ _ ⟨(by show 0 ≤ (0 : Int32).toInt; have k_0 : (0 : Int32).toInt = 0 := (by decide +kernel); omega), (by show (0 : Int32).toInt ≤ (mi 6).toInt; have k_0 : (0 : Int32).toInt = 0 := (by decide +kernel); omega), (by show (-1) ≤ ((-1) : Int32).toInt; have k_0 : ((-1) : Int32).toInt = -1 := (by decide +kernel); omega), (by show ((-1) : Int32).toInt + 1 ≤ (mi 6).toInt; have k_0 : ((-1) : Int32).toInt = -1 := (by decide +kernel); omega), (hgN_i (by decide +kernel) (by decide +kernel))⟩ (by have k_0 : (0 : Int32).toInt = 0 := (by decide +kernel); have k_1 : ((-1) : Int32).toInt = -1 := (by decide +kernel); omega) hw1 (lv_sub hl5 [0, 1, 2, 3] rfl)
set_option maxHeartbeats 4000000 in
set_option maxRecDepth 100000 in
theorem t_forgetPlanN (l : Launch) (D : va_G) (cI cJ : ClassId) (sz : Nat) (mr : Nat → Nat) (mi : Nat → Int32) (mf : Nat → Nat → Int32) (mg : Nat → Nat → Int64)  (mv : Nat → Value)  : Met l yX11_forgetPlan (Cond.code yX11_forgetPlan cX11_forgetPlan 1 none :: GW) ({ frames := 1, cells := 0, slots := 0, locals := 40 } : Room) (va_Pc [.ref (mr 0)] (PW D cI cJ sz (WZ_LfN cI cJ mv mr mi mf mg) xT)) (va_Qv (fun (u : Unit) => True) (fun u => QW D cI cJ (va_A (WZ_LfN cI cJ mv mr mi mf mg) sz) ((fun (u : Unit) => (WZ_LfN cI cJ mv mr mi mf mg)) u)) (va_A (WZ_LfN cI cJ mv mr mi mf mg) sz)) 0 0 (va_A (WZ_LfN cI cJ mv mr mi mf mg) sz) := by
  refine mk_met (y := yX11_forgetPlan) (bytes := cX11_forgetPlan) (maxL := 1) (avs := [.ref (mr 0)]) (WS := (WZ_LfN cI cJ mv mr mi mf mg)) (Qf := fun A => va_Qv (fun (u : Unit) => True) (fun u => QW D cI cJ A ((fun (u : Unit) => (WZ_LfN cI cJ mv mr mi mf mg)) u)) A) (by decide) (Nat.le_of_ble_eq_true rfl) ?_
  intro p e s m below meth c A ls E hr hlk hnm hX hw1 hl2
  have hl3 : lv_has ls 1 [(0, .ref (mr 0))] := hl2
  refine lv_aload_n (pc := 0) E.1 E.2.1 dX11_forgetPlan_0 rfl (lv_at hl3 0 rfl) ?_
  refine x_get (pc := 1) (T := TX11) (N := 13) (ci := 11) (v := .null) E hw1 inX11 0 11 q_617 rfl rfl (by decide) rfl rfl dX11_forgetPlan_1 ?_
  refine lv_ifnullN (pc := 4) (tgt := 15) E.1 E.2.1 dX11_forgetPlan_4 (by decide) ?_
  exact em_v (w1 := (fun (u : Unit) => (WZ_LfN cI cJ mv mr mi mf mg))) E hr hlk () hw1 trivial (Nat.le_of_ble_eq_true rfl) (Nat.le_of_ble_eq_true rfl) dX11_forgetPlan_15
set_option maxHeartbeats 4000000 in
set_option maxRecDepth 100000 in
theorem t_forgetNightsN (l : Launch) (D : va_G) (cI cJ : ClassId) (sz : Nat) (mr : Nat → Nat) (mi : Nat → Int32) (mf : Nat → Nat → Int32) (mg : Nat → Nat → Int64)  (mv : Nat → Value)  : Met l yX11_forgetNights (Cond.code yX11_forgetNights cX11_forgetNights 1 none :: GW) ({ frames := 2, cells := 0, slots := 0, locals := 60 } : Room) (va_Pc [.ref (mr 0)] (PW D cI cJ sz (WZ_LfN cI cJ mv mr mi mf mg) xT)) (va_Qv (fun (u : Int32 × Int32) => (u.1.toInt = 0) ∧ (u.2.toInt = 0)) (fun u => QW D cI cJ (va_A (WZ_LfN cI cJ mv mr mi mf mg) sz) ((fun (u : Int32 × Int32) => (WZ_LfN cI cJ mv mr (upd (upd mi 1 u.1) 2 u.2) mf mg)) u)) (va_A (WZ_LfN cI cJ mv mr mi mf mg) sz)) 0 0 (va_A (WZ_LfN cI cJ mv mr mi mf mg) sz) := by
  refine mk_met (y := yX11_forgetNights) (bytes := cX11_forgetNights) (maxL := 1) (avs := [.ref (mr 0)]) (WS := (WZ_LfN cI cJ mv mr mi mf mg)) (Qf := fun A => va_Qv (fun (u : Int32 × Int32) => (u.1.toInt = 0) ∧ (u.2.toInt = 0)) (fun u => QW D cI cJ A ((fun (u : Int32 × Int32) => (WZ_LfN cI cJ mv mr (upd (upd mi 1 u.1) 2 u.2) mf mg)) u)) A) (by decide) (Nat.le_of_ble_eq_true rfl) ?_
  intro p e s m below meth c A ls E hr hlk hnm hX hw1 hl2
  have hl3 : lv_has ls 1 [(0, .ref (mr 0))] := hl2
  refine lv_aload_n (pc := 0) E.1 E.2.1 dX11_forgetNights_0 rfl (lv_at hl3 0 rfl) ?_
  refine lv_iconst (pc := 1) (v := 0) E.1 E.2.1 dX11_forgetNights_1 (by decide +kernel) ?_
  refine x_put (pc := 2) (T := TX11) (N := 13) (ci := 11) (ws' := (WZ_LfN cI cJ mv mr (upd mi 2 0) mf mg)) E hw1 inX11 tyX11_ok nmX11 0 10 q_616 rfl rfl (by decide) rfl rfl rfl rfl (Nat.le_of_ble_eq_true rfl) rfl dX11_forgetNights_2 (fun H locs hw4 => ?_)
  refine lv_aload_n (pc := 5) E.1 E.2.1 dX11_forgetNights_5 rfl (lv_at hl3 0 rfl) ?_
  refine lv_iconst (pc := 6) (v := 0) E.1 E.2.1 dX11_forgetNights_6 (by decide +kernel) ?_
  refine x_put (pc := 7) (T := TX11) (N := 13) (ci := 11) (ws' := (WZ_LfN cI cJ mv mr (upd (upd mi 1 0) 2 0) mf mg)) E hw4 inX11 tyX11_ok nmX11 0 9 q_615 rfl rfl (by decide) rfl rfl rfl rfl (Nat.le_of_ble_eq_true rfl) rfl dX11_forgetNights_7 (fun H locs hw5 => ?_)
  refine lv_aload_n (pc := 10) E.1 E.2.1 dX11_forgetNights_10 rfl (lv_at hl3 0 rfl) ?_
  refine ck_v (pc := 11) (ws' := (fun (u : Unit) => (WZ_LfN cI cJ mv mr (upd (upd mi 1 0) 2 0) mf mg))) [true] hw5 rfl (fun hC_ => (rn_V (As := []) (rest := []) E hw5 (t_forgetPlanN l D cI cJ _ mr (upd (upd mi 1 0) 2 0) mf mg (vl [mv 0, mv 1, mv 2, mv 3, mv 4, mv 5, mv 6, mv 7, mv 8, mv 9])) (gdV q_654 q_656 q_1 q_151 q_657) hdV_X11_forgetPlan ⟨rfl, rfl⟩ ⟨(Nat.le_of_ble_eq_true rfl), (Nat.le_of_ble_eq_true rfl)⟩ ⟨(Nat.le_of_ble_eq_true rfl), (Nat.le_of_ble_eq_true rfl)⟩ xT_b xT_at 0 11 rfl rfl rfl _ hC_ (nd_T _ 0) rfl hl3.1 rfl (Nat.le_of_ble_eq_true rfl) dX11_forgetNights_11)) rfl (fun _ => rfl) (fun _ => rfl) (fun u_6 H1 locs hp hw8 => ?_)
  generalize H1 = H at hw8 ⊢
  have hw9 : WD D A s.heap (WZ_LfN cI cJ mv mr (upd (upd mi 1 0) 2 0) mf mg) H locs := hw8
  exact em_v (w1 := (fun (u : Int32 × Int32) => (WZ_LfN cI cJ mv mr (upd (upd mi 1 u.1) 2 u.2) mf mg))) E hr hlk (0, 0) hw9 ⟨(by show (0 : Int32).toInt = 0; have k_0 : (0 : Int32).toInt = 0 := (by decide +kernel); have k_1 : (0 : Int32).toInt = 0 := (by decide +kernel); omega), (by show (0 : Int32).toInt = 0; have k_0 : (0 : Int32).toInt = 0 := (by decide +kernel); have k_1 : (0 : Int32).toInt = 0 := (by decide +kernel); omega)⟩ (Nat.le_of_ble_eq_true rfl) (Nat.le_of_ble_eq_true rfl) dX11_forgetNights_14
set_option maxHeartbeats 4000000 in
set_option maxRecDepth 100000 in
theorem t_stateN (l : Launch) (D : va_G) (cI cJ : ClassId) (sz : Nat) (mr : Nat → Nat) (mi : Nat → Int32) (mf : Nat → Nat → Int32) (mg : Nat → Nat → Int64) (z_v : Int32) (mv : Nat → Value) (h0 : 0 ≤ (mi 1).toInt ∧ (mi 1).toInt ≤ 5) (h1 : 0 ≤ (mi 2).toInt ∧ (mi 2).toInt ≤ 6) (h2 : 0 ≤ (mi 14).toInt ∧ (mi 14).toInt ≤ 200) : Met l yX11_state (Cond.code yX11_state cX11_state 3 (some .int) :: GW) ({ frames := 11, cells := 0, slots := 0, locals := 263 } : Room) (va_Pc [.ref (mr 0), .int z_v] (PW D cI cJ sz (WZ_LstateN cI cJ mv mr mi mf mg) xT)) (va_Qi (fun (r : Int32) (u : (Nat → Int32) × (Nat → Nat → Int32) × (Nat → Nat → Int64)) => (0 ≤ (u.1 1).toInt) ∧ ((u.1 1).toInt ≤ 5) ∧ (0 ≤ (u.1 2).toInt) ∧ ((u.1 2).toInt ≤ 6) ∧ (0 ≤ (u.1 14).toInt) ∧ ((u.1 14).toInt ≤ 200)) (fun u => QW D cI cJ (va_A (WZ_LstateN cI cJ mv mr mi mf mg) sz) ((fun (u : (Nat → Int32) × (Nat → Nat → Int32) × (Nat → Nat → Int64)) => (WZ_LstateN cI cJ mv mr u.1 u.2.1 u.2.2)) u)) (va_A (WZ_LstateN cI cJ mv mr mi mf mg) sz)) 0 0 (va_A (WZ_LstateN cI cJ mv mr mi mf mg) sz) := by
  refine mk_met (y := yX11_state) (bytes := cX11_state) (maxL := 3) (avs := [.ref (mr 0), .int z_v]) (WS := (WZ_LstateN cI cJ mv mr mi mf mg)) (Qf := fun A => va_Qi (fun (r : Int32) (u : (Nat → Int32) × (Nat → Nat → Int32) × (Nat → Nat → Int64)) => (0 ≤ (u.1 1).toInt) ∧ ((u.1 1).toInt ≤ 5) ∧ (0 ≤ (u.1 2).toInt) ∧ ((u.1 2).toInt ≤ 6) ∧ (0 ≤ (u.1 14).toInt) ∧ ((u.1 14).toInt ≤ 200)) (fun u => QW D cI cJ A ((fun (u : (Nat → Int32) × (Nat → Nat → Int32) × (Nat → Nat → Int64)) => (WZ_LstateN cI cJ mv mr u.1 u.2.1 u.2.2)) u)) A) (by decide) (Nat.le_of_ble_eq_true rfl) ?_
  intro p e s m below meth c A ls E hr hlk hnm hX hw1 hl2
  have hl3 : lv_has ls 3 [(0, .ref (mr 0)), (1, .int z_v)] := hl2
  refine lv_aload_n (pc := 0) E.1 E.2.1 dX11_state_0 rfl (lv_at hl3 0 rfl) ?_
  refine x_get (pc := 1) (T := TX11) (N := 13) (ci := 11) (v := .ref (mr 3)) E hw1 inX11 0 0 q_606 rfl rfl (by decide) rfl rfl dX11_state_1 ?_
  refine x_get (pc := 4) (T := TX10) (N := 17) (ci := 10) (v := .ref (mr 8)) E hw1 inX10 1 0 q_458 rfl rfl (by decide) rfl rfl dX11_state_4 ?_
  refine x_get (pc := 7) (T := TX4) (N := 12) (ci := 4) (v := .int (mi 13)) E hw1 inX4 2 9 q_226 rfl rfl (by decide) rfl rfl dX11_state_7 ?_
  refine lv_istore_n (pc := 10) (lv' := [(2, .int (mi 13)), (0, .ref (mr 0)), (1, .int z_v)]) E.1 E.2.1 dX11_state_10 rfl hl3 (by decide) rfl (fun ls hl4 => ?_)
  refine lv_aload_n (pc := 11) E.1 E.2.1 dX11_state_11 rfl (lv_at hl4 1 rfl) ?_
  refine x_get (pc := 12) (T := TX11) (N := 13) (ci := 11) (v := .ref (mr 3)) E hw1 inX11 0 0 q_606 rfl rfl (by decide) rfl rfl dX11_state_12 ?_
  refine x_get (pc := 15) (T := TX10) (N := 17) (ci := 10) (v := .ref (mr 8)) E hw1 inX10 1 0 q_458 rfl rfl (by decide) rfl rfl dX11_state_15 ?_
  refine lv_iload_n (pc := 18) E.1 E.2.1 dX11_state_18 rfl (lv_at hl4 2 rfl) ?_
  refine x_put (pc := 19) (T := TX4) (N := 12) (ci := 4) (ws' := (WZ_LstateN cI cJ mv mr (upd mi 13 z_v) mf mg)) E hw1 inX4 tyX4_ok nmX4 2 9 q_226 rfl rfl (by decide) rfl rfl rfl rfl (Nat.le_of_ble_eq_true rfl) rfl dX11_state_19 (fun H locs hw5 => ?_)
  refine lv_aload_n (pc := 22) E.1 E.2.1 dX11_state_22 rfl (lv_at hl4 1 rfl) ?_
  refine ck_v (pc := 23) (ws' := (fun (u : Int32 × Int32) => (WZ_LstateN cI cJ mv mr (upd (upd (upd mi 1 u.1) 2 u.2) 13 z_v) mf mg))) [true, false, false] hw5 rfl (fun hC_ => (rn_V (As := []) (rest := []) E hw5 (t_forgetNightsN l D cI cJ _ mr (upd mi 13 z_v) mf mg (vl [.ref (mr 3), mv 0, mv 1, mv 2, mv 3, mv 4, mv 5, mv 6, mv 7, mv 8])) (gdV q_650 q_652 q_0 q_151 q_653) hdV_X11_forgetNights ⟨rfl, rfl⟩ ⟨(Nat.le_of_ble_eq_true rfl), (Nat.le_of_ble_eq_true rfl)⟩ ⟨(Nat.le_of_ble_eq_true rfl), (Nat.le_of_ble_eq_true rfl)⟩ xT_b xT_at 0 11 rfl rfl rfl _ hC_ (nd_T _ 0) rfl hl4.1 rfl (Nat.le_of_ble_eq_true rfl) dX11_state_23)) rfl (fun _ => rfl) (fun _ => rfl) (fun u_6 H1 locs hp hw8 => ?_)
  obtain ⟨noldest_9, nundoable_10⟩ := u_6
  generalize H1 = H at hw8 ⊢
  have hw11 : WD D A s.heap (WZ_LstateN cI cJ mv mr (upd (upd (upd mi 1 noldest_9) 2 nundoable_10) 13 z_v) mf mg) H locs := hw8
  obtain ⟨hp_12, hp_13⟩ := hp
  have hp_12 : noldest_9.toInt = 0 := hp_12
  have hp_13 : nundoable_10.toInt = 0 := hp_13
  refine lv_iload_n (pc := 26) E.1 E.2.1 dX11_state_26 rfl (lv_at hl4 0 rfl) ?_
  exact em_i (w1 := (fun (u : (Nat → Int32) × (Nat → Nat → Int32) × (Nat → Nat → Int64)) => (WZ_LstateN cI cJ mv mr u.1 u.2.1 u.2.2))) E hr hlk ((upd (upd (upd mi 1 noldest_9) 2 nundoable_10) 13 z_v), mf, mg) hw11 ⟨(by show 0 ≤ noldest_9.toInt; omega), (by show noldest_9.toInt ≤ 5; omega), (by show 0 ≤ nundoable_10.toInt; omega), (by show nundoable_10.toInt ≤ 6; omega), h2.1, h2.2⟩ (Nat.le_of_ble_eq_true rfl) (Nat.le_of_ble_eq_true rfl) dX11_state_27
