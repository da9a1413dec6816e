set_option maxHeartbeats 4000000 in
set_option maxRecDepth 100000 in
theorem s_roomOf (l : Launch) (D : va_G) (cI cJ : ClassId) (sz M : Nat) (mr : Nat → Nat) (mi : Nat → Int32) (mf : Nat → Nat → Int32) (mg : Nat → Nat → Int64) (z_house : Int32) (h0 : 0 ≤ (mi 6).toInt ∧ (mi 6).toInt ≤ 10) : Met l yX12_roomOf (Cond.code yX12_roomOf cX12_roomOf 5 (some .int) :: GW) ({ frames := 3, cells := 0, slots := 0, locals := 86 } : Room) (va_Pc [.ref M, .int z_house] (PW D cI cJ sz (MW cI cJ M mr mi mf mg) xT)) (va_Qi (fun (r : Int32) (u : Unit) => True) (fun u => QW D cI cJ (va_A (MW cI cJ M mr mi mf mg) sz) ((fun (u : Unit) => (MW cI cJ M mr mi mf mg)) u)) (va_A (MW cI cJ M mr mi mf mg) sz)) 0 0 (va_A (MW cI cJ M mr mi mf mg) sz) := by
  refine mk_met (y := yX12_roomOf) (bytes := cX12_roomOf) (maxL := 5) (avs := [.ref M, .int z_house]) (WS := (MW cI cJ M mr mi mf mg)) (Qf := fun A => va_Qi (fun (r : Int32) (u : Unit) => True) (fun u => QW D cI cJ A ((fun (u : Unit) => (MW cI cJ M mr mi mf mg)) u)) A) (by decide) (Nat.le_of_ble_eq_true rfl) ?_
  intro p e s m below meth c A ls E hr hlk hnm hX hw1 hl2
  have hl3 : lv_has ls 5 [(0, .ref M), (1, .int z_house)] := hl2
  refine lv_iconst (pc := 0) (v := 1) E.1 E.2.1 dX12_roomOf_0 (by decide +kernel) ?_
  refine lv_aload_n (pc := 1) E.1 E.2.1 dX12_roomOf_1 rfl (lv_at hl3 0 rfl) ?_
  refine x_get (pc := 2) (T := TX12) (N := 70) (ci := 12) (v := .int (mi 6)) E hw1 inX12 0 6 q_1405 rfl rfl (by decide) rfl rfl dX12_roomOf_2 ?_
  refine lv_ishl (pc := 5) E.1 E.2.1 dX12_roomOf_5 ?_
  refine lv_topi (fun v_4 ev_4 => ?_)
  have hb1v_4 : 1 ≤ v_4.toInt ∧ v_4.toInt ≤ 1024 := by rw [ev_4]; exact shl10 (by omega)
  refine lv_iconst (pc := 6) (v := 1) E.1 E.2.1 dX12_roomOf_6 (by decide +kernel) ?_
  refine lv_isub (pc := 7) E.1 E.2.1 dX12_roomOf_7 ?_
  refine lv_topi (fun v_5 ev_5 => ?_)
  have hv_5 : v_5.toInt = v_4.toInt - 1 := by rw [ev_5]; exact subE rfl (by decide +kernel) (by omega)
  refine lv_istore_n (pc := 8) (lv' := [(2, .int v_5), (0, .ref M), (1, .int z_house)]) E.1 E.2.1 dX12_roomOf_8 rfl hl3 (by decide) rfl (fun ls hl6 => ?_)
  have loop_7 : ∀ (k : Nat) (x_8 : Int32) (H : Heap) (locs : List Loc) (ls : Array Slot), (0 ≤ x_8.toInt) ∧ (x_8.toInt ≤ 1023) → x_8.toInt < (k : Int) → WD D A s.heap (MW cI cJ M mr mi mf mg) H locs → lv_has ls 5 [(2, .int x_8), (0, .ref M), (1, .int z_house)] → W p l e ({ frames := 3, cells := 0, slots := 0, locals := 86 } : Room) s m ([.ref M, .int z_house] : List Value).toArray below meth c H locs 0 0 (MQ below (va_Qi (fun (r : Int32) (u : Unit) => True) (fun u => QW D cI cJ A ((fun (u : Unit) => (MW cI cJ M mr mi mf mg)) u)) A) ([.ref M, .int z_house] : List Value).toArray s 0 0 A) (F0 m 9 ls []) := by
    intro k
    induction k with
    | zero =>
      intro x_8 _ _ _ hinv hm
      obtain ⟨hi_8_0, hi_8_1⟩ := hinv
      exact absurd hm (by omega)
    | succ k ih_9 =>
      intro x_8 H locs ls hinv hm hw10 hl11
      obtain ⟨hi_8_0, hi_8_1⟩ := hinv
      refine lv_iload_n (pc := 9) E.1 E.2.1 dX12_roomOf_9 rfl (lv_at hl11 0 rfl) ?_
      refine lv_if_eq (pc := 10) (tgt := 66) E.1 E.2.1 dX12_roomOf_10 (by decide) (fun c_12 => ?_) (fun c_12 => ?_)
      · skip
        have hc_12 := eqE (a := x_8.toInt) (b := 0) rfl (by decide +kernel) c_12
        refine lv_iconst (pc := 66) (v := (-1)) E.1 E.2.1 dX12_roomOf_66 (by decide +kernel) ?_
        exact em_i (w1 := (fun (u : Unit) => (MW cI cJ M mr mi mf mg))) E hr hlk () hw10 trivial (Nat.le_of_ble_eq_true rfl) (Nat.le_of_ble_eq_true rfl) dX12_roomOf_67
      · skip
        have hc_12 := neE (a := x_8.toInt) (b := 0) rfl (by decide +kernel) c_12
        refine lv_aload_n (pc := 13) E.1 E.2.1 dX12_roomOf_13 rfl (lv_at hl11 1 rfl) ?_
        refine lv_iload_n (pc := 14) E.1 E.2.1 dX12_roomOf_14 rfl (lv_at hl11 0 rfl) ?_
        refine cm_i (pc := 15) hw10 (rn_M (As := [.int x_8]) (rest := []) E hw10 (s_lowest l D cI cJ _ M mr mi mf mg x_8 (by show 1 ≤ x_8.toInt ∧ x_8.toInt ≤ 1023; omega)) (gdV q_2030 q_2032 q_132 q_162 q_2033) hdV_X12_lowest ⟨rfl, rfl⟩ ⟨(Nat.le_of_ble_eq_true rfl), (Nat.le_of_ble_eq_true rfl)⟩ ⟨(Nat.le_of_ble_eq_true rfl), (Nat.le_of_ble_eq_true rfl)⟩ 12 rfl rfl rfl rfl hl11.1 rfl (Nat.le_of_ble_eq_true rfl) dX12_roomOf_15) (fun r_14 u_13 H1 locs hp hw15 => ?_)
        generalize H1 = H at hw15 ⊢
        have hw16 : WD D A s.heap (MW cI cJ M mr mi mf mg) H locs := hw15
        obtain ⟨hp_17, hp_18⟩ := hp
        have hp_17 : 0 ≤ r_14.toInt := hp_17
        have hp_18 : r_14.toInt ≤ 9 := hp_18
        refine lv_istore_n (pc := 18) (lv' := [(3, .int r_14), (2, .int x_8), (0, .ref M), (1, .int z_house)]) E.1 E.2.1 dX12_roomOf_18 rfl hl11 (by decide) rfl (fun ls hl19 => ?_)
        refine lv_aload_n (pc := 19) E.1 E.2.1 dX12_roomOf_19 rfl (lv_at hl19 2 rfl) ?_
        refine lv_iload_n (pc := 20) E.1 E.2.1 dX12_roomOf_20 rfl (lv_at hl19 1 rfl) ?_
        refine cm_i (pc := 21) hw16 (rn_M (As := [.int x_8]) (rest := []) E hw16 (s_mateOf l D cI cJ _ M mr mi mf mg x_8 h0 (by show 1 ≤ x_8.toInt ∧ x_8.toInt ≤ 1023; omega)) (gdV q_2046 q_2048 q_136 q_162 q_2049) hdV_X12_mateOf ⟨rfl, rfl⟩ ⟨(Nat.le_of_ble_eq_true rfl), (Nat.le_of_ble_eq_true rfl)⟩ ⟨(Nat.le_of_ble_eq_true rfl), (Nat.le_of_ble_eq_true rfl)⟩ 12 rfl rfl rfl rfl hl19.1 rfl (Nat.le_of_ble_eq_true rfl) dX12_roomOf_21) (fun r_21 u_20 H1 locs hp hw22 => ?_)
        generalize H1 = H at hw22 ⊢
        have hw23 : WD D A s.heap (MW cI cJ M mr mi mf mg) H locs := hw22
        obtain ⟨hp_24, hp_25⟩ := hp
        have hp_24 : (-1) ≤ r_21.toInt := hp_24
        have hp_25 : r_21.toInt ≤ 9 := hp_25
        refine lv_istore (pc := 24) (lv' := [(4, .int r_21), (3, .int r_14), (2, .int x_8), (0, .ref M), (1, .int z_house)]) E.1 E.2.1 dX12_roomOf_24 hl19 (by decide) rfl (fun ls hl26 => ?_)
        refine lv_iload_n (pc := 26) E.1 E.2.1 dX12_roomOf_26 rfl (lv_at hl26 1 rfl) ?_
        refine lv_iload_n (pc := 27) E.1 E.2.1 dX12_roomOf_27 rfl (lv_at hl26 4 rfl) ?_
        refine lv_icmp_ne (pc := 28) (tgt := 34) E.1 E.2.1 dX12_roomOf_28 (by decide) (fun c_27 => ?_) (fun c_27 => ?_)
        · skip
          have hc_27 := neE (a := r_14.toInt) (b := z_house.toInt) rfl rfl c_27
          refine lv_iload (pc := 34) E.1 E.2.1 dX12_roomOf_34 (lv_at hl26 0 rfl) ?_
          refine lv_iload_n (pc := 36) E.1 E.2.1 dX12_roomOf_36 rfl (lv_at hl26 4 rfl) ?_
          refine lv_icmp_ne (pc := 37) (tgt := 42) E.1 E.2.1 dX12_roomOf_37 (by decide) (fun c_28 => ?_) (fun c_28 => ?_)
          · skip
            have hc_28 := neE (a := r_21.toInt) (b := z_house.toInt) rfl rfl c_28
            refine lv_iload_n (pc := 42) E.1 E.2.1 dX12_roomOf_42 rfl (lv_at hl26 2 rfl) ?_
            refine lv_iload_n (pc := 43) E.1 E.2.1 dX12_roomOf_43 rfl (lv_at hl26 2 rfl) ?_
            refine lv_iconst (pc := 44) (v := 1) E.1 E.2.1 dX12_roomOf_44 (by decide +kernel) ?_
            refine lv_isub (pc := 45) E.1 E.2.1 dX12_roomOf_45 ?_
            refine lv_topi (fun v_29 ev_29 => ?_)
            have hv_29 : v_29.toInt = x_8.toInt - 1 := by rw [ev_29]; exact subE rfl (by decide +kernel) (by omega)
            refine lv_iand (pc := 46) E.1 E.2.1 dX12_roomOf_46 ?_
            refine lv_topi (fun v_30 ev_30 => ?_)
            have hb1v_30 : 0 ≤ v_30.toInt ∧ v_30.toInt ≤ x_8.toInt := by rw [ev_30]; exact and10 (by omega)
            have hb2v_30 : 0 ≤ v_30.toInt ∧ v_30.toInt ≤ v_29.toInt := by rw [ev_30]; exact and10r (by omega)
            refine lv_istore_n (pc := 47) (lv' := [(2, .int v_30), (4, .int r_21), (3, .int r_14), (0, .ref M), (1, .int z_house)]) E.1 E.2.1 dX12_roomOf_47 rfl hl26 (by decide) rfl (fun ls hl31 => ?_)
            refine lv_iload (pc := 48) E.1 E.2.1 dX12_roomOf_48 (lv_at hl31 1 rfl) ?_
            refine lv_iconst (pc := 50) (v := (-1)) E.1 E.2.1 dX12_roomOf_50 (by decide +kernel) ?_
            refine lv_icmp_eq (pc := 51) (tgt := 63) E.1 E.2.1 dX12_roomOf_51 (by decide) (fun c_32 => ?_) (fun c_32 => ?_)
            · skip
              have hc_32 := eqE (a := r_21.toInt) (b := (-1)) rfl (by decide +kernel) c_32
              refine lv_goto (pc := 63) (tgt := 9) E.1 E.2.1 dX12_roomOf_63 (by decide) ?_
              exact ih_9 v_30 _ _ _ ⟨(by show 0 ≤ v_30.toInt; omega), (by show v_30.toInt ≤ 1023; omega)⟩ (by omega) hw23 (lv_sub hl31 [0, 3, 4] rfl)
            · skip
              have hc_32 := neE (a := r_21.toInt) (b := (-1)) rfl (by decide +kernel) c_32
              refine lv_iload_n (pc := 54) E.1 E.2.1 dX12_roomOf_54 rfl (lv_at hl31 0 rfl) ?_
              refine lv_iconst (pc := 55) (v := 1) E.1 E.2.1 dX12_roomOf_55 (by decide +kernel) ?_
              refine lv_iload (pc := 56) E.1 E.2.1 dX12_roomOf_56 (lv_at hl31 1 rfl) ?_
              refine lv_ishl (pc := 58) E.1 E.2.1 dX12_roomOf_58 ?_
              refine lv_topi (fun v_33 ev_33 => ?_)
              have hb1v_33 : 1 ≤ v_33.toInt ∧ v_33.toInt ≤ 512 := by rw [ev_33]; exact shl9 (by omega)
              refine lv_iconst (pc := 59) (v := (-1)) E.1 E.2.1 dX12_roomOf_59 (by decide +kernel) ?_
              refine lv_ixor (pc := 60) E.1 E.2.1 dX12_roomOf_60 ?_
              refine lv_topi (fun v_34 ev_34 => ?_)
              refine lv_iand (pc := 61) E.1 E.2.1 dX12_roomOf_61 ?_
              refine lv_topi (fun v_35 ev_35 => ?_)
              have hb1v_35 : 0 ≤ v_35.toInt ∧ v_35.toInt ≤ v_30.toInt := by rw [ev_35]; exact and10 (by omega)
              refine lv_istore_n (pc := 62) (lv' := [(2, .int v_35), (4, .int r_21), (3, .int r_14), (0, .ref M), (1, .int z_house)]) E.1 E.2.1 dX12_roomOf_62 rfl hl31 (by decide) rfl (fun ls hl36 => ?_)
              refine lv_goto (pc := 63) (tgt := 9) E.1 E.2.1 dX12_roomOf_63 (by decide) ?_
              exact ih_9 v_35 _ _ _ ⟨(by show 0 ≤ v_35.toInt; omega), (by show v_35.toInt ≤ 1023; omega)⟩ (by omega) hw23 (lv_sub hl36 [0, 3, 4] rfl)
          · skip
            have hc_28 := eqE (a := r_21.toInt) (b := z_house.toInt) rfl rfl c_28
            refine lv_iload_n (pc := 40) E.1 E.2.1 dX12_roomOf_40 rfl (lv_at hl26 1 rfl) ?_
            exact em_i (w1 := (fun (u : Unit) => (MW cI cJ M mr mi mf mg))) E hr hlk () hw23 trivial (Nat.le_of_ble_eq_true rfl) (Nat.le_of_ble_eq_true rfl) dX12_roomOf_41
        · skip
          have hc_27 := eqE (a := r_14.toInt) (b := z_house.toInt) rfl rfl c_27
          refine lv_iload (pc := 31) E.1 E.2.1 dX12_roomOf_31 (lv_at hl26 0 rfl) ?_
          exact em_i (w1 := (fun (u : Unit) => (MW cI cJ M mr mi mf mg))) E hr hlk () hw23 trivial (Nat.le_of_ble_eq_true rfl) (Nat.le_of_ble_eq_true rfl) dX12_roomOf_33
  exact loop_7 (Int.toNat (v_5.toInt) + 1) v_5 _ _ _ ⟨(by show 0 ≤ v_5.toInt; omega), (by show v_5.toInt ≤ 1023; omega)⟩ (by omega) hw1 (lv_sub hl6 [0, 1, 2] rfl)

set_option maxHeartbeats 4000000 in
set_option maxRecDepth 100000 in
theorem s_rooms (l : Launch) (D : va_G) (cI cJ : ClassId) (sz M : Nat) (mr : Nat → Nat) (mi : Nat → Int32) (mf : Nat → Nat → Int32) (mg : Nat → Nat → Int64) (z_what : Int32) (h0 : 0 ≤ (mi 6).toInt ∧ (mi 6).toInt ≤ 10) : Met l yX12_rooms (Cond.code yX12_rooms cX12_rooms 2 (some .int) :: GW) ({ frames := 4, cells := 0, slots := 0, locals := 110 } : Room) (va_Pc [.ref M, .int z_what] (PW D cI cJ sz (MW cI cJ M mr mi mf mg) xT)) (va_Qi (fun (r : Int32) (u : Int32 × (Nat → Int32)) => True) (fun u => QW D cI cJ (va_A (MW cI cJ M mr mi mf mg) sz) ((fun (u : Int32 × (Nat → Int32)) => (MW cI cJ M mr (upd mi 0 u.1) (va_up mf 61 u.2) mg)) u)) (va_A (MW cI cJ M mr mi mf mg) sz)) 0 0 (va_A (MW cI cJ M mr mi mf mg) sz) := by
  refine mk_met (y := yX12_rooms) (bytes := cX12_rooms) (maxL := 2) (avs := [.ref M, .int z_what]) (WS := (MW cI cJ M mr mi mf mg)) (Qf := fun A => va_Qi (fun (r : Int32) (u : Int32 × (Nat → Int32)) => True) (fun u => QW D cI cJ A ((fun (u : Int32 × (Nat → Int32)) => (MW cI cJ M mr (upd mi 0 u.1) (va_up mf 61 u.2) mg)) u)) A) (by decide) (Nat.le_of_ble_eq_true rfl) ?_
  intro p e s m below meth c A ls E hr hlk hnm hX hw1 hl2
  have hl3 : lv_has ls 2 [(0, .ref M), (1, .int z_what)] := hl2
  refine lv_aload_n (pc := 0) E.1 E.2.1 dX12_rooms_0 rfl (lv_at hl3 0 rfl) ?_
  refine lv_iconst (pc := 1) (v := 0) E.1 E.2.1 dX12_rooms_1 (by decide +kernel) ?_
  refine x_put (pc := 2) (T := TX12) (N := 70) (ci := 12) (ws' := (MW cI cJ M mr (upd mi 0 0) mf mg)) E hw1 inX12 tyX12_ok nmX12 0 0 q_1399 rfl rfl (by decide) rfl rfl rfl rfl (Nat.le_of_ble_eq_true rfl) rfl dX12_rooms_2 (fun H locs hw4 => ?_)
  refine lv_iload_n (pc := 5) E.1 E.2.1 dX12_rooms_5 rfl (lv_at hl3 1 rfl) ?_
  refine lv_if_eq (pc := 6) (tgt := 28) E.1 E.2.1 dX12_rooms_6 (by decide) (fun c_5 => ?_) (fun c_5 => ?_)
  · skip
    have hc_5 := eqE (a := z_what.toInt) (b := 0) rfl (by decide +kernel) c_5
    refine lv_aload_n (pc := 28) E.1 E.2.1 dX12_rooms_28 rfl (lv_at hl3 0 rfl) ?_
    refine cm_v (pc := 29) hw4 (rn_M (As := []) (rest := []) E hw4 (s_findsPairs l D cI cJ _ M mr (upd mi 0 0) mf mg h0) (gdV q_2026 q_2028 q_131 q_162 q_2029) hdV_X12_findsPairs ⟨rfl, rfl⟩ ⟨(Nat.le_of_ble_eq_true rfl), (Nat.le_of_ble_eq_true rfl)⟩ ⟨(Nat.le_of_ble_eq_true rfl), (Nat.le_of_ble_eq_true rfl)⟩ 12 rfl rfl rfl rfl hl3.1 rfl (Nat.le_of_ble_eq_true rfl) dX12_rooms_29) (fun u_6 H1 locs hp hw8 => ?_)
    obtain ⟨gpairsOf_9, rfl⟩ : ∃ z, z = u_6 := ⟨_, rfl⟩
    generalize H1 = H at hw8 ⊢
    have hw10 : WD D A s.heap (MW cI cJ M mr (upd mi 0 0) (va_up mf 61 gpairsOf_9) mg) H locs := hw8
    refine lv_iload_n (pc := 32) E.1 E.2.1 dX12_rooms_32 rfl (lv_at hl3 1 rfl) ?_
    refine lv_if_ne (pc := 33) (tgt := 52) E.1 E.2.1 dX12_rooms_33 (by decide) (fun c_11 => absurd (meqE (a := z_what.toInt) (b := 0) rfl (by decide +kernel) (by omega)) c_11) (fun _ => ?_)
    refine lv_aload_n (pc := 36) E.1 E.2.1 dX12_rooms_36 rfl (lv_at hl3 0 rfl) ?_
    refine x_get (pc := 37) (T := TX12) (N := 70) (ci := 12) (v := .ref (mr 61)) E hw10 inX12 0 61 q_1460 rfl rfl (by decide) rfl rfl dX12_rooms_37 ?_
    refine lv_iconst (pc := 40) (v := 1) E.1 E.2.1 dX12_rooms_40 (by decide +kernel) ?_
    refine lv_aload_n (pc := 41) E.1 E.2.1 dX12_rooms_41 rfl (lv_at hl3 0 rfl) ?_
    refine x_get (pc := 42) (T := TX12) (N := 70) (ci := 12) (v := .int (mi 6)) E hw10 inX12 0 6 q_1405 rfl rfl (by decide) rfl rfl dX12_rooms_42 ?_
    refine lv_ishl (pc := 45) E.1 E.2.1 dX12_rooms_45 ?_
    refine lv_topi (fun v_12 ev_12 => ?_)
    have hb1v_12 : 1 ≤ v_12.toInt ∧ v_12.toInt ≤ 1024 := by rw [ev_12]; exact shl10 (by omega)
    refine lv_iconst (pc := 46) (v := 1) E.1 E.2.1 dX12_rooms_46 (by decide +kernel) ?_
    refine lv_isub (pc := 47) E.1 E.2.1 dX12_rooms_47 ?_
    refine lv_topi (fun v_13 ev_13 => ?_)
    have hv_13 : v_13.toInt = v_12.toInt - 1 := by rw [ev_13]; exact subE rfl (by decide +kernel) (by omega)
    refine x_iald (pc := 48) (f := gpairsOf_9) E hw10 33 rfl (inbE (a := v_13.toInt) rfl (by omega)) dX12_rooms_48 ?_
    refine lv_topi (fun v_14 ev_14 => ?_)
    refine lv_goto (pc := 49) (tgt := 60) E.1 E.2.1 dX12_rooms_49 (by decide) ?_
    exact em_i (w1 := (fun (u : Int32 × (Nat → Int32)) => (MW cI cJ M mr (upd mi 0 u.1) (va_up mf 61 u.2) mg))) E hr hlk (0, gpairsOf_9) hw10 trivial (Nat.le_of_ble_eq_true rfl) (Nat.le_of_ble_eq_true rfl) dX12_rooms_60
  · skip
    have hc_5 := neE (a := z_what.toInt) (b := 0) rfl (by decide +kernel) c_5
    refine lv_aload_n (pc := 9) E.1 E.2.1 dX12_rooms_9 rfl (lv_at hl3 0 rfl) ?_
    refine lv_iload_n (pc := 10) E.1 E.2.1 dX12_rooms_10 rfl (lv_at hl3 1 rfl) ?_
    refine lv_bipush (pc := 11) (v := 10) E.1 E.2.1 dX12_rooms_11 (by decide +kernel) ?_
    refine lv_bipush (pc := 13) (v := 9) E.1 E.2.1 dX12_rooms_13 (by decide +kernel) ?_
    refine lv_aload_n (pc := 15) E.1 E.2.1 dX12_rooms_15 rfl (lv_at hl3 0 rfl) ?_
    refine x_get (pc := 16) (T := TX12) (N := 70) (ci := 12) (v := .int (mi 6)) E hw4 inX12 0 6 q_1405 rfl rfl (by decide) rfl rfl dX12_rooms_16 ?_
    refine lv_iadd (pc := 19) E.1 E.2.1 dX12_rooms_19 ?_
    refine lv_topi (fun v_15 ev_15 => ?_)
    have hv_15 : v_15.toInt = 9 + (mi 6).toInt := by rw [ev_15]; exact addE (by decide +kernel) rfl (by omega)
    refine cm_i (pc := 20) hw4 (rn_M (As := [.int z_what, .int 10, .int v_15]) (rest := []) E hw4 (s_isIn l D cI cJ _ M mr (upd mi 0 0) mf mg z_what 10 v_15) (gdV q_1622 q_1624 q_46 q_162 q_1625) hdV_X12_isIn ⟨rfl, rfl⟩ ⟨(Nat.le_of_ble_eq_true rfl), (Nat.le_of_ble_eq_true rfl)⟩ ⟨(Nat.le_of_ble_eq_true rfl), (Nat.le_of_ble_eq_true rfl)⟩ 12 rfl rfl rfl rfl hl3.1 rfl (Nat.le_of_ble_eq_true rfl) dX12_rooms_20) (fun r_17 u_16 H1 locs hp hw18 => ?_)
    generalize H1 = H at hw18 ⊢
    have hw19 : WD D A s.heap (MW cI cJ M mr (upd mi 0 0) mf mg) H locs := hw18
    have hp_20 := hp
    rcases hp_20 with ⟨rfl, ha_21⟩ | ⟨rfl, ha_22⟩ | ⟨rfl, ha_23, ha_24⟩
    · skip
      have ha_21 : z_what.toInt < (10 : Int32).toInt := ha_21
      rw [show (10 : Int32).toInt = 10 from by decide +kernel] at ha_21
      refine lv_if_ne (pc := 23) (tgt := 28) E.1 E.2.1 dX12_rooms_23 (by decide) (fun c_25 => absurd (meqE (a := 0) (b := 0) (by decide +kernel) (by decide +kernel) (by omega)) c_25) (fun _ => ?_)
      refine lv_iconst (pc := 26) (v := (-1)) E.1 E.2.1 dX12_rooms_26 (by decide +kernel) ?_
      exact em_i (w1 := (fun (u : Int32 × (Nat → Int32)) => (MW cI cJ M mr (upd mi 0 u.1) (va_up mf 61 u.2) mg))) E hr hlk (0, (mf 61)) hw19 trivial (Nat.le_of_ble_eq_true rfl) (Nat.le_of_ble_eq_true rfl) dX12_rooms_27
    · skip
      have ha_22 : v_15.toInt < z_what.toInt := ha_22
      refine lv_if_ne (pc := 23) (tgt := 28) E.1 E.2.1 dX12_rooms_23 (by decide) (fun c_26 => absurd (meqE (a := 0) (b := 0) (by decide +kernel) (by decide +kernel) (by omega)) c_26) (fun _ => ?_)
      refine lv_iconst (pc := 26) (v := (-1)) E.1 E.2.1 dX12_rooms_26 (by decide +kernel) ?_
      exact em_i (w1 := (fun (u : Int32 × (Nat → Int32)) => (MW cI cJ M mr (upd mi 0 u.1) (va_up mf 61 u.2) mg))) E hr hlk (0, (mf 61)) hw19 trivial (Nat.le_of_ble_eq_true rfl) (Nat.le_of_ble_eq_true rfl) dX12_rooms_27
    · skip
      have ha_23 : (10 : Int32).toInt ≤ z_what.toInt := ha_23
      rw [show (10 : Int32).toInt = 10 from by decide +kernel] at ha_23
      have ha_24 : z_what.toInt ≤ v_15.toInt := ha_24
      refine lv_if_ne (pc := 23) (tgt := 28) E.1 E.2.1 dX12_rooms_23 (by decide) (fun _ => ?_) (fun c_27 => absurd c_27 (mneE (a := 1) (b := 0) (by decide +kernel) (by decide +kernel) (by omega)))
      refine lv_aload_n (pc := 28) E.1 E.2.1 dX12_rooms_28 rfl (lv_at hl3 0 rfl) ?_
      refine cm_v (pc := 29) hw19 (rn_M (As := []) (rest := []) E hw19 (s_findsPairs l D cI cJ _ M mr (upd mi 0 0) mf mg h0) (gdV q_2026 q_2028 q_131 q_162 q_2029) hdV_X12_findsPairs ⟨rfl, rfl⟩ ⟨(Nat.le_of_ble_eq_true rfl), (Nat.le_of_ble_eq_true rfl)⟩ ⟨(Nat.le_of_ble_eq_true rfl), (Nat.le_of_ble_eq_true rfl)⟩ 12 rfl rfl rfl rfl hl3.1 rfl (Nat.le_of_ble_eq_true rfl) dX12_rooms_29) (fun u_28 H1 locs hp hw30 => ?_)
      obtain ⟨gpairsOf_31, rfl⟩ : ∃ z, z = u_28 := ⟨_, rfl⟩
      generalize H1 = H at hw30 ⊢
      have hw32 : WD D A s.heap (MW cI cJ M mr (upd mi 0 0) (va_up mf 61 gpairsOf_31) mg) H locs := hw30
      refine lv_iload_n (pc := 32) E.1 E.2.1 dX12_rooms_32 rfl (lv_at hl3 1 rfl) ?_
      refine lv_if_ne (pc := 33) (tgt := 52) E.1 E.2.1 dX12_rooms_33 (by decide) (fun _ => ?_) (fun c_33 => absurd c_33 (mneE (a := z_what.toInt) (b := 0) rfl (by decide +kernel) (by omega)))
      refine lv_aload_n (pc := 52) E.1 E.2.1 dX12_rooms_52 rfl (lv_at hl3 0 rfl) ?_
      refine lv_iload_n (pc := 53) E.1 E.2.1 dX12_rooms_53 rfl (lv_at hl3 1 rfl) ?_
      refine lv_bipush (pc := 54) (v := 10) E.1 E.2.1 dX12_rooms_54 (by decide +kernel) ?_
      refine lv_isub (pc := 56) E.1 E.2.1 dX12_rooms_56 ?_
      refine lv_topi (fun v_34 ev_34 => ?_)
      have hv_34 : v_34.toInt = z_what.toInt - 10 := by rw [ev_34]; exact subE rfl (by decide +kernel) (by omega)
      refine cm_i (pc := 57) hw32 (rn_M (As := [.int v_34]) (rest := []) E hw32 (s_roomOf l D cI cJ _ M mr (upd mi 0 0) (va_up mf 61 gpairsOf_31) mg v_34 h0) (gdV q_2042 q_2044 q_135 q_162 q_2045) hdV_X12_roomOf ⟨rfl, rfl⟩ ⟨(Nat.le_of_ble_eq_true rfl), (Nat.le_of_ble_eq_true rfl)⟩ ⟨(Nat.le_of_ble_eq_true rfl), (Nat.le_of_ble_eq_true rfl)⟩ 12 rfl rfl rfl rfl hl3.1 rfl (Nat.le_of_ble_eq_true rfl) dX12_rooms_57) (fun r_36 u_35 H1 locs hp hw37 => ?_)
      generalize H1 = H at hw37 ⊢
      have hw38 : WD D A s.heap (MW cI cJ M mr (upd mi 0 0) (va_up mf 61 gpairsOf_31) mg) H locs := hw37
      exact em_i (w1 := (fun (u : Int32 × (Nat → Int32)) => (MW cI cJ M mr (upd mi 0 u.1) (va_up mf 61 u.2) mg))) E hr hlk (0, gpairsOf_31) hw38 trivial (Nat.le_of_ble_eq_true rfl) (Nat.le_of_ble_eq_true rfl) dX12_rooms_60
