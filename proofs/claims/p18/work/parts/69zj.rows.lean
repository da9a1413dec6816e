set_option maxHeartbeats 4000000 in
set_option maxRecDepth 100000 in
theorem t_been (l : Launch) (D : va_G) (cI cJ : ClassId) (sz : Nat) (mr : Nat → Nat) (mi : Nat → Int32) (mf : Nat → Nat → Int32) (mg : Nat → Nat → Int64) (z_n : Int32) (z_night : Int32) (mv : Nat → Value) (h0 : 0 ≤ (mi 1).toInt ∧ (mi 1).toInt ≤ 5) (h1 : 0 ≤ (mi 2).toInt ∧ (mi 2).toInt ≤ 6) (h2 : 0 ≤ (mi 24).toInt ∧ (mi 24).toInt ≤ 200) (h3 : 0 ≤ (mi 32).toInt ∧ (mi 32).toInt ≤ 10) (h4 : 0 ≤ (mi 40).toInt ∧ (mi 40).toInt ≤ 40) (h5 : 0 ≤ (mi 49).toInt ∧ (mi 49).toInt ≤ 10) (h6 : 0 ≤ (mi 72).toInt ∧ (mi 72).toInt ≤ 200) (h7 : 0 ≤ (mi 79).toInt ∧ (mi 79).toInt ≤ 8) (a_p_from : p9 (mf 36)) (a_p_to : p9 (mf 37)) (a_t_marks : m4 (mf 53)) (a_u_marks : m4 (mf 63)) : Met l yX11_been (Cond.code yX11_been cX11_been 5 (some .int) :: GW) ({ frames := 11, cells := 0, slots := 0, locals := 263 } : Room) (va_Pc [.ref (mr 0), .int z_n, .int z_night] (PW D cI cJ sz (WZ_Mtrail cI cJ mv mr mi mf mg) xT)) (va_Qi (fun (r : Int32) (u : (Nat → Int32) × (Nat → Nat → Int32) × (Nat → Nat → Int64)) => (0 ≤ (u.1 1).toInt) ∧ ((u.1 1).toInt ≤ 5) ∧ (0 ≤ (u.1 2).toInt) ∧ ((u.1 2).toInt ≤ 6) ∧ (0 ≤ (u.1 24).toInt) ∧ ((u.1 24).toInt ≤ 200) ∧ (0 ≤ (u.1 32).toInt) ∧ ((u.1 32).toInt ≤ 10) ∧ (0 ≤ (u.1 40).toInt) ∧ ((u.1 40).toInt ≤ 40) ∧ (0 ≤ (u.1 49).toInt) ∧ ((u.1 49).toInt ≤ 10) ∧ (0 ≤ (u.1 72).toInt) ∧ ((u.1 72).toInt ≤ 200) ∧ (0 ≤ (u.1 79).toInt) ∧ ((u.1 79).toInt ≤ 8) ∧ ((u.1 32).toInt = (mi 32).toInt) ∧ ((u.1 79).toInt = (mi 79).toInt) ∧ (p9 (u.2.1 36)) ∧ (p9 (u.2.1 37)) ∧ (m4 (u.2.1 53)) ∧ (m4 (u.2.1 63)) ∧ ((Eq (mf 27)) (u.2.1 27)) ∧ ((Eq (mf 31)) (u.2.1 31))) (fun u => QW D cI cJ (va_A (WZ_Mtrail cI cJ mv mr mi mf mg) sz) ((fun (u : (Nat → Int32) × (Nat → Nat → Int32) × (Nat → Nat → Int64)) => (WZ_Mtrail cI cJ mv mr u.1 u.2.1 u.2.2)) u)) (va_A (WZ_Mtrail cI cJ mv mr mi mf mg) sz)) 0 0 (va_A (WZ_Mtrail cI cJ mv mr mi mf mg) sz) := by
  refine mk_met (y := yX11_been) (bytes := cX11_been) (maxL := 5) (avs := [.ref (mr 0), .int z_n, .int z_night]) (WS := (WZ_Mtrail cI cJ mv mr mi mf mg)) (Qf := fun A => va_Qi (fun (r : Int32) (u : (Nat → Int32) × (Nat → Nat → Int32) × (Nat → Nat → Int64)) => (0 ≤ (u.1 1).toInt) ∧ ((u.1 1).toInt ≤ 5) ∧ (0 ≤ (u.1 2).toInt) ∧ ((u.1 2).toInt ≤ 6) ∧ (0 ≤ (u.1 24).toInt) ∧ ((u.1 24).toInt ≤ 200) ∧ (0 ≤ (u.1 32).toInt) ∧ ((u.1 32).toInt ≤ 10) ∧ (0 ≤ (u.1 40).toInt) ∧ ((u.1 40).toInt ≤ 40) ∧ (0 ≤ (u.1 49).toInt) ∧ ((u.1 49).toInt ≤ 10) ∧ (0 ≤ (u.1 72).toInt) ∧ ((u.1 72).toInt ≤ 200) ∧ (0 ≤ (u.1 79).toInt) ∧ ((u.1 79).toInt ≤ 8) ∧ ((u.1 32).toInt = (mi 32).toInt) ∧ ((u.1 79).toInt = (mi 79).toInt) ∧ (p9 (u.2.1 36)) ∧ (p9 (u.2.1 37)) ∧ (m4 (u.2.1 53)) ∧ (m4 (u.2.1 63)) ∧ ((Eq (mf 27)) (u.2.1 27)) ∧ ((Eq (mf 31)) (u.2.1 31))) (fun u => QW D cI cJ A ((fun (u : (Nat → Int32) × (Nat → Nat → Int32) × (Nat → Nat → Int64)) => (WZ_Mtrail cI cJ mv mr u.1 u.2.1 u.2.2)) u)) A) (by decide) (Nat.le_of_ble_eq_true rfl) ?_
  intro p e s m below meth c A ls E hr hlk hnm hX hw1 hl2
  have hl3 : lv_has ls 5 [(0, .ref (mr 0)), (1, .int z_n), (2, .int z_night)] := hl2
  refine lv_iload_n (pc := 0) E.1 E.2.1 dX11_been_0 rfl (lv_at hl3 1 rfl) ?_
  refine lv_iconst (pc := 1) (v := 1) E.1 E.2.1 dX11_been_1 (by decide +kernel) ?_
  refine lv_icmp_lt (pc := 2) (tgt := 20) E.1 E.2.1 dX11_been_2 (by decide) (fun c_4 => ?_) (fun c_4 => ?_)
  · skip
    have hc_4 := ltE (a := z_n.toInt) (b := 1) rfl (by decide +kernel) c_4
    refine lv_iconst (pc := 20) (v := (-1)) E.1 E.2.1 dX11_been_20 (by decide +kernel) ?_
    exact em_i (w1 := (fun (u : (Nat → Int32) × (Nat → Nat → Int32) × (Nat → Nat → Int64)) => (WZ_Mtrail cI cJ mv mr u.1 u.2.1 u.2.2))) E hr hlk (mi, mf, mg) hw1 ⟨h0.1, h0.2, h1.1, h1.2, h2.1, h2.2, h3.1, h3.2, h4.1, h4.2, h5.1, h5.2, h6.1, h6.2, h7.1, h7.2, rfl, rfl, a_p_from, a_p_to, a_t_marks, a_u_marks, rfl, rfl⟩ (Nat.le_of_ble_eq_true rfl) (Nat.le_of_ble_eq_true rfl) dX11_been_21
  · skip
    have hc_4 := nltE (a := z_n.toInt) (b := 1) rfl (by decide +kernel) c_4
    refine lv_iload_n (pc := 5) E.1 E.2.1 dX11_been_5 rfl (lv_at hl3 1 rfl) ?_
    refine lv_bipush (pc := 6) (v := 10) E.1 E.2.1 dX11_been_6 (by decide +kernel) ?_
    refine lv_icmp_gt (pc := 8) (tgt := 20) E.1 E.2.1 dX11_been_8 (by decide) (fun c_5 => ?_) (fun c_5 => ?_)
    · skip
      have hc_5 := ltE (a := 10) (b := z_n.toInt) (by decide +kernel) rfl c_5
      refine lv_iconst (pc := 20) (v := (-1)) E.1 E.2.1 dX11_been_20 (by decide +kernel) ?_
      exact em_i (w1 := (fun (u : (Nat → Int32) × (Nat → Nat → Int32) × (Nat → Nat → Int64)) => (WZ_Mtrail cI cJ mv mr u.1 u.2.1 u.2.2))) E hr hlk (mi, mf, mg) hw1 ⟨h0.1, h0.2, h1.1, h1.2, h2.1, h2.2, h3.1, h3.2, h4.1, h4.2, h5.1, h5.2, h6.1, h6.2, h7.1, h7.2, rfl, rfl, a_p_from, a_p_to, a_t_marks, a_u_marks, rfl, rfl⟩ (Nat.le_of_ble_eq_true rfl) (Nat.le_of_ble_eq_true rfl) dX11_been_21
    · skip
      have hc_5 := nltE (a := 10) (b := z_n.toInt) (by decide +kernel) rfl c_5
      refine lv_iload_n (pc := 11) E.1 E.2.1 dX11_been_11 rfl (lv_at hl3 2 rfl) ?_
      refine lv_if_lt (pc := 12) (tgt := 20) E.1 E.2.1 dX11_been_12 (by decide) (fun c_6 => ?_) (fun c_6 => ?_)
      · skip
        have hc_6 := ltE (a := z_night.toInt) (b := 0) rfl (by decide +kernel) c_6
        refine lv_iconst (pc := 20) (v := (-1)) E.1 E.2.1 dX11_been_20 (by decide +kernel) ?_
        exact em_i (w1 := (fun (u : (Nat → Int32) × (Nat → Nat → Int32) × (Nat → Nat → Int64)) => (WZ_Mtrail cI cJ mv mr u.1 u.2.1 u.2.2))) E hr hlk (mi, mf, mg) hw1 ⟨h0.1, h0.2, h1.1, h1.2, h2.1, h2.2, h3.1, h3.2, h4.1, h4.2, h5.1, h5.2, h6.1, h6.2, h7.1, h7.2, rfl, rfl, a_p_from, a_p_to, a_t_marks, a_u_marks, rfl, rfl⟩ (Nat.le_of_ble_eq_true rfl) (Nat.le_of_ble_eq_true rfl) dX11_been_21
      · skip
        have hc_6 := nltE (a := z_night.toInt) (b := 0) rfl (by decide +kernel) c_6
        refine lv_iload_n (pc := 15) E.1 E.2.1 dX11_been_15 rfl (lv_at hl3 2 rfl) ?_
        refine lv_iload_n (pc := 16) E.1 E.2.1 dX11_been_16 rfl (lv_at hl3 1 rfl) ?_
        refine lv_icmp_lt (pc := 17) (tgt := 22) E.1 E.2.1 dX11_been_17 (by decide) (fun c_7 => ?_) (fun c_7 => ?_)
        · skip
          have hc_7 := ltE (a := z_night.toInt) (b := z_n.toInt) rfl rfl c_7
          refine lv_aload_n (pc := 22) E.1 E.2.1 dX11_been_22 rfl (lv_at hl3 0 rfl) ?_
          refine x_get (pc := 23) (T := TX11) (N := 13) (ci := 11) (v := .ref (mr 80)) E hw1 inX11 0 12 q_618 rfl rfl (by decide) rfl rfl dX11_been_23 ?_
          refine lv_aload_n (pc := 26) E.1 E.2.1 dX11_been_26 rfl (lv_at hl3 0 rfl) ?_
          refine x_get (pc := 27) (T := TX11) (N := 13) (ci := 11) (v := .ref (mr 3)) E hw1 inX11 0 0 q_606 rfl rfl (by decide) rfl rfl dX11_been_27 ?_
          refine lv_iload_n (pc := 30) E.1 E.2.1 dX11_been_30 rfl (lv_at hl3 1 rfl) ?_
          refine cq_l (pc := 31) (ws' := (fun (u : (Nat → Int32) × (Nat → Int64) × (Nat → Int64) × (Nat → Int32) × (Nat → Int32)) => (WZ_Mtrail cI cJ mv mr mi (va_up (va_up (va_up mf 41 u.2.2.2.1) 42 u.2.2.2.2) 83 u.1) (va_up (va_up mg 81 u.2.1) 82 u.2.2.1)))) hw1 [51, 52, 53, 54, 1, 2, 3, 4, 5, 6, 7, 8, 9, 10, 11, 12, 13, 14, 15, 16, 17, 18, 19, 20, 21, 22, 23, 24, 25, 26, 27, 28, 29, 30, 31, 32, 33, 34, 35, 36, 37, 38, 39, 40, 41, 42, 43, 44, 45, 46, 47, 48, 49, 50] [0] [0, 5, 6, 7, 8, 9, 10, 11, 12, 13, 14, 15, 16, 17, 18, 19, 20, 21, 22, 23, 24, 25, 26, 27, 28, 29, 30, 31, 32, 33, 34, 35, 36, 37, 38, 39, 40, 41, 42, 43, 44, 45, 46, 47, 48, 49, 50, 51, 52, 53, 54, 1, 2, 3, 4] rfl rfl (by decide) (by decide) (fun _ => rfl) (by decide) (rn_V (As := [.ref (mr 3), .int z_n]) (rest := []) E hw1 (t_follow l D cI cJ _ (shs [(0, 80, 4), (4, 3, 77)] mr) (shs [(0, 80, 4), (4, 3, 77)] mi) (shs [(0, 80, 4), (4, 3, 77)] mf) (shs [(0, 80, 4), (4, 3, 77)] mg) z_n (vl [mv 9]) h3 h4 h5 h7 (by show 1 ≤ z_n.toInt ∧ z_n.toInt ≤ 10; omega) a_p_from a_p_to) (gdV q_1328 q_1329 q_1330 q_161 q_1331) hdV_X9_follow ⟨rfl, rfl⟩ ⟨(Nat.le_of_ble_eq_true rfl), (Nat.le_of_ble_eq_true rfl)⟩ ⟨(Nat.le_of_ble_eq_true rfl), (Nat.le_of_ble_eq_true rfl)⟩ xT_b xT_at 51 9 rfl rfl rfl [51, 52, 53, 54, 1, 2, 3, 4, 5, 6, 7, 8, 9, 10, 11, 12, 13, 14, 15, 16, 17, 18, 19, 20, 21, 22, 23, 24, 25, 26, 27, 28, 29, 30, 31, 32, 33, 34, 35, 36, 37, 38, 39, 40, 41, 42, 43, 44, 45, 46, 47, 48, 49, 50] rfl (by decide) rfl hl3.1 rfl (Nat.le_of_ble_eq_true rfl) dX11_been_31) (fun r_9 u_8 H1 locs hp hw10 => ?_)
          obtain ⟨greached_11, gleading_12, ggoing_13, gpmeasured_14, gpmeasuredIn_15⟩ := u_8
          generalize H1 = H at hw10 ⊢
          have hw16 : WD D A s.heap (WZ_Mtrail cI cJ mv mr mi (va_up (va_up (va_up mf 41 gpmeasured_14) 42 gpmeasuredIn_15) 83 greached_11) (va_up (va_up mg 81 gleading_12) 82 ggoing_13)) H locs := hw10
          refine lv_pop2_2 (pc := 34) E.1 E.2.1 dX11_been_34 rfl ?_
          refine lv_iconst (pc := 35) (v := 0) E.1 E.2.1 dX11_been_35 (by decide +kernel) ?_
          refine lv_istore_n (pc := 36) (lv' := [(3, .int 0), (0, .ref (mr 0)), (1, .int z_n), (2, .int z_night)]) E.1 E.2.1 dX11_been_36 rfl hl3 (by decide) rfl (fun ls hl17 => ?_)
          refine lv_iconst (pc := 37) (v := 0) E.1 E.2.1 dX11_been_37 (by decide +kernel) ?_
          refine lv_istore (pc := 38) (lv' := [(4, .int 0), (3, .int 0), (0, .ref (mr 0)), (1, .int z_n), (2, .int z_night)]) E.1 E.2.1 dX11_been_38 hl17 (by decide) rfl (fun ls hl18 => ?_)
          have loop_19 : ∀ (k : Nat) (x_20 : Int32) (x_21 : Int32) (H : Heap) (locs : List Loc) (ls : Array Slot), (0 ≤ x_21.toInt) ∧ (x_21.toInt ≤ (mi 32).toInt) → (mi 32).toInt - x_21.toInt < (k : Int) → WD D A s.heap (WZ_Mtrail cI cJ mv mr mi (va_up (va_up (va_up mf 41 gpmeasured_14) 42 gpmeasuredIn_15) 83 greached_11) (va_up (va_up mg 81 gleading_12) 82 ggoing_13)) H locs → lv_has ls 5 [(4, .int x_21), (3, .int x_20), (0, .ref (mr 0)), (1, .int z_n), (2, .int z_night)] → W p l e ({ frames := 11, cells := 0, slots := 0, locals := 263 } : Room) s m ([.ref (mr 0), .int z_n, .int z_night] : List Value).toArray below meth c H locs 0 0 (MQ below (va_Qi (fun (r : Int32) (u : (Nat → Int32) × (Nat → Nat → Int32) × (Nat → Nat → Int64)) => (0 ≤ (u.1 1).toInt) ∧ ((u.1 1).toInt ≤ 5) ∧ (0 ≤ (u.1 2).toInt) ∧ ((u.1 2).toInt ≤ 6) ∧ (0 ≤ (u.1 24).toInt) ∧ ((u.1 24).toInt ≤ 200) ∧ (0 ≤ (u.1 32).toInt) ∧ ((u.1 32).toInt ≤ 10) ∧ (0 ≤ (u.1 40).toInt) ∧ ((u.1 40).toInt ≤ 40) ∧ (0 ≤ (u.1 49).toInt) ∧ ((u.1 49).toInt ≤ 10) ∧ (0 ≤ (u.1 72).toInt) ∧ ((u.1 72).toInt ≤ 200) ∧ (0 ≤ (u.1 79).toInt) ∧ ((u.1 79).toInt ≤ 8) ∧ ((u.1 32).toInt = (mi 32).toInt) ∧ ((u.1 79).toInt = (mi 79).toInt) ∧ (p9 (u.2.1 36)) ∧ (p9 (u.2.1 37)) ∧ (m4 (u.2.1 53)) ∧ (m4 (u.2.1 63)) ∧ ((Eq (mf 27)) (u.2.1 27)) ∧ ((Eq (mf 31)) (u.2.1 31))) (fun u => QW D cI cJ A ((fun (u : (Nat → Int32) × (Nat → Nat → Int32) × (Nat → Nat → Int64)) => (WZ_Mtrail cI cJ mv mr u.1 u.2.1 u.2.2)) u)) A) ([.ref (mr 0), .int z_n, .int z_night] : List Value).toArray s 0 0 A) (F0 m 40 ls []) := by
            intro k
            induction k with
            | zero =>
              intro x_20 x_21 _ _ _ hinv hm
              obtain ⟨hi_21_0, hi_21_1⟩ := hinv
              exact absurd hm (by omega)
            | succ k ih_22 =>
              intro x_20 x_21 H locs ls hinv hm hw23 hl24
              obtain ⟨hi_21_0, hi_21_1⟩ := hinv
              refine lv_iload (pc := 40) E.1 E.2.1 dX11_been_40 (lv_at hl24 0 rfl) ?_
              refine lv_aload_n (pc := 42) E.1 E.2.1 dX11_been_42 rfl (lv_at hl24 2 rfl) ?_
              refine x_get (pc := 43) (T := TX11) (N := 13) (ci := 11) (v := .ref (mr 3)) E hw23 inX11 0 0 q_606 rfl rfl (by decide) rfl rfl dX11_been_43 ?_
              refine x_get (pc := 46) (T := TX10) (N := 17) (ci := 10) (v := .ref (mr 26)) E hw23 inX10 1 1 q_463 rfl rfl (by decide) rfl rfl dX11_been_46 ?_
              refine x_get (pc := 49) (T := TX1) (N := 9) (ci := 1) (v := .int (mi 32)) E hw23 inX1 13 5 q_282 rfl rfl (by decide) rfl rfl dX11_been_49 ?_
              refine lv_icmp_ge (pc := 52) (tgt := 83) E.1 E.2.1 dX11_been_52 (by decide) (fun c_25 => ?_) (fun c_25 => ?_)
              · skip
                have hc_25 := leE (a := (mi 32).toInt) (b := x_21.toInt) rfl rfl c_25
                refine lv_iload_n (pc := 83) E.1 E.2.1 dX11_been_83 rfl (lv_at hl24 1 rfl) ?_
                exact em_i (w1 := (fun (u : (Nat → Int32) × (Nat → Nat → Int32) × (Nat → Nat → Int64)) => (WZ_Mtrail cI cJ mv mr u.1 u.2.1 u.2.2))) E hr hlk (mi, (va_up (va_up (va_up mf 41 gpmeasured_14) 42 gpmeasuredIn_15) 83 greached_11), (va_up (va_up mg 81 gleading_12) 82 ggoing_13)) hw23 ⟨h0.1, h0.2, h1.1, h1.2, h2.1, h2.2, h3.1, h3.2, h4.1, h4.2, h5.1, h5.2, h6.1, h6.2, h7.1, h7.2, rfl, rfl, a_p_from, a_p_to, a_t_marks, a_u_marks, rfl, rfl⟩ (Nat.le_of_ble_eq_true rfl) (Nat.le_of_ble_eq_true rfl) dX11_been_84
              · skip
                have hc_25 := nleE (a := (mi 32).toInt) (b := x_21.toInt) rfl rfl c_25
                refine lv_aload_n (pc := 55) E.1 E.2.1 dX11_been_55 rfl (lv_at hl24 2 rfl) ?_
                refine x_get (pc := 56) (T := TX11) (N := 13) (ci := 11) (v := .ref (mr 80)) E hw23 inX11 0 12 q_618 rfl rfl (by decide) rfl rfl dX11_been_56 ?_
                refine lv_iload_n (pc := 59) E.1 E.2.1 dX11_been_59 rfl (lv_at hl24 4 rfl) ?_
                refine lv_iload (pc := 60) E.1 E.2.1 dX11_been_60 (lv_at hl24 0 rfl) ?_
                refine ck_l (pc := 62) (ws' := (fun (u : Unit) => (WZ_Mtrail cI cJ mv mr mi (va_up (va_up (va_up mf 41 gpmeasured_14) 42 gpmeasuredIn_15) 83 greached_11) (va_up (va_up mg 81 gleading_12) 82 ggoing_13)))) [false, false, false, false, false, false, false, false, false, false, false, false, false, false, false, false, false, false, false, false, false, false, false, false, false, false, false, false, false, false, false, false, false, false, false, false, false, false, false, false, false, false, false, false, false, false, false, false, false, false, false, true, true, true, true] hw23 rfl (fun hC_ => (rn_V (As := [.int z_night, .int x_21]) (rest := []) E hw23 (t_through l D cI cJ _ (shf 80 mr) (shf 80 mi) (shf 80 (va_up (va_up (va_up mf 41 gpmeasured_14) 42 gpmeasuredIn_15) 83 greached_11)) (shf 80 (va_up (va_up mg 81 gleading_12) 82 ggoing_13)) z_night x_21 (by show 0 ≤ z_night.toInt ∧ z_night.toInt ≤ 9; omega) (by show 0 ≤ x_21.toInt ∧ x_21.toInt ≤ 9; omega)) (gdV q_1346 q_1347 q_1348 q_161 q_1349) hdV_X9_through ⟨rfl, rfl⟩ ⟨(Nat.le_of_ble_eq_true rfl), (Nat.le_of_ble_eq_true rfl)⟩ ⟨(Nat.le_of_ble_eq_true rfl), (Nat.le_of_ble_eq_true rfl)⟩ xT_b xT_at 51 9 rfl rfl rfl _ hC_ (nd_T _ 0) rfl hl24.1 rfl (Nat.le_of_ble_eq_true rfl) dX11_been_62)) rfl (fun _ => rfl) (fun _ => rfl) (fun r_27 u_26 H1 locs hp hw28 => ?_)
                generalize H1 = H at hw28 ⊢
                have hw29 : WD D A s.heap (WZ_Mtrail cI cJ mv mr mi (va_up (va_up (va_up mf 41 gpmeasured_14) 42 gpmeasuredIn_15) 83 greached_11) (va_up (va_up mg 81 gleading_12) 82 ggoing_13)) H locs := hw28
                refine lv_lconst (pc := 65) (v := 0) E.1 E.2.1 dX11_been_65 (by decide +kernel) ?_
                refine W.lcmp (pc := 66) E.1 E.2.1 dX11_been_66 ?_
                refine lv_topi (fun v_30 ev_30 => ?_)
                refine lv_if_le (pc := 67) (tgt := 77) E.1 E.2.1 dX11_been_67 (by decide) (fun c_31 => ?_) (fun c_31 => ?_)
                · skip
                  have hc_31 := leE (a := v_30.toInt) (b := 0) rfl (by decide +kernel) c_31
                  obtain ⟨v_32, ev_32⟩ : ∃ z : Int32, x_21 + Int32.ofInt (1) = z := ⟨_, rfl⟩
                  have hv_32 : v_32.toInt = x_21.toInt + (1) := by rw [← ev_32]; exact incE rfl (by decide) (by omega)
                  refine lv_iinc (pc := 77) (v := v_32) (lv' := [(4, .int v_32), (3, .int x_20), (0, .ref (mr 0)), (1, .int z_n), (2, .int z_night)]) E.1 E.2.1 dX11_been_77 hl24 (k := 0) rfl ev_32 (by decide) rfl (fun ls hl33 => ?_)
                  refine lv_goto (pc := 80) (tgt := 40) E.1 E.2.1 dX11_been_80 (by decide) ?_
                  exact ih_22 x_20 v_32 _ _ _ ⟨(by show 0 ≤ v_32.toInt; omega), (by show v_32.toInt ≤ (mi 32).toInt; omega)⟩ (by omega) hw29 (lv_sub hl33 [0, 1, 2, 3, 4] rfl)
                · skip
                  have hc_31 := nleE (a := v_30.toInt) (b := 0) rfl (by decide +kernel) c_31
                  refine lv_iload_n (pc := 70) E.1 E.2.1 dX11_been_70 rfl (lv_at hl24 1 rfl) ?_
                  refine lv_iconst (pc := 71) (v := 1) E.1 E.2.1 dX11_been_71 (by decide +kernel) ?_
                  refine lv_iload (pc := 72) E.1 E.2.1 dX11_been_72 (lv_at hl24 0 rfl) ?_
                  refine lv_ishl (pc := 74) E.1 E.2.1 dX11_been_74 ?_
                  refine lv_topi (fun v_34 ev_34 => ?_)
                  have hb1v_34 : 1 ≤ v_34.toInt ∧ v_34.toInt ≤ 512 := by rw [ev_34]; exact shl9 (by omega)
                  refine lv_ior (pc := 75) E.1 E.2.1 dX11_been_75 ?_
                  refine lv_topi (fun v_35 ev_35 => ?_)
                  refine lv_istore_n (pc := 76) (lv' := [(3, .int v_35), (4, .int x_21), (0, .ref (mr 0)), (1, .int z_n), (2, .int z_night)]) E.1 E.2.1 dX11_been_76 rfl hl24 (by decide) rfl (fun ls hl36 => ?_)
                  obtain ⟨v_37, ev_37⟩ : ∃ z : Int32, x_21 + Int32.ofInt (1) = z := ⟨_, rfl⟩
                  have hv_37 : v_37.toInt = x_21.toInt + (1) := by rw [← ev_37]; exact incE rfl (by decide) (by omega)
                  refine lv_iinc (pc := 77) (v := v_37) (lv' := [(4, .int v_37), (3, .int v_35), (0, .ref (mr 0)), (1, .int z_n), (2, .int z_night)]) E.1 E.2.1 dX11_been_77 hl36 (k := 1) rfl ev_37 (by decide) rfl (fun ls hl38 => ?_)
                  refine lv_goto (pc := 80) (tgt := 40) E.1 E.2.1 dX11_been_80 (by decide) ?_
                  exact ih_22 v_35 v_37 _ _ _ ⟨(by show 0 ≤ v_37.toInt; omega), (by show v_37.toInt ≤ (mi 32).toInt; omega)⟩ (by omega) hw29 (lv_sub hl38 [0, 1, 2, 3, 4] rfl)
          exact loop_19 (Int.toNat ((mi 32).toInt - 0) + 1) 0 0 _ _ _ ⟨(by show 0 ≤ (0 : Int32).toInt; have k_0 : (0 : Int32).toInt = 0 := (by decide +kernel); omega), (by show (0 : Int32).toInt ≤ (mi 32).toInt; have k_0 : (0 : Int32).toInt = 0 := (by decide +kernel); omega)⟩ (by have k_0 : (0 : Int32).toInt = 0 := (by decide +kernel); have k_1 : (0 : Int32).toInt = 0 := (by decide +kernel); omega) hw16 (lv_sub hl18 [0, 1, 2, 3, 4] rfl)
        · skip
          have hc_7 := nltE (a := z_night.toInt) (b := z_n.toInt) rfl rfl c_7
          refine lv_iconst (pc := 20) (v := (-1)) E.1 E.2.1 dX11_been_20 (by decide +kernel) ?_
          exact em_i (w1 := (fun (u : (Nat → Int32) × (Nat → Nat → Int32) × (Nat → Nat → Int64)) => (WZ_Mtrail cI cJ mv mr u.1 u.2.1 u.2.2))) E hr hlk (mi, mf, mg) hw1 ⟨h0.1, h0.2, h1.1, h1.2, h2.1, h2.2, h3.1, h3.2, h4.1, h4.2, h5.1, h5.2, h6.1, h6.2, h7.1, h7.2, rfl, rfl, a_p_from, a_p_to, a_t_marks, a_u_marks, rfl, rfl⟩ (Nat.le_of_ble_eq_true rfl) (Nat.le_of_ble_eq_true rfl) dX11_been_21
set_option maxHeartbeats 4000000 in
set_option maxRecDepth 100000 in
theorem t_ask (l : Launch) (D : va_G) (cI cJ : ClassId) (sz : Nat) (mr : Nat → Nat) (mi : Nat → Int32) (mf : Nat → Nat → Int32) (mg : Nat → Nat → Int64) (z_n : Int32) (z_what : Int32) (mv : Nat → Value) (h0 : 0 ≤ (mi 1).toInt ∧ (mi 1).toInt ≤ 5) (h1 : 0 ≤ (mi 2).toInt ∧ (mi 2).toInt ≤ 6) (h2 : 0 ≤ (mi 24).toInt ∧ (mi 24).toInt ≤ 200) (h3 : 0 ≤ (mi 32).toInt ∧ (mi 32).toInt ≤ 10) (h4 : 0 ≤ (mi 40).toInt ∧ (mi 40).toInt ≤ 40) (h5 : 0 ≤ (mi 49).toInt ∧ (mi 49).toInt ≤ 10) (h6 : 0 ≤ (mi 72).toInt ∧ (mi 72).toInt ≤ 200) (h7 : 0 ≤ (mi 79).toInt ∧ (mi 79).toInt ≤ 8) (a_p_from : p9 (mf 36)) (a_p_to : p9 (mf 37)) (a_t_marks : m4 (mf 53)) (a_u_marks : m4 (mf 63)) : Met l yX11_ask (Cond.code yX11_ask cX11_ask 6 (some .int) :: GW) ({ frames := 11, cells := 0, slots := 0, locals := 263 } : Room) (va_Pc [.ref (mr 0), .int z_n, .int z_what] (PW D cI cJ sz (WZ_Mtrail cI cJ mv mr mi mf mg) xT)) (va_Qi (fun (r : Int32) (u : (Nat → Int32) × (Nat → Nat → Int32) × (Nat → Nat → Int64)) => (0 ≤ (u.1 1).toInt) ∧ ((u.1 1).toInt ≤ 5) ∧ (0 ≤ (u.1 2).toInt) ∧ ((u.1 2).toInt ≤ 6) ∧ (0 ≤ (u.1 24).toInt) ∧ ((u.1 24).toInt ≤ 200) ∧ (0 ≤ (u.1 32).toInt) ∧ ((u.1 32).toInt ≤ 10) ∧ (0 ≤ (u.1 40).toInt) ∧ ((u.1 40).toInt ≤ 40) ∧ (0 ≤ (u.1 49).toInt) ∧ ((u.1 49).toInt ≤ 10) ∧ (0 ≤ (u.1 72).toInt) ∧ ((u.1 72).toInt ≤ 200) ∧ (0 ≤ (u.1 79).toInt) ∧ ((u.1 79).toInt ≤ 8) ∧ ((u.1 32).toInt = (mi 32).toInt) ∧ ((u.1 79).toInt = (mi 79).toInt) ∧ (p9 (u.2.1 36)) ∧ (p9 (u.2.1 37)) ∧ (m4 (u.2.1 53)) ∧ (m4 (u.2.1 63)) ∧ ((Eq (mf 27)) (u.2.1 27)) ∧ ((Eq (mf 31)) (u.2.1 31))) (fun u => QW D cI cJ (va_A (WZ_Mtrail cI cJ mv mr mi mf mg) sz) ((fun (u : (Nat → Int32) × (Nat → Nat → Int32) × (Nat → Nat → Int64)) => (WZ_Mtrail cI cJ mv mr u.1 u.2.1 u.2.2)) u)) (va_A (WZ_Mtrail cI cJ mv mr mi mf mg) sz)) 0 0 (va_A (WZ_Mtrail cI cJ mv mr mi mf mg) sz) := by
  refine mk_met (y := yX11_ask) (bytes := cX11_ask) (maxL := 6) (avs := [.ref (mr 0), .int z_n, .int z_what]) (WS := (WZ_Mtrail cI cJ mv mr mi mf mg)) (Qf := fun A => va_Qi (fun (r : Int32) (u : (Nat → Int32) × (Nat → Nat → Int32) × (Nat → Nat → Int64)) => (0 ≤ (u.1 1).toInt) ∧ ((u.1 1).toInt ≤ 5) ∧ (0 ≤ (u.1 2).toInt) ∧ ((u.1 2).toInt ≤ 6) ∧ (0 ≤ (u.1 24).toInt) ∧ ((u.1 24).toInt ≤ 200) ∧ (0 ≤ (u.1 32).toInt) ∧ ((u.1 32).toInt ≤ 10) ∧ (0 ≤ (u.1 40).toInt) ∧ ((u.1 40).toInt ≤ 40) ∧ (0 ≤ (u.1 49).toInt) ∧ ((u.1 49).toInt ≤ 10) ∧ (0 ≤ (u.1 72).toInt) ∧ ((u.1 72).toInt ≤ 200) ∧ (0 ≤ (u.1 79).toInt) ∧ ((u.1 79).toInt ≤ 8) ∧ ((u.1 32).toInt = (mi 32).toInt) ∧ ((u.1 79).toInt = (mi 79).toInt) ∧ (p9 (u.2.1 36)) ∧ (p9 (u.2.1 37)) ∧ (m4 (u.2.1 53)) ∧ (m4 (u.2.1 63)) ∧ ((Eq (mf 27)) (u.2.1 27)) ∧ ((Eq (mf 31)) (u.2.1 31))) (fun u => QW D cI cJ A ((fun (u : (Nat → Int32) × (Nat → Nat → Int32) × (Nat → Nat → Int64)) => (WZ_Mtrail cI cJ mv mr u.1 u.2.1 u.2.2)) u)) A) (by decide) (Nat.le_of_ble_eq_true rfl) ?_
  intro p e s m below meth c A ls E hr hlk hnm hX hw1 hl2
  have hl3 : lv_has ls 6 [(0, .ref (mr 0)), (1, .int z_n), (2, .int z_what)] := hl2
  refine lv_iload_n (pc := 0) E.1 E.2.1 dX11_ask_0 rfl (lv_at hl3 1 rfl) ?_
  refine lv_iconst (pc := 1) (v := 1) E.1 E.2.1 dX11_ask_1 (by decide +kernel) ?_
  refine lv_icmp_lt (pc := 2) (tgt := 20) E.1 E.2.1 dX11_ask_2 (by decide) (fun c_4 => ?_) (fun c_4 => ?_)
  · skip
    have hc_4 := ltE (a := z_n.toInt) (b := 1) rfl (by decide +kernel) c_4
    refine lv_iconst (pc := 20) (v := (-1)) E.1 E.2.1 dX11_ask_20 (by decide +kernel) ?_
    exact em_i (w1 := (fun (u : (Nat → Int32) × (Nat → Nat → Int32) × (Nat → Nat → Int64)) => (WZ_Mtrail cI cJ mv mr u.1 u.2.1 u.2.2))) E hr hlk (mi, mf, mg) hw1 ⟨h0.1, h0.2, h1.1, h1.2, h2.1, h2.2, h3.1, h3.2, h4.1, h4.2, h5.1, h5.2, h6.1, h6.2, h7.1, h7.2, rfl, rfl, a_p_from, a_p_to, a_t_marks, a_u_marks, rfl, rfl⟩ (Nat.le_of_ble_eq_true rfl) (Nat.le_of_ble_eq_true rfl) dX11_ask_21
  · skip
    have hc_4 := nltE (a := z_n.toInt) (b := 1) rfl (by decide +kernel) c_4
    refine lv_iload_n (pc := 5) E.1 E.2.1 dX11_ask_5 rfl (lv_at hl3 1 rfl) ?_
    refine lv_bipush (pc := 6) (v := 10) E.1 E.2.1 dX11_ask_6 (by decide +kernel) ?_
    refine lv_icmp_gt (pc := 8) (tgt := 20) E.1 E.2.1 dX11_ask_8 (by decide) (fun c_5 => ?_) (fun c_5 => ?_)
    · skip
      have hc_5 := ltE (a := 10) (b := z_n.toInt) (by decide +kernel) rfl c_5
      refine lv_iconst (pc := 20) (v := (-1)) E.1 E.2.1 dX11_ask_20 (by decide +kernel) ?_
      exact em_i (w1 := (fun (u : (Nat → Int32) × (Nat → Nat → Int32) × (Nat → Nat → Int64)) => (WZ_Mtrail cI cJ mv mr u.1 u.2.1 u.2.2))) E hr hlk (mi, mf, mg) hw1 ⟨h0.1, h0.2, h1.1, h1.2, h2.1, h2.2, h3.1, h3.2, h4.1, h4.2, h5.1, h5.2, h6.1, h6.2, h7.1, h7.2, rfl, rfl, a_p_from, a_p_to, a_t_marks, a_u_marks, rfl, rfl⟩ (Nat.le_of_ble_eq_true rfl) (Nat.le_of_ble_eq_true rfl) dX11_ask_21
    · skip
      have hc_5 := nltE (a := 10) (b := z_n.toInt) (by decide +kernel) rfl c_5
      refine lv_iload_n (pc := 11) E.1 E.2.1 dX11_ask_11 rfl (lv_at hl3 2 rfl) ?_
      refine lv_if_lt (pc := 12) (tgt := 20) E.1 E.2.1 dX11_ask_12 (by decide) (fun c_6 => ?_) (fun c_6 => ?_)
      · skip
        have hc_6 := ltE (a := z_what.toInt) (b := 0) rfl (by decide +kernel) c_6
        refine lv_iconst (pc := 20) (v := (-1)) E.1 E.2.1 dX11_ask_20 (by decide +kernel) ?_
        exact em_i (w1 := (fun (u : (Nat → Int32) × (Nat → Nat → Int32) × (Nat → Nat → Int64)) => (WZ_Mtrail cI cJ mv mr u.1 u.2.1 u.2.2))) E hr hlk (mi, mf, mg) hw1 ⟨h0.1, h0.2, h1.1, h1.2, h2.1, h2.2, h3.1, h3.2, h4.1, h4.2, h5.1, h5.2, h6.1, h6.2, h7.1, h7.2, rfl, rfl, a_p_from, a_p_to, a_t_marks, a_u_marks, rfl, rfl⟩ (Nat.le_of_ble_eq_true rfl) (Nat.le_of_ble_eq_true rfl) dX11_ask_21
      · skip
        have hc_6 := nltE (a := z_what.toInt) (b := 0) rfl (by decide +kernel) c_6
        refine lv_iload_n (pc := 15) E.1 E.2.1 dX11_ask_15 rfl (lv_at hl3 2 rfl) ?_
        refine lv_iconst (pc := 16) (v := 1) E.1 E.2.1 dX11_ask_16 (by decide +kernel) ?_
        refine lv_icmp_le (pc := 17) (tgt := 22) E.1 E.2.1 dX11_ask_17 (by decide) (fun c_7 => ?_) (fun c_7 => ?_)
        · skip
          have hc_7 := leE (a := z_what.toInt) (b := 1) rfl (by decide +kernel) c_7
          refine lv_aload_n (pc := 22) E.1 E.2.1 dX11_ask_22 rfl (lv_at hl3 0 rfl) ?_
          refine x_get (pc := 23) (T := TX11) (N := 13) (ci := 11) (v := .ref (mr 80)) E hw1 inX11 0 12 q_618 rfl rfl (by decide) rfl rfl dX11_ask_23 ?_
          refine lv_aload_n (pc := 26) E.1 E.2.1 dX11_ask_26 rfl (lv_at hl3 0 rfl) ?_
          refine x_get (pc := 27) (T := TX11) (N := 13) (ci := 11) (v := .ref (mr 3)) E hw1 inX11 0 0 q_606 rfl rfl (by decide) rfl rfl dX11_ask_27 ?_
          refine lv_iload_n (pc := 30) E.1 E.2.1 dX11_ask_30 rfl (lv_at hl3 1 rfl) ?_
          refine cq_l (pc := 31) (ws' := (fun (u : (Nat → Int32) × (Nat → Int64) × (Nat → Int64) × (Nat → Int32) × (Nat → Int32)) => (WZ_Mtrail cI cJ mv mr mi (va_up (va_up (va_up mf 41 u.2.2.2.1) 42 u.2.2.2.2) 83 u.1) (va_up (va_up mg 81 u.2.1) 82 u.2.2.1)))) hw1 [51, 52, 53, 54, 1, 2, 3, 4, 5, 6, 7, 8, 9, 10, 11, 12, 13, 14, 15, 16, 17, 18, 19, 20, 21, 22, 23, 24, 25, 26, 27, 28, 29, 30, 31, 32, 33, 34, 35, 36, 37, 38, 39, 40, 41, 42, 43, 44, 45, 46, 47, 48, 49, 50] [0] [0, 5, 6, 7, 8, 9, 10, 11, 12, 13, 14, 15, 16, 17, 18, 19, 20, 21, 22, 23, 24, 25, 26, 27, 28, 29, 30, 31, 32, 33, 34, 35, 36, 37, 38, 39, 40, 41, 42, 43, 44, 45, 46, 47, 48, 49, 50, 51, 52, 53, 54, 1, 2, 3, 4] rfl rfl (by decide) (by decide) (fun _ => rfl) (by decide) (rn_V (As := [.ref (mr 3), .int z_n]) (rest := []) E hw1 (t_follow l D cI cJ _ (shs [(0, 80, 4), (4, 3, 77)] mr) (shs [(0, 80, 4), (4, 3, 77)] mi) (shs [(0, 80, 4), (4, 3, 77)] mf) (shs [(0, 80, 4), (4, 3, 77)] mg) z_n (vl [mv 9]) h3 h4 h5 h7 (by show 1 ≤ z_n.toInt ∧ z_n.toInt ≤ 10; omega) a_p_from a_p_to) (gdV q_1328 q_1329 q_1330 q_161 q_1331) hdV_X9_follow ⟨rfl, rfl⟩ ⟨(Nat.le_of_ble_eq_true rfl), (Nat.le_of_ble_eq_true rfl)⟩ ⟨(Nat.le_of_ble_eq_true rfl), (Nat.le_of_ble_eq_true rfl)⟩ xT_b xT_at 51 9 rfl rfl rfl [51, 52, 53, 54, 1, 2, 3, 4, 5, 6, 7, 8, 9, 10, 11, 12, 13, 14, 15, 16, 17, 18, 19, 20, 21, 22, 23, 24, 25, 26, 27, 28, 29, 30, 31, 32, 33, 34, 35, 36, 37, 38, 39, 40, 41, 42, 43, 44, 45, 46, 47, 48, 49, 50] rfl (by decide) rfl hl3.1 rfl (Nat.le_of_ble_eq_true rfl) dX11_ask_31) (fun r_9 u_8 H1 locs hp hw10 => ?_)
          obtain ⟨greached_11, gleading_12, ggoing_13, gpmeasured_14, gpmeasuredIn_15⟩ := u_8
          generalize H1 = H at hw10 ⊢
          have hw16 : WD D A s.heap (WZ_Mtrail cI cJ mv mr mi (va_up (va_up (va_up mf 41 gpmeasured_14) 42 gpmeasuredIn_15) 83 greached_11) (va_up (va_up mg 81 gleading_12) 82 ggoing_13)) H locs := hw10
          refine lv_lstore_n (pc := 34) (lv' := [(3, .long r_9), (0, .ref (mr 0)), (1, .int z_n), (2, .int z_what)]) E.1 E.2.1 dX11_ask_34 rfl hl3 (by decide) rfl (fun ls hl17 => ?_)
          refine lv_lload_n (pc := 35) E.1 E.2.1 dX11_ask_35 rfl (lv_at hl17 0 rfl) ?_
          refine lv_lconst (pc := 36) (v := 0) E.1 E.2.1 dX11_ask_36 (by decide +kernel) ?_
          refine W.lcmp (pc := 37) E.1 E.2.1 dX11_ask_37 ?_
          refine lv_topi (fun v_18 ev_18 => ?_)
          refine lv_if_ne (pc := 38) (tgt := 43) E.1 E.2.1 dX11_ask_38 (by decide) (fun c_19 => ?_) (fun c_19 => ?_)
          · skip
            have hc_19 := neE (a := v_18.toInt) (b := 0) rfl (by decide +kernel) c_19
            refine lv_aload_n (pc := 43) E.1 E.2.1 dX11_ask_43 rfl (lv_at hl17 1 rfl) ?_
            refine x_get (pc := 44) (T := TX11) (N := 13) (ci := 11) (v := .ref (mr 80)) E hw16 inX11 0 12 q_618 rfl rfl (by decide) rfl rfl dX11_ask_44 ?_
            refine lv_lload_n (pc := 47) E.1 E.2.1 dX11_ask_47 rfl (lv_at hl17 0 rfl) ?_
            refine lv_iload_n (pc := 48) E.1 E.2.1 dX11_ask_48 rfl (lv_at hl17 2 rfl) ?_
            refine lv_aload_n (pc := 49) E.1 E.2.1 dX11_ask_49 rfl (lv_at hl17 1 rfl) ?_
            refine x_get (pc := 50) (T := TX11) (N := 13) (ci := 11) (v := .ref (mr 3)) E hw16 inX11 0 0 q_606 rfl rfl (by decide) rfl rfl dX11_ask_50 ?_
            refine x_get (pc := 53) (T := TX10) (N := 17) (ci := 10) (v := .ref (mr 26)) E hw16 inX10 1 1 q_463 rfl rfl (by decide) rfl rfl dX11_ask_53 ?_
            refine x_get (pc := 56) (T := TX1) (N := 9) (ci := 1) (v := .int (mi 32)) E hw16 inX1 13 5 q_282 rfl rfl (by decide) rfl rfl dX11_ask_56 ?_
            refine ck_i (pc := 59) (ws' := (fun (u : Unit) => (WZ_Mtrail cI cJ mv mr mi (va_up (va_up (va_up mf 41 gpmeasured_14) 42 gpmeasuredIn_15) 83 greached_11) (va_up (va_up mg 81 gleading_12) 82 ggoing_13)))) [false, false, false, false, false, false, false, false, false, false, false, false, false, false, false, false, false, false, false, false, false, false, false, false, false, false, false, false, false, false, false, false, false, false, false, false, false, false, false, false, false, false, false, false, false, false, false, false, false, false, false, true, true, true, true] hw16 rfl (fun hC_ => (rn_V (As := [.long r_9, .int z_n, .int (mi 32)]) (rest := []) E hw16 (t_question l D cI cJ _ (shf 80 mr) (shf 80 mi) (shf 80 (va_up (va_up (va_up mf 41 gpmeasured_14) 42 gpmeasuredIn_15) 83 greached_11)) (shf 80 (va_up (va_up mg 81 gleading_12) 82 ggoing_13)) r_9 z_n (mi 32) (by show 1 ≤ z_n.toInt ∧ z_n.toInt ≤ 10; omega) h3) (gdV q_1354 q_1355 q_1356 q_161 q_1357) hdV_X9_question ⟨rfl, rfl⟩ ⟨(Nat.le_of_ble_eq_true rfl), (Nat.le_of_ble_eq_true rfl)⟩ ⟨(Nat.le_of_ble_eq_true rfl), (Nat.le_of_ble_eq_true rfl)⟩ xT_b xT_at 51 9 rfl rfl rfl _ hC_ (nd_T _ 0) rfl hl17.1 rfl (Nat.le_of_ble_eq_true rfl) dX11_ask_59)) rfl (fun _ => rfl) (fun _ => rfl) (fun r_21 u_20 H1 locs hp hw22 => ?_)
            generalize H1 = H at hw22 ⊢
            have hw23 : WD D A s.heap (WZ_Mtrail cI cJ mv mr mi (va_up (va_up (va_up mf 41 gpmeasured_14) 42 gpmeasuredIn_15) 83 greached_11) (va_up (va_up mg 81 gleading_12) 82 ggoing_13)) H locs := hw22
            refine lv_istore (pc := 62) (lv' := [(5, .int r_21), (3, .long r_9), (0, .ref (mr 0)), (1, .int z_n), (2, .int z_what)]) E.1 E.2.1 dX11_ask_62 hl17 (by decide) rfl (fun ls hl24 => ?_)
            refine lv_iload_n (pc := 64) E.1 E.2.1 dX11_ask_64 rfl (lv_at hl24 4 rfl) ?_
            refine lv_if_ne (pc := 65) (tgt := 76) E.1 E.2.1 dX11_ask_65 (by decide) (fun c_25 => ?_) (fun c_25 => ?_)
            · skip
              have hc_25 := neE (a := z_what.toInt) (b := 0) rfl (by decide +kernel) c_25
              refine lv_iload (pc := 76) E.1 E.2.1 dX11_ask_76 (lv_at hl24 0 rfl) ?_
              refine lv_bipush (pc := 78) (v := 10) E.1 E.2.1 dX11_ask_78 (by decide +kernel) ?_
              refine lv_irem (pc := 80) E.1 E.2.1 dX11_ask_80 (by decide +kernel) ?_
              refine lv_topi (fun v_26 ev_26 => ?_)
              exact em_i (w1 := (fun (u : (Nat → Int32) × (Nat → Nat → Int32) × (Nat → Nat → Int64)) => (WZ_Mtrail cI cJ mv mr u.1 u.2.1 u.2.2))) E hr hlk (mi, (va_up (va_up (va_up mf 41 gpmeasured_14) 42 gpmeasuredIn_15) 83 greached_11), (va_up (va_up mg 81 gleading_12) 82 ggoing_13)) hw23 ⟨h0.1, h0.2, h1.1, h1.2, h2.1, h2.2, h3.1, h3.2, h4.1, h4.2, h5.1, h5.2, h6.1, h6.2, h7.1, h7.2, rfl, rfl, a_p_from, a_p_to, a_t_marks, a_u_marks, rfl, rfl⟩ (Nat.le_of_ble_eq_true rfl) (Nat.le_of_ble_eq_true rfl) dX11_ask_81
            · skip
              have hc_25 := eqE (a := z_what.toInt) (b := 0) rfl (by decide +kernel) c_25
              refine lv_iload (pc := 68) E.1 E.2.1 dX11_ask_68 (lv_at hl24 0 rfl) ?_
              refine lv_bipush (pc := 70) (v := 10) E.1 E.2.1 dX11_ask_70 (by decide +kernel) ?_
              refine lv_idiv (pc := 72) E.1 E.2.1 dX11_ask_72 (by decide +kernel) ?_
              refine lv_topi (fun v_27 ev_27 => ?_)
              refine lv_goto (pc := 73) (tgt := 81) E.1 E.2.1 dX11_ask_73 (by decide) ?_
              exact em_i (w1 := (fun (u : (Nat → Int32) × (Nat → Nat → Int32) × (Nat → Nat → Int64)) => (WZ_Mtrail cI cJ mv mr u.1 u.2.1 u.2.2))) E hr hlk (mi, (va_up (va_up (va_up mf 41 gpmeasured_14) 42 gpmeasuredIn_15) 83 greached_11), (va_up (va_up mg 81 gleading_12) 82 ggoing_13)) hw23 ⟨h0.1, h0.2, h1.1, h1.2, h2.1, h2.2, h3.1, h3.2, h4.1, h4.2, h5.1, h5.2, h6.1, h6.2, h7.1, h7.2, rfl, rfl, a_p_from, a_p_to, a_t_marks, a_u_marks, rfl, rfl⟩ (Nat.le_of_ble_eq_true rfl) (Nat.le_of_ble_eq_true rfl) dX11_ask_81
          · skip
            have hc_19 := eqE (a := v_18.toInt) (b := 0) rfl (by decide +kernel) c_19
            refine lv_iconst (pc := 41) (v := (-1)) E.1 E.2.1 dX11_ask_41 (by decide +kernel) ?_
            exact em_i (w1 := (fun (u : (Nat → Int32) × (Nat → Nat → Int32) × (Nat → Nat → Int64)) => (WZ_Mtrail cI cJ mv mr u.1 u.2.1 u.2.2))) E hr hlk (mi, (va_up (va_up (va_up mf 41 gpmeasured_14) 42 gpmeasuredIn_15) 83 greached_11), (va_up (va_up mg 81 gleading_12) 82 ggoing_13)) hw16 ⟨h0.1, h0.2, h1.1, h1.2, h2.1, h2.2, h3.1, h3.2, h4.1, h4.2, h5.1, h5.2, h6.1, h6.2, h7.1, h7.2, rfl, rfl, a_p_from, a_p_to, a_t_marks, a_u_marks, rfl, rfl⟩ (Nat.le_of_ble_eq_true rfl) (Nat.le_of_ble_eq_true rfl) dX11_ask_42
        · skip
          have hc_7 := nleE (a := z_what.toInt) (b := 1) rfl (by decide +kernel) c_7
          refine lv_iconst (pc := 20) (v := (-1)) E.1 E.2.1 dX11_ask_20 (by decide +kernel) ?_
          exact em_i (w1 := (fun (u : (Nat → Int32) × (Nat → Nat → Int32) × (Nat → Nat → Int64)) => (WZ_Mtrail cI cJ mv mr u.1 u.2.1 u.2.2))) E hr hlk (mi, mf, mg) hw1 ⟨h0.1, h0.2, h1.1, h1.2, h2.1, h2.2, h3.1, h3.2, h4.1, h4.2, h5.1, h5.2, h6.1, h6.2, h7.1, h7.2, rfl, rfl, a_p_from, a_p_to, a_t_marks, a_u_marks, rfl, rfl⟩ (Nat.le_of_ble_eq_true rfl) (Nat.le_of_ble_eq_true rfl) dX11_ask_21
