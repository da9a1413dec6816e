set_option maxHeartbeats 4000000 in
set_option maxRecDepth 100000 in
theorem t_best (l : Launch) (D : va_G) (cI cJ : ClassId) (sz : Nat) (mr : Nat → Nat) (mi : Nat → Int32) (mf : Nat → Nat → Int32) (mg : Nat → Nat → Int64) (z_goal : Int32) (z_k : Int32) (mv : Nat → Value) (h0 : 0 ≤ (mi 1).toInt ∧ (mi 1).toInt ≤ 5) (h1 : 0 ≤ (mi 2).toInt ∧ (mi 2).toInt ≤ 6) (h2 : 0 ≤ (mi 24).toInt ∧ (mi 24).toInt ≤ 200) (h3 : 0 ≤ (mi 32).toInt ∧ (mi 32).toInt ≤ 10) (h4 : 0 ≤ (mi 40).toInt ∧ (mi 40).toInt ≤ 40) (h5 : 0 ≤ (mi 49).toInt ∧ (mi 49).toInt ≤ 10) (h6 : 0 ≤ (mi 72).toInt ∧ (mi 72).toInt ≤ 200) (h7 : 0 ≤ (mi 79).toInt ∧ (mi 79).toInt ≤ 8) (a_p_from : p9 (mf 36)) (a_p_to : p9 (mf 37)) (a_t_marks : m4 (mf 53)) (a_u_marks : m4 (mf 63)) : Met l yX11_best (Cond.code yX11_best cX11_best 7 (some .int) :: GW) ({ frames := 11, cells := 0, slots := 0, locals := 263 } : Room) (va_Pc [.ref (mr 0), .int z_goal, .int z_k] (PW D cI cJ sz (WZ_MV cI cJ mv mr mi mf mg) xT)) (va_Qi (fun (r : Int32) (u : (Nat → Int32) × (Nat → Nat → Int32) × (Nat → Nat → Int64)) => (0 ≤ (u.1 1).toInt) ∧ ((u.1 1).toInt ≤ 5) ∧ (0 ≤ (u.1 2).toInt) ∧ ((u.1 2).toInt ≤ 6) ∧ (0 ≤ (u.1 24).toInt) ∧ ((u.1 24).toInt ≤ 200) ∧ (0 ≤ (u.1 32).toInt) ∧ ((u.1 32).toInt ≤ 10) ∧ (0 ≤ (u.1 40).toInt) ∧ ((u.1 40).toInt ≤ 40) ∧ (0 ≤ (u.1 49).toInt) ∧ ((u.1 49).toInt ≤ 10) ∧ (0 ≤ (u.1 72).toInt) ∧ ((u.1 72).toInt ≤ 200) ∧ (0 ≤ (u.1 79).toInt) ∧ ((u.1 79).toInt ≤ 8) ∧ ((u.1 32).toInt = (mi 32).toInt) ∧ ((u.1 79).toInt = (mi 79).toInt) ∧ (p9 (u.2.1 36)) ∧ (p9 (u.2.1 37)) ∧ (m4 (u.2.1 53)) ∧ (m4 (u.2.1 63)) ∧ ((Eq (mf 27)) (u.2.1 27)) ∧ ((Eq (mf 31)) (u.2.1 31))) (fun u => QW D cI cJ (va_A (WZ_MV cI cJ mv mr mi mf mg) sz) ((fun (u : (Nat → Int32) × (Nat → Nat → Int32) × (Nat → Nat → Int64)) => (WZ_MV cI cJ mv mr u.1 u.2.1 u.2.2)) u)) (va_A (WZ_MV cI cJ mv mr mi mf mg) sz)) 0 0 (va_A (WZ_MV cI cJ mv mr mi mf mg) sz) := by
  refine mk_met (y := yX11_best) (bytes := cX11_best) (maxL := 7) (avs := [.ref (mr 0), .int z_goal, .int z_k]) (WS := (WZ_MV cI cJ mv mr mi mf mg)) (Qf := fun A => va_Qi (fun (r : Int32) (u : (Nat → Int32) × (Nat → Nat → Int32) × (Nat → Nat → Int64)) => (0 ≤ (u.1 1).toInt) ∧ ((u.1 1).toInt ≤ 5) ∧ (0 ≤ (u.1 2).toInt) ∧ ((u.1 2).toInt ≤ 6) ∧ (0 ≤ (u.1 24).toInt) ∧ ((u.1 24).toInt ≤ 200) ∧ (0 ≤ (u.1 32).toInt) ∧ ((u.1 32).toInt ≤ 10) ∧ (0 ≤ (u.1 40).toInt) ∧ ((u.1 40).toInt ≤ 40) ∧ (0 ≤ (u.1 49).toInt) ∧ ((u.1 49).toInt ≤ 10) ∧ (0 ≤ (u.1 72).toInt) ∧ ((u.1 72).toInt ≤ 200) ∧ (0 ≤ (u.1 79).toInt) ∧ ((u.1 79).toInt ≤ 8) ∧ ((u.1 32).toInt = (mi 32).toInt) ∧ ((u.1 79).toInt = (mi 79).toInt) ∧ (p9 (u.2.1 36)) ∧ (p9 (u.2.1 37)) ∧ (m4 (u.2.1 53)) ∧ (m4 (u.2.1 63)) ∧ ((Eq (mf 27)) (u.2.1 27)) ∧ ((Eq (mf 31)) (u.2.1 31))) (fun u => QW D cI cJ A ((fun (u : (Nat → Int32) × (Nat → Nat → Int32) × (Nat → Nat → Int64)) => (WZ_MV cI cJ mv mr u.1 u.2.1 u.2.2)) u)) A) (by decide) (Nat.le_of_ble_eq_true rfl) ?_
  intro p e s m below meth c A ls E hr hlk hnm hX hw1 hl2
  have hl3 : lv_has ls 7 [(0, .ref (mr 0)), (1, .int z_goal), (2, .int z_k)] := hl2
  refine lv_aload_n (pc := 0) E.1 E.2.1 dX11_best_0 rfl (lv_at hl3 0 rfl) ?_
  refine x_get (pc := 1) (T := TX11) (N := 13) (ci := 11) (v := .ref (mr 3)) E hw1 inX11 0 0 q_606 rfl rfl (by decide) rfl rfl dX11_best_1 ?_
  refine x_get (pc := 4) (T := TX10) (N := 17) (ci := 10) (v := .ref (mr 26)) E hw1 inX10 1 1 q_463 rfl rfl (by decide) rfl rfl dX11_best_4 ?_
  refine lv_iload_n (pc := 7) E.1 E.2.1 dX11_best_7 rfl (lv_at hl3 1 rfl) ?_
  refine ck_i (pc := 8) (ws' := (fun (u : Unit) => (WZ_MV cI cJ mv mr mi mf mg))) [false, false, false, false, false, false, false, false, false, false, false, false, false, true, true, true, true, true, true, true, true, false, false, false, false, false, false, false, false, false, false, false, false, false, false, false, false, false, false, false, false, false, false, false, false, false, false, false, false, false, false] hw1 rfl (fun hC_ => (rn_V (As := [.int z_goal]) (rest := []) E hw1 (t_has l D cI cJ _ (shf 26 mr) (shf 26 mi) (shf 26 mf) (shf 26 mg) z_goal (vl [mv 10])) (gdV q_674 q_675 q_676 q_154 q_677) hdV_X1_has ⟨rfl, rfl⟩ ⟨(Nat.le_of_ble_eq_true rfl), (Nat.le_of_ble_eq_true rfl)⟩ ⟨(Nat.le_of_ble_eq_true rfl), (Nat.le_of_ble_eq_true rfl)⟩ xT_b xT_at 13 1 rfl rfl rfl _ hC_ (nd_T _ 0) rfl hl3.1 rfl (Nat.le_of_ble_eq_true rfl) dX11_best_8)) rfl (fun _ => rfl) (fun _ => rfl) (fun r_5 u_4 H1 locs hp hw6 => ?_)
  generalize H1 = H at hw6 ⊢
  have hw7 : WD D A s.heap (WZ_MV cI cJ mv mr mi mf mg) H locs := hw6
  have hp_8 := hp
  rcases hp_8 with ⟨rfl, ha_9, ha_10, ha_11⟩ | ⟨rfl, ha_12⟩ | ⟨rfl, ha_13⟩ | ⟨rfl, ha_14⟩
  · skip
    have ha_9 : 0 ≤ z_goal.toInt := ha_9
    have ha_10 : z_goal.toInt + 1 ≤ (mi 32).toInt := ha_10
    have ha_11 : z_goal.toInt ≤ 9 := ha_11
    refine lv_if_eq (pc := 11) (tgt := 25) E.1 E.2.1 dX11_best_11 (by decide) (fun c_15 => absurd c_15 (mneE (a := 1) (b := 0) (by decide +kernel) (by decide +kernel) (by omega))) (fun _ => ?_)
    refine lv_iload_n (pc := 14) E.1 E.2.1 dX11_best_14 rfl (lv_at hl3 2 rfl) ?_
    refine lv_iconst (pc := 15) (v := 1) E.1 E.2.1 dX11_best_15 (by decide +kernel) ?_
    refine lv_icmp_lt (pc := 16) (tgt := 25) E.1 E.2.1 dX11_best_16 (by decide) (fun c_16 => ?_) (fun c_16 => ?_)
    · skip
      have hc_16 := ltE (a := z_k.toInt) (b := 1) rfl (by decide +kernel) c_16
      refine lv_iconst (pc := 25) (v := (-1)) E.1 E.2.1 dX11_best_25 (by decide +kernel) ?_
      exact em_i (w1 := (fun (u : (Nat → Int32) × (Nat → Nat → Int32) × (Nat → Nat → Int64)) => (WZ_MV cI cJ mv mr u.1 u.2.1 u.2.2))) E hr hlk (mi, mf, mg) hw7 ⟨h0.1, h0.2, h1.1, h1.2, h2.1, h2.2, h3.1, h3.2, h4.1, h4.2, h5.1, h5.2, h6.1, h6.2, h7.1, h7.2, rfl, rfl, a_p_from, a_p_to, a_t_marks, a_u_marks, rfl, rfl⟩ (Nat.le_of_ble_eq_true rfl) (Nat.le_of_ble_eq_true rfl) dX11_best_26
    · skip
      have hc_16 := nltE (a := z_k.toInt) (b := 1) rfl (by decide +kernel) c_16
      refine lv_iload_n (pc := 19) E.1 E.2.1 dX11_best_19 rfl (lv_at hl3 2 rfl) ?_
      refine lv_bipush (pc := 20) (v := 9) E.1 E.2.1 dX11_best_20 (by decide +kernel) ?_
      refine lv_icmp_le (pc := 22) (tgt := 27) E.1 E.2.1 dX11_best_22 (by decide) (fun c_17 => ?_) (fun c_17 => ?_)
      · skip
        have hc_17 := leE (a := z_k.toInt) (b := 9) rfl (by decide +kernel) c_17
        refine lv_aload_n (pc := 27) E.1 E.2.1 dX11_best_27 rfl (lv_at hl3 0 rfl) ?_
        refine x_get (pc := 28) (T := TX11) (N := 13) (ci := 11) (v := .ref (mr 3)) E hw7 inX11 0 0 q_606 rfl rfl (by decide) rfl rfl dX11_best_28 ?_
        refine lv_aload_n (pc := 31) E.1 E.2.1 dX11_best_31 rfl (lv_at hl3 0 rfl) ?_
        refine x_get (pc := 32) (T := TX11) (N := 13) (ci := 11) (v := .ref (mr 3)) E hw7 inX11 0 0 q_606 rfl rfl (by decide) rfl rfl dX11_best_32 ?_
        refine x_get (pc := 35) (T := TX10) (N := 17) (ci := 10) (v := .ref (mr 13)) E hw7 inX10 1 0 q_458 rfl rfl (by decide) rfl rfl dX11_best_35 ?_
        refine x_get (pc := 38) (T := TX4) (N := 12) (ci := 4) (v := .int (mi 20)) E hw7 inX4 7 6 q_216 rfl rfl (by decide) rfl rfl dX11_best_38 ?_
        refine ck_i (pc := 41) (ws' := (fun (u : (Nat → Int32) × (Nat → Int32)) => (WZ_MV cI cJ mv mr mi (va_up (va_up mf 41 u.1) 42 u.2) mg))) [false, true, true, true, true, true, true, true, true, true, true, true, true, true, true, true, true, true, true, true, true, true, true, true, true, true, true, true, true, true, true, true, true, true, true, true, true, true, true, true, true, true, true, true, true, true, true, true, true, true, true] hw7 rfl (fun hC_ => (rn_V (As := [.int (mi 20)]) (rest := []) E hw7 (t_reachedSet l D cI cJ _ (shf 3 mr) (shf 3 mi) (shf 3 mf) (shf 3 mg) (mi 20) (vl [mv 10]) h3 h4 h5 a_p_from a_p_to) (gdV q_1107 q_1108 q_1109 q_152 q_1110) hdV_X10_reachedSet ⟨rfl, rfl⟩ ⟨(Nat.le_of_ble_eq_true rfl), (Nat.le_of_ble_eq_true rfl)⟩ ⟨(Nat.le_of_ble_eq_true rfl), (Nat.le_of_ble_eq_true rfl)⟩ xT_b xT_at 1 10 rfl rfl rfl _ hC_ (nd_T _ 0) rfl hl3.1 rfl (Nat.le_of_ble_eq_true rfl) dX11_best_41)) rfl (fun _ => rfl) (fun _ => rfl) (fun r_19 u_18 H1 locs hp hw20 => ?_)
        obtain ⟨gpmeasured_21, gpmeasuredIn_22⟩ := u_18
        generalize H1 = H at hw20 ⊢
        have hw23 : WD D A s.heap (WZ_MV cI cJ mv mr mi (va_up (va_up mf 41 gpmeasured_21) 42 gpmeasuredIn_22) mg) H locs := hw20
        refine lv_istore_n (pc := 44) (lv' := [(3, .int r_19), (0, .ref (mr 0)), (1, .int z_goal), (2, .int z_k)]) E.1 E.2.1 dX11_best_44 rfl hl3 (by decide) rfl (fun ls hl24 => ?_)
        refine lv_aload_n (pc := 45) E.1 E.2.1 dX11_best_45 rfl (lv_at hl24 1 rfl) ?_
        refine x_get (pc := 46) (T := TX11) (N := 13) (ci := 11) (v := .ref (mr 3)) E hw23 inX11 0 0 q_606 rfl rfl (by decide) rfl rfl dX11_best_46 ?_
        refine lv_iload_n (pc := 49) E.1 E.2.1 dX11_best_49 rfl (lv_at hl24 2 rfl) ?_
        refine lv_iload_n (pc := 50) E.1 E.2.1 dX11_best_50 rfl (lv_at hl24 3 rfl) ?_
        refine ck_v (pc := 51) (ws' := (fun (u : (Nat → Int32) × (Nat → Int32) × (Nat → Int32) × (Nat → Int32) × (Nat → Int32)) => (WZ_MV cI cJ mv mr mi (va_up (va_up (va_up (va_up (va_up mf 10 u.2.2.1) 11 u.2.2.2.1) 12 u.2.2.2.2) 41 u.1) 42 u.2.1) mg))) [false, true, true, true, true, true, true, true, true, true, true, true, true, true, true, true, true, true, true, true, true, true, true, true, true, true, true, true, true, true, true, true, true, true, true, true, true, true, true, true, true, true, true, true, true, true, true, true, true, true, true] hw23 rfl (fun hC_ => (rn_V (As := [.int z_goal, .int z_k]) (rest := []) E hw23 (t_weighReaching l D cI cJ _ (shf 3 mr) (shf 3 mi) (shf 3 (va_up (va_up mf 41 gpmeasured_21) 42 gpmeasuredIn_22)) (shf 3 mg) z_goal z_k (vl [mv 10]) h3 h4 h5 (by show 1 ≤ z_k.toInt ∧ z_k.toInt ≤ 9; omega) a_p_from a_p_to) (gdV q_1304 q_1305 q_1306 q_152 q_1307) hdV_X10_weighReaching ⟨rfl, rfl⟩ ⟨(Nat.le_of_ble_eq_true rfl), (Nat.le_of_ble_eq_true rfl)⟩ ⟨(Nat.le_of_ble_eq_true rfl), (Nat.le_of_ble_eq_true rfl)⟩ xT_b xT_at 1 10 rfl rfl rfl _ hC_ (nd_T _ 0) rfl hl24.1 rfl (Nat.le_of_ble_eq_true rfl) dX11_best_51)) rfl (fun _ => rfl) (fun _ => rfl) (fun u_25 H1 locs hp hw27 => ?_)
        obtain ⟨gpmeasured_28, gpmeasuredIn_29, gchance_30, gchanceAhead_31, glikely_32⟩ := u_25
        generalize H1 = H at hw27 ⊢
        have hw33 : WD D A s.heap (WZ_MV cI cJ mv mr mi (va_up (va_up (va_up (va_up (va_up mf 10 gchance_30) 11 gchanceAhead_31) 12 glikely_32) 41 gpmeasured_28) 42 gpmeasuredIn_29) mg) H locs := hw27
        refine lv_iconst (pc := 54) (v := (-1)) E.1 E.2.1 dX11_best_54 (by decide +kernel) ?_
        refine lv_istore (pc := 55) (lv' := [(4, .int (-1)), (3, .int r_19), (0, .ref (mr 0)), (1, .int z_goal), (2, .int z_k)]) E.1 E.2.1 dX11_best_55 hl24 (by decide) rfl (fun ls hl34 => ?_)
        refine lv_iconst (pc := 57) (v := 0) E.1 E.2.1 dX11_best_57 (by decide +kernel) ?_
        refine lv_istore (pc := 58) (lv' := [(5, .int 0), (4, .int (-1)), (3, .int r_19), (0, .ref (mr 0)), (1, .int z_goal), (2, .int z_k)]) E.1 E.2.1 dX11_best_58 hl34 (by decide) rfl (fun ls hl35 => ?_)
        have loop_36 : ∀ (k : Nat) (x_37 : Int32) (x_38 : Int32) (H : Heap) (locs : List Loc) (ls : Array Slot), (0 ≤ x_38.toInt) ∧ (x_38.toInt ≤ (mi 32).toInt) ∧ ((-1) ≤ x_37.toInt) ∧ (x_37.toInt + 1 ≤ (mi 32).toInt) → (mi 32).toInt - x_38.toInt < (k : Int) → WD D A s.heap (WZ_MV cI cJ mv mr mi (va_up (va_up (va_up (va_up (va_up mf 10 gchance_30) 11 gchanceAhead_31) 12 glikely_32) 41 gpmeasured_28) 42 gpmeasuredIn_29) mg) H locs → lv_has ls 7 [(5, .int x_38), (4, .int x_37), (3, .int r_19), (0, .ref (mr 0)), (1, .int z_goal), (2, .int z_k)] → W p l e ({ frames := 11, cells := 0, slots := 0, locals := 263 } : Room) s m ([.ref (mr 0), .int z_goal, .int z_k] : List Value).toArray below meth c H locs 0 0 (MQ below (va_Qi (fun (r : Int32) (u : (Nat → Int32) × (Nat → Nat → Int32) × (Nat → Nat → Int64)) => (0 ≤ (u.1 1).toInt) ∧ ((u.1 1).toInt ≤ 5) ∧ (0 ≤ (u.1 2).toInt) ∧ ((u.1 2).toInt ≤ 6) ∧ (0 ≤ (u.1 24).toInt) ∧ ((u.1 24).toInt ≤ 200) ∧ (0 ≤ (u.1 32).toInt) ∧ ((u.1 32).toInt ≤ 10) ∧ (0 ≤ (u.1 40).toInt) ∧ ((u.1 40).toInt ≤ 40) ∧ (0 ≤ (u.1 49).toInt) ∧ ((u.1 49).toInt ≤ 10) ∧ (0 ≤ (u.1 72).toInt) ∧ ((u.1 72).toInt ≤ 200) ∧ (0 ≤ (u.1 79).toInt) ∧ ((u.1 79).toInt ≤ 8) ∧ ((u.1 32).toInt = (mi 32).toInt) ∧ ((u.1 79).toInt = (mi 79).toInt) ∧ (p9 (u.2.1 36)) ∧ (p9 (u.2.1 37)) ∧ (m4 (u.2.1 53)) ∧ (m4 (u.2.1 63)) ∧ ((Eq (mf 27)) (u.2.1 27)) ∧ ((Eq (mf 31)) (u.2.1 31))) (fun u => QW D cI cJ A ((fun (u : (Nat → Int32) × (Nat → Nat → Int32) × (Nat → Nat → Int64)) => (WZ_MV cI cJ mv mr u.1 u.2.1 u.2.2)) u)) A) ([.ref (mr 0), .int z_goal, .int z_k] : List Value).toArray s 0 0 A) (F0 m 60 ls []) := by
          intro k
          induction k with
          | zero =>
            intro x_37 x_38 _ _ _ hinv hm
            obtain ⟨hi_38_0, hi_38_1, hi_38_2, hi_38_3⟩ := hinv
            exact absurd hm (by omega)
          | succ k ih_39 =>
            intro x_37 x_38 H locs ls hinv hm hw40 hl41
            obtain ⟨hi_38_0, hi_38_1, hi_38_2, hi_38_3⟩ := hinv
            refine lv_iload (pc := 60) E.1 E.2.1 dX11_best_60 (lv_at hl41 0 rfl) ?_
            refine lv_aload_n (pc := 62) E.1 E.2.1 dX11_best_62 rfl (lv_at hl41 3 rfl) ?_
            refine x_get (pc := 63) (T := TX11) (N := 13) (ci := 11) (v := .ref (mr 3)) E hw40 inX11 0 0 q_606 rfl rfl (by decide) rfl rfl dX11_best_63 ?_
            refine x_get (pc := 66) (T := TX10) (N := 17) (ci := 10) (v := .ref (mr 26)) E hw40 inX10 1 1 q_463 rfl rfl (by decide) rfl rfl dX11_best_66 ?_
            refine x_get (pc := 69) (T := TX1) (N := 9) (ci := 1) (v := .int (mi 32)) E hw40 inX1 13 5 q_282 rfl rfl (by decide) rfl rfl dX11_best_69 ?_
            refine lv_icmp_ge (pc := 72) (tgt := 143) E.1 E.2.1 dX11_best_72 (by decide) (fun c_42 => ?_) (fun c_42 => ?_)
            · skip
              have hc_42 := leE (a := (mi 32).toInt) (b := x_38.toInt) rfl rfl c_42
              refine lv_iload (pc := 143) E.1 E.2.1 dX11_best_143 (lv_at hl41 1 rfl) ?_
              exact em_i (w1 := (fun (u : (Nat → Int32) × (Nat → Nat → Int32) × (Nat → Nat → Int64)) => (WZ_MV cI cJ mv mr u.1 u.2.1 u.2.2))) E hr hlk (mi, (va_up (va_up (va_up (va_up (va_up mf 10 gchance_30) 11 gchanceAhead_31) 12 glikely_32) 41 gpmeasured_28) 42 gpmeasuredIn_29), mg) hw40 ⟨h0.1, h0.2, h1.1, h1.2, h2.1, h2.2, h3.1, h3.2, h4.1, h4.2, h5.1, h5.2, h6.1, h6.2, h7.1, h7.2, rfl, rfl, a_p_from, a_p_to, a_t_marks, a_u_marks, rfl, rfl⟩ (Nat.le_of_ble_eq_true rfl) (Nat.le_of_ble_eq_true rfl) dX11_best_145
            · skip
              have hc_42 := nleE (a := (mi 32).toInt) (b := x_38.toInt) rfl rfl c_42
              refine lv_iload (pc := 75) E.1 E.2.1 dX11_best_75 (lv_at hl41 0 rfl) ?_
              refine lv_bipush (pc := 77) (v := 10) E.1 E.2.1 dX11_best_77 (by decide +kernel) ?_
              refine lv_icmp_ge (pc := 79) (tgt := 143) E.1 E.2.1 dX11_best_79 (by decide) (fun c_43 => absurd c_43 (mnleE (a := 10) (b := x_38.toInt) (by decide +kernel) rfl (by omega))) (fun _ => ?_)
              refine lv_iload (pc := 82) E.1 E.2.1 dX11_best_82 (lv_at hl41 1 rfl) ?_
              refine lv_iconst (pc := 84) (v := (-1)) E.1 E.2.1 dX11_best_84 (by decide +kernel) ?_
              refine lv_icmp_eq (pc := 85) (tgt := 111) E.1 E.2.1 dX11_best_85 (by decide) (fun c_44 => ?_) (fun c_44 => ?_)
              · skip
                have hc_44 := eqE (a := x_37.toInt) (b := (-1)) rfl (by decide +kernel) c_44
                refine lv_iconst (pc := 111) (v := 1) E.1 E.2.1 dX11_best_111 (by decide +kernel) ?_
                refine lv_goto (pc := 112) (tgt := 116) E.1 E.2.1 dX11_best_112 (by decide) ?_
                refine lv_istore (pc := 116) (lv' := [(6, .int 1), (5, .int x_38), (4, .int x_37), (3, .int r_19), (0, .ref (mr 0)), (1, .int z_goal), (2, .int z_k)]) E.1 E.2.1 dX11_best_116 hl41 (by decide) rfl (fun ls hl45 => ?_)
                refine lv_iload_n (pc := 118) E.1 E.2.1 dX11_best_118 rfl (lv_at hl45 3 rfl) ?_
                refine lv_iload (pc := 119) E.1 E.2.1 dX11_best_119 (lv_at hl45 1 rfl) ?_
                refine lv_ishr (pc := 121) E.1 E.2.1 dX11_best_121 ?_
                refine lv_topi (fun v_46 ev_46 => ?_)
                refine lv_iconst (pc := 122) (v := 1) E.1 E.2.1 dX11_best_122 (by decide +kernel) ?_
                refine lv_iand (pc := 123) E.1 E.2.1 dX11_best_123 ?_
                refine lv_topi (fun v_47 ev_47 => ?_)
                refine lv_iconst (pc := 124) (v := 1) E.1 E.2.1 dX11_best_124 (by decide +kernel) ?_
                refine lv_icmp_ne (pc := 125) (tgt := 137) E.1 E.2.1 dX11_best_125 (by decide) (fun c_48 => ?_) (fun c_48 => ?_)
                · skip
                  have hc_48 := neE (a := v_47.toInt) (b := 1) rfl (by decide +kernel) c_48
                  obtain ⟨v_49, ev_49⟩ : ∃ z : Int32, x_38 + Int32.ofInt (1) = z := ⟨_, rfl⟩
                  have hv_49 : v_49.toInt = x_38.toInt + (1) := by rw [← ev_49]; exact incE rfl (by decide) (by omega)
                  refine lv_iinc (pc := 137) (v := v_49) (lv' := [(5, .int v_49), (6, .int 1), (4, .int x_37), (3, .int r_19), (0, .ref (mr 0)), (1, .int z_goal), (2, .int z_k)]) E.1 E.2.1 dX11_best_137 hl45 (k := 1) rfl ev_49 (by decide) rfl (fun ls hl50 => ?_)
                  refine lv_goto (pc := 140) (tgt := 60) E.1 E.2.1 dX11_best_140 (by decide) ?_
                  exact ih_39 x_37 v_49 _ _ _ ⟨(by show 0 ≤ v_49.toInt; omega), (by show v_49.toInt ≤ (mi 32).toInt; omega), hi_38_2, hi_38_3⟩ (by omega) hw40 (lv_sub hl50 [0, 2, 3, 4, 5, 6] rfl)
                · skip
                  have hc_48 := eqE (a := v_47.toInt) (b := 1) rfl (by decide +kernel) c_48
                  refine lv_iload (pc := 128) E.1 E.2.1 dX11_best_128 (lv_at hl45 0 rfl) ?_
                  refine lv_if_eq (pc := 130) (tgt := 137) E.1 E.2.1 dX11_best_130 (by decide) (fun c_51 => absurd c_51 (mneE (a := 1) (b := 0) (by decide +kernel) (by decide +kernel) (by omega))) (fun _ => ?_)
                  refine lv_iload (pc := 133) E.1 E.2.1 dX11_best_133 (lv_at hl45 1 rfl) ?_
                  refine lv_istore (pc := 135) (lv' := [(4, .int x_38), (6, .int 1), (5, .int x_38), (3, .int r_19), (0, .ref (mr 0)), (1, .int z_goal), (2, .int z_k)]) E.1 E.2.1 dX11_best_135 hl45 (by decide) rfl (fun ls hl52 => ?_)
                  obtain ⟨v_53, ev_53⟩ : ∃ z : Int32, x_38 + Int32.ofInt (1) = z := ⟨_, rfl⟩
                  have hv_53 : v_53.toInt = x_38.toInt + (1) := by rw [← ev_53]; exact incE rfl (by decide) (by omega)
                  refine lv_iinc (pc := 137) (v := v_53) (lv' := [(5, .int v_53), (4, .int x_38), (6, .int 1), (3, .int r_19), (0, .ref (mr 0)), (1, .int z_goal), (2, .int z_k)]) E.1 E.2.1 dX11_best_137 hl52 (k := 2) rfl ev_53 (by decide) rfl (fun ls hl54 => ?_)
                  refine lv_goto (pc := 140) (tgt := 60) E.1 E.2.1 dX11_best_140 (by decide) ?_
                  exact ih_39 x_38 v_53 _ _ _ ⟨(by show 0 ≤ v_53.toInt; omega), (by show v_53.toInt ≤ (mi 32).toInt; omega), (by show (-1) ≤ x_38.toInt; omega), (by show x_38.toInt + 1 ≤ (mi 32).toInt; omega)⟩ (by omega) hw40 (lv_sub hl54 [0, 1, 3, 4, 5, 6] rfl)
              · skip
                have hc_44 := neE (a := x_37.toInt) (b := (-1)) rfl (by decide +kernel) c_44
                refine lv_aload_n (pc := 88) E.1 E.2.1 dX11_best_88 rfl (lv_at hl41 3 rfl) ?_
                refine x_get (pc := 89) (T := TX11) (N := 13) (ci := 11) (v := .ref (mr 3)) E hw40 inX11 0 0 q_606 rfl rfl (by decide) rfl rfl dX11_best_89 ?_
                refine x_get (pc := 92) (T := TX10) (N := 17) (ci := 10) (v := .ref (mr 12)) E hw40 inX10 1 16 q_494 rfl rfl (by decide) rfl rfl dX11_best_92 ?_
                refine lv_iload (pc := 95) E.1 E.2.1 dX11_best_95 (lv_at hl41 0 rfl) ?_
                refine x_iald (pc := 97) (f := glikely_32) E hw40 6 rfl (inbE (a := x_38.toInt) rfl (by omega)) dX11_best_97 ?_
                refine lv_topi (fun v_55 ev_55 => ?_)
                refine lv_aload_n (pc := 98) E.1 E.2.1 dX11_best_98 rfl (lv_at hl41 3 rfl) ?_
                refine x_get (pc := 99) (T := TX11) (N := 13) (ci := 11) (v := .ref (mr 3)) E hw40 inX11 0 0 q_606 rfl rfl (by decide) rfl rfl dX11_best_99 ?_
                refine x_get (pc := 102) (T := TX10) (N := 17) (ci := 10) (v := .ref (mr 12)) E hw40 inX10 1 16 q_494 rfl rfl (by decide) rfl rfl dX11_best_102 ?_
                refine lv_iload (pc := 105) E.1 E.2.1 dX11_best_105 (lv_at hl41 1 rfl) ?_
                refine x_iald (pc := 107) (f := glikely_32) E hw40 6 rfl (inbE (a := x_37.toInt) rfl (by omega)) dX11_best_107 ?_
                refine lv_topi (fun v_56 ev_56 => ?_)
                refine lv_icmp_le (pc := 108) (tgt := 115) E.1 E.2.1 dX11_best_108 (by decide) (fun c_57 => ?_) (fun c_57 => ?_)
                · skip
                  have hc_57 := leE (a := v_55.toInt) (b := v_56.toInt) rfl rfl c_57
                  refine lv_iconst (pc := 115) (v := 0) E.1 E.2.1 dX11_best_115 (by decide +kernel) ?_
                  refine lv_istore (pc := 116) (lv' := [(6, .int 0), (5, .int x_38), (4, .int x_37), (3, .int r_19), (0, .ref (mr 0)), (1, .int z_goal), (2, .int z_k)]) E.1 E.2.1 dX11_best_116 hl41 (by decide) rfl (fun ls hl58 => ?_)
                  refine lv_iload_n (pc := 118) E.1 E.2.1 dX11_best_118 rfl (lv_at hl58 3 rfl) ?_
                  refine lv_iload (pc := 119) E.1 E.2.1 dX11_best_119 (lv_at hl58 1 rfl) ?_
                  refine lv_ishr (pc := 121) E.1 E.2.1 dX11_best_121 ?_
                  refine lv_topi (fun v_59 ev_59 => ?_)
                  refine lv_iconst (pc := 122) (v := 1) E.1 E.2.1 dX11_best_122 (by decide +kernel) ?_
                  refine lv_iand (pc := 123) E.1 E.2.1 dX11_best_123 ?_
                  refine lv_topi (fun v_60 ev_60 => ?_)
                  refine lv_iconst (pc := 124) (v := 1) E.1 E.2.1 dX11_best_124 (by decide +kernel) ?_
                  refine lv_icmp_ne (pc := 125) (tgt := 137) E.1 E.2.1 dX11_best_125 (by decide) (fun c_61 => ?_) (fun c_61 => ?_)
                  · skip
                    have hc_61 := neE (a := v_60.toInt) (b := 1) rfl (by decide +kernel) c_61
                    obtain ⟨v_62, ev_62⟩ : ∃ z : Int32, x_38 + Int32.ofInt (1) = z := ⟨_, rfl⟩
                    have hv_62 : v_62.toInt = x_38.toInt + (1) := by rw [← ev_62]; exact incE rfl (by decide) (by omega)
                    refine lv_iinc (pc := 137) (v := v_62) (lv' := [(5, .int v_62), (6, .int 0), (4, .int x_37), (3, .int r_19), (0, .ref (mr 0)), (1, .int z_goal), (2, .int z_k)]) E.1 E.2.1 dX11_best_137 hl58 (k := 1) rfl ev_62 (by decide) rfl (fun ls hl63 => ?_)
                    refine lv_goto (pc := 140) (tgt := 60) E.1 E.2.1 dX11_best_140 (by decide) ?_
                    exact ih_39 x_37 v_62 _ _ _ ⟨(by show 0 ≤ v_62.toInt; omega), (by show v_62.toInt ≤ (mi 32).toInt; omega), hi_38_2, hi_38_3⟩ (by omega) hw40 (lv_sub hl63 [0, 2, 3, 4, 5, 6] rfl)
                  · skip
                    have hc_61 := eqE (a := v_60.toInt) (b := 1) rfl (by decide +kernel) c_61
                    refine lv_iload (pc := 128) E.1 E.2.1 dX11_best_128 (lv_at hl58 0 rfl) ?_
                    refine lv_if_eq (pc := 130) (tgt := 137) E.1 E.2.1 dX11_best_130 (by decide) (fun _ => ?_) (fun c_64 => absurd (meqE (a := 0) (b := 0) (by decide +kernel) (by decide +kernel) (by omega)) c_64)
                    obtain ⟨v_65, ev_65⟩ : ∃ z : Int32, x_38 + Int32.ofInt (1) = z := ⟨_, rfl⟩
                    have hv_65 : v_65.toInt = x_38.toInt + (1) := by rw [← ev_65]; exact incE rfl (by decide) (by omega)
                    refine lv_iinc (pc := 137) (v := v_65) (lv' := [(5, .int v_65), (6, .int 0), (4, .int x_37), (3, .int r_19), (0, .ref (mr 0)), (1, .int z_goal), (2, .int z_k)]) E.1 E.2.1 dX11_best_137 hl58 (k := 1) rfl ev_65 (by decide) rfl (fun ls hl66 => ?_)
                    refine lv_goto (pc := 140) (tgt := 60) E.1 E.2.1 dX11_best_140 (by decide) ?_
                    exact ih_39 x_37 v_65 _ _ _ ⟨(by show 0 ≤ v_65.toInt; omega), (by show v_65.toInt ≤ (mi 32).toInt; omega), hi_38_2, hi_38_3⟩ (by omega) hw40 (lv_sub hl66 [0, 2, 3, 4, 5, 6] rfl)
                · skip
                  have hc_57 := nleE (a := v_55.toInt) (b := v_56.toInt) rfl rfl c_57
                  refine lv_iconst (pc := 111) (v := 1) E.1 E.2.1 dX11_best_111 (by decide +kernel) ?_
                  refine lv_goto (pc := 112) (tgt := 116) E.1 E.2.1 dX11_best_112 (by decide) ?_
                  refine lv_istore (pc := 116) (lv' := [(6, .int 1), (5, .int x_38), (4, .int x_37), (3, .int r_19), (0, .ref (mr 0)), (1, .int z_goal), (2, .int z_k)]) E.1 E.2.1 dX11_best_116 hl41 (by decide) rfl (fun ls hl67 => ?_)
                  refine lv_iload_n (pc := 118) E.1 E.2.1 dX11_best_118 rfl (lv_at hl67 3 rfl) ?_
                  refine lv_iload (pc := 119) E.1 E.2.1 dX11_best_119 (lv_at hl67 1 rfl) ?_
                  refine lv_ishr (pc := 121) E.1 E.2.1 dX11_best_121 ?_
                  refine lv_topi (fun v_68 ev_68 => ?_)
                  refine lv_iconst (pc := 122) (v := 1) E.1 E.2.1 dX11_best_122 (by decide +kernel) ?_
                  refine lv_iand (pc := 123) E.1 E.2.1 dX11_best_123 ?_
                  refine lv_topi (fun v_69 ev_69 => ?_)
                  refine lv_iconst (pc := 124) (v := 1) E.1 E.2.1 dX11_best_124 (by decide +kernel) ?_
                  refine lv_icmp_ne (pc := 125) (tgt := 137) E.1 E.2.1 dX11_best_125 (by decide) (fun c_70 => ?_) (fun c_70 => ?_)
                  · skip
                    have hc_70 := neE (a := v_69.toInt) (b := 1) rfl (by decide +kernel) c_70
                    obtain ⟨v_71, ev_71⟩ : ∃ z : Int32, x_38 + Int32.ofInt (1) = z := ⟨_, rfl⟩
                    have hv_71 : v_71.toInt = x_38.toInt + (1) := by rw [← ev_71]; exact incE rfl (by decide) (by omega)
                    refine lv_iinc (pc := 137) (v := v_71) (lv' := [(5, .int v_71), (6, .int 1), (4, .int x_37), (3, .int r_19), (0, .ref (mr 0)), (1, .int z_goal), (2, .int z_k)]) E.1 E.2.1 dX11_best_137 hl67 (k := 1) rfl ev_71 (by decide) rfl (fun ls hl72 => ?_)
                    refine lv_goto (pc := 140) (tgt := 60) E.1 E.2.1 dX11_best_140 (by decide) ?_
                    exact ih_39 x_37 v_71 _ _ _ ⟨(by show 0 ≤ v_71.toInt; omega), (by show v_71.toInt ≤ (mi 32).toInt; omega), hi_38_2, hi_38_3⟩ (by omega) hw40 (lv_sub hl72 [0, 2, 3, 4, 5, 6] rfl)
                  · skip
                    have hc_70 := eqE (a := v_69.toInt) (b := 1) rfl (by decide +kernel) c_70
                    refine lv_iload (pc := 128) E.1 E.2.1 dX11_best_128 (lv_at hl67 0 rfl) ?_
                    refine lv_if_eq (pc := 130) (tgt := 137) E.1 E.2.1 dX11_best_130 (by decide) (fun c_73 => absurd c_73 (mneE (a := 1) (b := 0) (by decide +kernel) (by decide +kernel) (by omega))) (fun _ => ?_)
                    refine lv_iload (pc := 133) E.1 E.2.1 dX11_best_133 (lv_at hl67 1 rfl) ?_
                    refine lv_istore (pc := 135) (lv' := [(4, .int x_38), (6, .int 1), (5, .int x_38), (3, .int r_19), (0, .ref (mr 0)), (1, .int z_goal), (2, .int z_k)]) E.1 E.2.1 dX11_best_135 hl67 (by decide) rfl (fun ls hl74 => ?_)
                    obtain ⟨v_75, ev_75⟩ : ∃ z : Int32, x_38 + Int32.ofInt (1) = z := ⟨_, rfl⟩
                    have hv_75 : v_75.toInt = x_38.toInt + (1) := by rw [← ev_75]; exact incE rfl (by decide) (by omega)
                    refine lv_iinc (pc := 137) (v := v_75) (lv' := [(5, .int v_75), (4, .int x_38), (6, .int 1), (3, .int r_19), (0, .ref (mr 0)), (1, .int z_goal), (2, .int z_k)]) E.1 E.2.1 dX11_best_137 hl74 (k := 2) rfl ev_75 (by decide) rfl (fun ls hl76 => ?_)
                    refine lv_goto (pc := 140) (tgt := 60) E.1 E.2.1 dX11_best_140 (by decide) ?_
                    exact ih_39 x_38 v_75 _ _ _ ⟨(by show 0 ≤ v_75.toInt; omega), (by show v_75.toInt ≤ (mi 32).toInt; omega), (by show (-1) ≤ x_38.toInt; omega), (by show x_38.toInt + 1 ≤ (mi 32).toInt; omega)⟩ (by omega) hw40 (lv_sub hl76 [0, 1, 3, 4, 5, 6] rfl)
        exact loop_36 (Int.toNat ((mi 32).toInt - 0) + 1) (-1) 0 _ _ _ ⟨(by show 0 ≤ (0 : Int32).toInt; have k_0 : (0 : Int32).toInt = 0 := (by decide +kernel); omega), (by show (0 : Int32).toInt ≤ (mi 32).toInt; have k_0 : (0 : Int32).toInt = 0 := (by decide +kernel); omega), (by show (-1) ≤ ((-1) : Int32).toInt; have k_0 : ((-1) : Int32).toInt = -1 := (by decide +kernel); omega), (by show ((-1) : Int32).toInt + 1 ≤ (mi 32).toInt; have k_0 : ((-1) : Int32).toInt = -1 := (by decide +kernel); omega)⟩ (by have k_0 : ((-1) : Int32).toInt = -1 := (by decide +kernel); have k_1 : (0 : Int32).toInt = 0 := (by decide +kernel); omega) hw33 (lv_sub hl35 [0, 1, 2, 3, 4, 5] rfl)
      · skip
        have hc_17 := nleE (a := z_k.toInt) (b := 9) rfl (by decide +kernel) c_17
        refine lv_iconst (pc := 25) (v := (-1)) E.1 E.2.1 dX11_best_25 (by decide +kernel) ?_
        exact em_i (w1 := (fun (u : (Nat → Int32) × (Nat → Nat → Int32) × (Nat → Nat → Int64)) => (WZ_MV cI cJ mv mr u.1 u.2.1 u.2.2))) E hr hlk (mi, mf, mg) hw7 ⟨h0.1, h0.2, h1.1, h1.2, h2.1, h2.2, h3.1, h3.2, h4.1, h4.2, h5.1, h5.2, h6.1, h6.2, h7.1, h7.2, rfl, rfl, a_p_from, a_p_to, a_t_marks, a_u_marks, rfl, rfl⟩ (Nat.le_of_ble_eq_true rfl) (Nat.le_of_ble_eq_true rfl) dX11_best_26
  · skip
    have ha_12 : z_goal.toInt + 1 ≤ 0 := ha_12
    refine lv_if_eq (pc := 11) (tgt := 25) E.1 E.2.1 dX11_best_11 (by decide) (fun _ => ?_) (fun c_77 => absurd (meqE (a := 0) (b := 0) (by decide +kernel) (by decide +kernel) (by omega)) c_77)
    refine lv_iconst (pc := 25) (v := (-1)) E.1 E.2.1 dX11_best_25 (by decide +kernel) ?_
    exact em_i (w1 := (fun (u : (Nat → Int32) × (Nat → Nat → Int32) × (Nat → Nat → Int64)) => (WZ_MV cI cJ mv mr u.1 u.2.1 u.2.2))) E hr hlk (mi, mf, mg) hw7 ⟨h0.1, h0.2, h1.1, h1.2, h2.1, h2.2, h3.1, h3.2, h4.1, h4.2, h5.1, h5.2, h6.1, h6.2, h7.1, h7.2, rfl, rfl, a_p_from, a_p_to, a_t_marks, a_u_marks, rfl, rfl⟩ (Nat.le_of_ble_eq_true rfl) (Nat.le_of_ble_eq_true rfl) dX11_best_26
  · skip
    have ha_13 : (mi 32).toInt ≤ z_goal.toInt := ha_13
    refine lv_if_eq (pc := 11) (tgt := 25) E.1 E.2.1 dX11_best_11 (by decide) (fun _ => ?_) (fun c_78 => absurd (meqE (a := 0) (b := 0) (by decide +kernel) (by decide +kernel) (by omega)) c_78)
    refine lv_iconst (pc := 25) (v := (-1)) E.1 E.2.1 dX11_best_25 (by decide +kernel) ?_
    exact em_i (w1 := (fun (u : (Nat → Int32) × (Nat → Nat → Int32) × (Nat → Nat → Int64)) => (WZ_MV cI cJ mv mr u.1 u.2.1 u.2.2))) E hr hlk (mi, mf, mg) hw7 ⟨h0.1, h0.2, h1.1, h1.2, h2.1, h2.2, h3.1, h3.2, h4.1, h4.2, h5.1, h5.2, h6.1, h6.2, h7.1, h7.2, rfl, rfl, a_p_from, a_p_to, a_t_marks, a_u_marks, rfl, rfl⟩ (Nat.le_of_ble_eq_true rfl) (Nat.le_of_ble_eq_true rfl) dX11_best_26
  · skip
    have ha_14 : 10 ≤ z_goal.toInt := ha_14
    refine lv_if_eq (pc := 11) (tgt := 25) E.1 E.2.1 dX11_best_11 (by decide) (fun _ => ?_) (fun c_79 => absurd (meqE (a := 0) (b := 0) (by decide +kernel) (by decide +kernel) (by omega)) c_79)
    refine lv_iconst (pc := 25) (v := (-1)) E.1 E.2.1 dX11_best_25 (by decide +kernel) ?_
    exact em_i (w1 := (fun (u : (Nat → Int32) × (Nat → Nat → Int32) × (Nat → Nat → Int64)) => (WZ_MV cI cJ mv mr u.1 u.2.1 u.2.2))) E hr hlk (mi, mf, mg) hw7 ⟨h0.1, h0.2, h1.1, h1.2, h2.1, h2.2, h3.1, h3.2, h4.1, h4.2, h5.1, h5.2, h6.1, h6.2, h7.1, h7.2, rfl, rfl, a_p_from, a_p_to, a_t_marks, a_u_marks, rfl, rfl⟩ (Nat.le_of_ble_eq_true rfl) (Nat.le_of_ble_eq_true rfl) dX11_best_26
