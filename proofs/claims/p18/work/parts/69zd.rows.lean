set_option maxHeartbeats 4000000 in
set_option maxRecDepth 100000 in
theorem t_far (l : Launch) (D : va_G) (cI cJ : ClassId) (sz : Nat) (mr : Nat → Nat) (mi : Nat → Int32) (mf : Nat → Nat → Int32) (mg : Nat → Nat → Int64) (z_a : Int32) (z_b : Int32) (mv : Nat → Value) (h0 : 0 ≤ (mi 1).toInt ∧ (mi 1).toInt ≤ 5) (h1 : 0 ≤ (mi 2).toInt ∧ (mi 2).toInt ≤ 6) (h2 : 0 ≤ (mi 14).toInt ∧ (mi 14).toInt ≤ 200) (h3 : 0 ≤ (mi 22).toInt ∧ (mi 22).toInt ≤ 10) (h4 : 0 ≤ (mi 30).toInt ∧ (mi 30).toInt ≤ 40) (a_p_from : p9 (mf 26)) (a_p_to : p9 (mf 27)) : Met l yX11_far (Cond.code yX11_far cX11_far 3 (some .int) :: GW) ({ frames := 11, cells := 0, slots := 0, locals := 263 } : Room) (va_Pc [.ref (mr 0), .int z_a, .int z_b] (PW D cI cJ sz (WZ_Mfar cI cJ mv mr mi mf mg) xT)) (va_Qi (fun (r : Int32) (u : (Nat → Int32) × (Nat → Nat → Int32) × (Nat → Nat → Int64)) => (0 ≤ (u.1 1).toInt) ∧ ((u.1 1).toInt ≤ 5) ∧ (0 ≤ (u.1 2).toInt) ∧ ((u.1 2).toInt ≤ 6) ∧ (0 ≤ (u.1 14).toInt) ∧ ((u.1 14).toInt ≤ 200) ∧ (0 ≤ (u.1 22).toInt) ∧ ((u.1 22).toInt ≤ 10) ∧ (0 ≤ (u.1 30).toInt) ∧ ((u.1 30).toInt ≤ 40) ∧ ((u.1 22).toInt = (mi 22).toInt) ∧ (p9 (u.2.1 26)) ∧ (p9 (u.2.1 27)) ∧ ((Eq (mf 17)) (u.2.1 17)) ∧ ((Eq (mf 21)) (u.2.1 21))) (fun u => QW D cI cJ (va_A (WZ_Mfar cI cJ mv mr mi mf mg) sz) ((fun (u : (Nat → Int32) × (Nat → Nat → Int32) × (Nat → Nat → Int64)) => (WZ_Mfar cI cJ mv mr u.1 u.2.1 u.2.2)) u)) (va_A (WZ_Mfar cI cJ mv mr mi mf mg) sz)) 0 0 (va_A (WZ_Mfar cI cJ mv mr mi mf mg) sz) := by
  refine mk_met (y := yX11_far) (bytes := cX11_far) (maxL := 3) (avs := [.ref (mr 0), .int z_a, .int z_b]) (WS := (WZ_Mfar cI cJ mv mr mi mf mg)) (Qf := fun A => va_Qi (fun (r : Int32) (u : (Nat → Int32) × (Nat → Nat → Int32) × (Nat → Nat → Int64)) => (0 ≤ (u.1 1).toInt) ∧ ((u.1 1).toInt ≤ 5) ∧ (0 ≤ (u.1 2).toInt) ∧ ((u.1 2).toInt ≤ 6) ∧ (0 ≤ (u.1 14).toInt) ∧ ((u.1 14).toInt ≤ 200) ∧ (0 ≤ (u.1 22).toInt) ∧ ((u.1 22).toInt ≤ 10) ∧ (0 ≤ (u.1 30).toInt) ∧ ((u.1 30).toInt ≤ 40) ∧ ((u.1 22).toInt = (mi 22).toInt) ∧ (p9 (u.2.1 26)) ∧ (p9 (u.2.1 27)) ∧ ((Eq (mf 17)) (u.2.1 17)) ∧ ((Eq (mf 21)) (u.2.1 21))) (fun u => QW D cI cJ A ((fun (u : (Nat → Int32) × (Nat → Nat → Int32) × (Nat → Nat → Int64)) => (WZ_Mfar cI cJ mv mr u.1 u.2.1 u.2.2)) u)) A) (by decide) (Nat.le_of_ble_eq_true rfl) ?_
  intro p e s m below meth c A ls E hr hlk hnm hX hw1 hl2
  have hl3 : lv_has ls 3 [(0, .ref (mr 0)), (1, .int z_a), (2, .int z_b)] := hl2
  refine lv_aload_n (pc := 0) E.1 E.2.1 dX11_far_0 rfl (lv_at hl3 0 rfl) ?_
  refine x_get (pc := 1) (T := TX11) (N := 13) (ci := 11) (v := .ref (mr 3)) E hw1 inX11 0 0 q_606 rfl rfl (by decide) rfl rfl dX11_far_1 ?_
  refine x_get (pc := 4) (T := TX10) (N := 17) (ci := 10) (v := .ref (mr 16)) E hw1 inX10 1 1 q_463 rfl rfl (by decide) rfl rfl dX11_far_4 ?_
  refine lv_iload_n (pc := 7) E.1 E.2.1 dX11_far_7 rfl (lv_at hl3 1 rfl) ?_
  refine ck_i (pc := 8) (ws' := (fun (u : Unit) => (WZ_Mfar cI cJ mv mr mi mf mg))) [false, false, false, true, true, true, true, true, true, true, true, false, false, false, false, false, false, false] hw1 rfl (fun hC_ => (rn_V (As := [.int z_a]) (rest := []) E hw1 (t_has l D cI cJ _ (shf 16 mr) (shf 16 mi) (shf 16 mf) (shf 16 mg) z_a (vl [mv 25])) (gdV q_674 q_675 q_676 q_154 q_677) hdV_X1_has ⟨rfl, rfl⟩ ⟨(Nat.le_of_ble_eq_true rfl), (Nat.le_of_ble_eq_true rfl)⟩ ⟨(Nat.le_of_ble_eq_true rfl), (Nat.le_of_ble_eq_true rfl)⟩ xT_b xT_at 3 1 rfl rfl rfl _ hC_ (nd_T _ 0) rfl hl3.1 rfl (Nat.le_of_ble_eq_true rfl) dX11_far_8)) rfl (fun _ => rfl) (fun _ => rfl) (fun r_5 u_4 H1 locs hp hw6 => ?_)
  generalize H1 = H at hw6 ⊢
  have hw7 : WD D A s.heap (WZ_Mfar cI cJ mv mr mi mf mg) H locs := hw6
  have hp_8 := hp
  rcases hp_8 with ⟨rfl, ha_9, ha_10, ha_11⟩ | ⟨rfl, ha_12⟩ | ⟨rfl, ha_13⟩ | ⟨rfl, ha_14⟩
  · skip
    have ha_9 : 0 ≤ z_a.toInt := ha_9
    have ha_10 : z_a.toInt + 1 ≤ (mi 22).toInt := ha_10
    have ha_11 : z_a.toInt ≤ 9 := ha_11
    refine lv_if_eq (pc := 11) (tgt := 28) E.1 E.2.1 dX11_far_11 (by decide) (fun c_15 => absurd c_15 (mneE (a := 1) (b := 0) (by decide +kernel) (by decide +kernel) (by omega))) (fun _ => ?_)
    refine lv_aload_n (pc := 14) E.1 E.2.1 dX11_far_14 rfl (lv_at hl3 0 rfl) ?_
    refine x_get (pc := 15) (T := TX11) (N := 13) (ci := 11) (v := .ref (mr 3)) E hw7 inX11 0 0 q_606 rfl rfl (by decide) rfl rfl dX11_far_15 ?_
    refine x_get (pc := 18) (T := TX10) (N := 17) (ci := 10) (v := .ref (mr 16)) E hw7 inX10 1 1 q_463 rfl rfl (by decide) rfl rfl dX11_far_18 ?_
    refine lv_iload_n (pc := 21) E.1 E.2.1 dX11_far_21 rfl (lv_at hl3 2 rfl) ?_
    refine ck_i (pc := 22) (ws' := (fun (u : Unit) => (WZ_Mfar cI cJ mv mr mi mf mg))) [false, false, false, true, true, true, true, true, true, true, true, false, false, false, false, false, false, false] hw7 rfl (fun hC_ => (rn_V (As := [.int z_b]) (rest := []) E hw7 (t_has l D cI cJ _ (shf 16 mr) (shf 16 mi) (shf 16 mf) (shf 16 mg) z_b (vl [mv 25])) (gdV q_674 q_675 q_676 q_154 q_677) hdV_X1_has ⟨rfl, rfl⟩ ⟨(Nat.le_of_ble_eq_true rfl), (Nat.le_of_ble_eq_true rfl)⟩ ⟨(Nat.le_of_ble_eq_true rfl), (Nat.le_of_ble_eq_true rfl)⟩ xT_b xT_at 3 1 rfl rfl rfl _ hC_ (nd_T _ 0) rfl hl3.1 rfl (Nat.le_of_ble_eq_true rfl) dX11_far_22)) rfl (fun _ => rfl) (fun _ => rfl) (fun r_17 u_16 H1 locs hp hw18 => ?_)
    generalize H1 = H at hw18 ⊢
    have hw19 : WD D A s.heap (WZ_Mfar cI cJ mv mr mi mf mg) H locs := hw18
    have hp_20 := hp
    rcases hp_20 with ⟨rfl, ha_21, ha_22, ha_23⟩ | ⟨rfl, ha_24⟩ | ⟨rfl, ha_25⟩ | ⟨rfl, ha_26⟩
    · skip
      have ha_21 : 0 ≤ z_b.toInt := ha_21
      have ha_22 : z_b.toInt + 1 ≤ (mi 22).toInt := ha_22
      have ha_23 : z_b.toInt ≤ 9 := ha_23
      refine lv_if_ne (pc := 25) (tgt := 30) E.1 E.2.1 dX11_far_25 (by decide) (fun _ => ?_) (fun c_27 => absurd c_27 (mneE (a := 1) (b := 0) (by decide +kernel) (by decide +kernel) (by omega)))
      refine lv_aload_n (pc := 30) E.1 E.2.1 dX11_far_30 rfl (lv_at hl3 0 rfl) ?_
      refine x_get (pc := 31) (T := TX11) (N := 13) (ci := 11) (v := .ref (mr 3)) E hw19 inX11 0 0 q_606 rfl rfl (by decide) rfl rfl dX11_far_31 ?_
      refine x_get (pc := 34) (T := TX10) (N := 17) (ci := 10) (v := .ref (mr 25)) E hw19 inX10 1 2 q_466 rfl rfl (by decide) rfl rfl dX11_far_34 ?_
      refine lv_iload_n (pc := 37) E.1 E.2.1 dX11_far_37 rfl (lv_at hl3 1 rfl) ?_
      refine lv_iload_n (pc := 38) E.1 E.2.1 dX11_far_38 rfl (lv_at hl3 2 rfl) ?_
      refine lv_aload_n (pc := 39) E.1 E.2.1 dX11_far_39 rfl (lv_at hl3 0 rfl) ?_
      refine x_get (pc := 40) (T := TX11) (N := 13) (ci := 11) (v := .ref (mr 3)) E hw19 inX11 0 0 q_606 rfl rfl (by decide) rfl rfl dX11_far_40 ?_
      refine x_get (pc := 43) (T := TX10) (N := 17) (ci := 10) (v := .ref (mr 8)) E hw19 inX10 1 0 q_458 rfl rfl (by decide) rfl rfl dX11_far_43 ?_
      refine x_get (pc := 46) (T := TX4) (N := 12) (ci := 4) (v := .int (mi 12)) E hw19 inX4 2 8 q_225 rfl rfl (by decide) rfl rfl dX11_far_46 ?_
      refine ck_i (pc := 49) (ws' := (fun (u : (Nat → Int32) × (Nat → Int32)) => (WZ_Mfar cI cJ mv mr mi (va_up (va_up mf 31 u.1) 32 u.2) mg))) [false, false, false, false, false, false, false, false, false, false, false, true, true, true, true, true, true, true] hw19 rfl (fun hC_ => (rn_V (As := [.int z_a, .int z_b, .int (mi 12)]) (rest := []) E hw19 (t_apart l D cI cJ _ (shf 25 mr) (shf 25 mi) (shf 25 mf) (shf 25 mg) z_a z_b (mi 12) h4 a_p_from a_p_to) (gdV q_1133 q_1017 q_1018 q_155 q_1019) hdV_X5_apart ⟨rfl, rfl⟩ ⟨(Nat.le_of_ble_eq_true rfl), (Nat.le_of_ble_eq_true rfl)⟩ ⟨(Nat.le_of_ble_eq_true rfl), (Nat.le_of_ble_eq_true rfl)⟩ xT_b xT_at 11 5 rfl rfl rfl _ hC_ (nd_T _ 0) rfl hl3.1 rfl (Nat.le_of_ble_eq_true rfl) dX11_far_49)) rfl (fun _ => rfl) (fun _ => rfl) (fun r_29 u_28 H1 locs hp hw30 => ?_)
      obtain ⟨gmeasured_31, gmeasuredIn_32⟩ := u_28
      generalize H1 = H at hw30 ⊢
      have hw33 : WD D A s.heap (WZ_Mfar cI cJ mv mr mi (va_up (va_up mf 31 gmeasured_31) 32 gmeasuredIn_32) mg) H locs := hw30
      exact em_i (w1 := (fun (u : (Nat → Int32) × (Nat → Nat → Int32) × (Nat → Nat → Int64)) => (WZ_Mfar cI cJ mv mr u.1 u.2.1 u.2.2))) E hr hlk (mi, (va_up (va_up mf 31 gmeasured_31) 32 gmeasuredIn_32), mg) hw33 ⟨h0.1, h0.2, h1.1, h1.2, h2.1, h2.2, h3.1, h3.2, h4.1, h4.2, rfl, a_p_from, a_p_to, rfl, rfl⟩ (Nat.le_of_ble_eq_true rfl) (Nat.le_of_ble_eq_true rfl) dX11_far_52
    · skip
      have ha_24 : z_b.toInt + 1 ≤ 0 := ha_24
      refine lv_if_ne (pc := 25) (tgt := 30) E.1 E.2.1 dX11_far_25 (by decide) (fun c_34 => absurd (meqE (a := 0) (b := 0) (by decide +kernel) (by decide +kernel) (by omega)) c_34) (fun _ => ?_)
      refine lv_iconst (pc := 28) (v := (-1)) E.1 E.2.1 dX11_far_28 (by decide +kernel) ?_
      exact em_i (w1 := (fun (u : (Nat → Int32) × (Nat → Nat → Int32) × (Nat → Nat → Int64)) => (WZ_Mfar cI cJ mv mr u.1 u.2.1 u.2.2))) E hr hlk (mi, mf, mg) hw19 ⟨h0.1, h0.2, h1.1, h1.2, h2.1, h2.2, h3.1, h3.2, h4.1, h4.2, rfl, a_p_from, a_p_to, rfl, rfl⟩ (Nat.le_of_ble_eq_true rfl) (Nat.le_of_ble_eq_true rfl) dX11_far_29
    · skip
      have ha_25 : (mi 22).toInt ≤ z_b.toInt := ha_25
      refine lv_if_ne (pc := 25) (tgt := 30) E.1 E.2.1 dX11_far_25 (by decide) (fun c_35 => absurd (meqE (a := 0) (b := 0) (by decide +kernel) (by decide +kernel) (by omega)) c_35) (fun _ => ?_)
      refine lv_iconst (pc := 28) (v := (-1)) E.1 E.2.1 dX11_far_28 (by decide +kernel) ?_
      exact em_i (w1 := (fun (u : (Nat → Int32) × (Nat → Nat → Int32) × (Nat → Nat → Int64)) => (WZ_Mfar cI cJ mv mr u.1 u.2.1 u.2.2))) E hr hlk (mi, mf, mg) hw19 ⟨h0.1, h0.2, h1.1, h1.2, h2.1, h2.2, h3.1, h3.2, h4.1, h4.2, rfl, a_p_from, a_p_to, rfl, rfl⟩ (Nat.le_of_ble_eq_true rfl) (Nat.le_of_ble_eq_true rfl) dX11_far_29
    · skip
      have ha_26 : 10 ≤ z_b.toInt := ha_26
      refine lv_if_ne (pc := 25) (tgt := 30) E.1 E.2.1 dX11_far_25 (by decide) (fun c_36 => absurd (meqE (a := 0) (b := 0) (by decide +kernel) (by decide +kernel) (by omega)) c_36) (fun _ => ?_)
      refine lv_iconst (pc := 28) (v := (-1)) E.1 E.2.1 dX11_far_28 (by decide +kernel) ?_
      exact em_i (w1 := (fun (u : (Nat → Int32) × (Nat → Nat → Int32) × (Nat → Nat → Int64)) => (WZ_Mfar cI cJ mv mr u.1 u.2.1 u.2.2))) E hr hlk (mi, mf, mg) hw19 ⟨h0.1, h0.2, h1.1, h1.2, h2.1, h2.2, h3.1, h3.2, h4.1, h4.2, rfl, a_p_from, a_p_to, rfl, rfl⟩ (Nat.le_of_ble_eq_true rfl) (Nat.le_of_ble_eq_true rfl) dX11_far_29
  · skip
    have ha_12 : z_a.toInt + 1 ≤ 0 := ha_12
    refine lv_if_eq (pc := 11) (tgt := 28) E.1 E.2.1 dX11_far_11 (by decide) (fun _ => ?_) (fun c_37 => absurd (meqE (a := 0) (b := 0) (by decide +kernel) (by decide +kernel) (by omega)) c_37)
    refine lv_iconst (pc := 28) (v := (-1)) E.1 E.2.1 dX11_far_28 (by decide +kernel) ?_
    exact em_i (w1 := (fun (u : (Nat → Int32) × (Nat → Nat → Int32) × (Nat → Nat → Int64)) => (WZ_Mfar cI cJ mv mr u.1 u.2.1 u.2.2))) E hr hlk (mi, mf, mg) hw7 ⟨h0.1, h0.2, h1.1, h1.2, h2.1, h2.2, h3.1, h3.2, h4.1, h4.2, rfl, a_p_from, a_p_to, rfl, rfl⟩ (Nat.le_of_ble_eq_true rfl) (Nat.le_of_ble_eq_true rfl) dX11_far_29
  · skip
    have ha_13 : (mi 22).toInt ≤ z_a.toInt := ha_13
    refine lv_if_eq (pc := 11) (tgt := 28) E.1 E.2.1 dX11_far_11 (by decide) (fun _ => ?_) (fun c_38 => absurd (meqE (a := 0) (b := 0) (by decide +kernel) (by decide +kernel) (by omega)) c_38)
    refine lv_iconst (pc := 28) (v := (-1)) E.1 E.2.1 dX11_far_28 (by decide +kernel) ?_
    exact em_i (w1 := (fun (u : (Nat → Int32) × (Nat → Nat → Int32) × (Nat → Nat → Int64)) => (WZ_Mfar cI cJ mv mr u.1 u.2.1 u.2.2))) E hr hlk (mi, mf, mg) hw7 ⟨h0.1, h0.2, h1.1, h1.2, h2.1, h2.2, h3.1, h3.2, h4.1, h4.2, rfl, a_p_from, a_p_to, rfl, rfl⟩ (Nat.le_of_ble_eq_true rfl) (Nat.le_of_ble_eq_true rfl) dX11_far_29
  · skip
    have ha_14 : 10 ≤ z_a.toInt := ha_14
    refine lv_if_eq (pc := 11) (tgt := 28) E.1 E.2.1 dX11_far_11 (by decide) (fun _ => ?_) (fun c_39 => absurd (meqE (a := 0) (b := 0) (by decide +kernel) (by decide +kernel) (by omega)) c_39)
    refine lv_iconst (pc := 28) (v := (-1)) E.1 E.2.1 dX11_far_28 (by decide +kernel) ?_
    exact em_i (w1 := (fun (u : (Nat → Int32) × (Nat → Nat → Int32) × (Nat → Nat → Int64)) => (WZ_Mfar cI cJ mv mr u.1 u.2.1 u.2.2))) E hr hlk (mi, mf, mg) hw7 ⟨h0.1, h0.2, h1.1, h1.2, h2.1, h2.2, h3.1, h3.2, h4.1, h4.2, rfl, a_p_from, a_p_to, rfl, rfl⟩ (Nat.le_of_ble_eq_true rfl) (Nat.le_of_ble_eq_true rfl) dX11_far_29
set_option maxHeartbeats 4000000 in
set_option maxRecDepth 100000 in
theorem t_need (l : Launch) (D : va_G) (cI cJ : ClassId) (sz : Nat) (mr : Nat → Nat) (mi : Nat → Int32) (mf : Nat → Nat → Int32) (mg : Nat → Nat → Int64) (z_i : Int32) (z_what : Int32) (mv : Nat → Value) (h0 : 0 ≤ (mi 1).toInt ∧ (mi 1).toInt ≤ 5) (h1 : 0 ≤ (mi 2).toInt ∧ (mi 2).toInt ≤ 6) (h2 : 0 ≤ (mi 19).toInt ∧ (mi 19).toInt ≤ 200) (h3 : 0 ≤ (mi 27).toInt ∧ (mi 27).toInt ≤ 10) : Met l yX11_need (Cond.code yX11_need cX11_need 4 (some .int) :: GW) ({ frames := 11, cells := 0, slots := 0, locals := 263 } : Room) (va_Pc [.ref (mr 0), .int z_i, .int z_what] (PW D cI cJ sz (WZ_Mneed cI cJ mv mr mi mf mg) xT)) (va_Qi (fun (r : Int32) (u : (Nat → Int32) × (Nat → Nat → Int32) × (Nat → Nat → Int64)) => (0 ≤ (u.1 1).toInt) ∧ ((u.1 1).toInt ≤ 5) ∧ (0 ≤ (u.1 2).toInt) ∧ ((u.1 2).toInt ≤ 6) ∧ (0 ≤ (u.1 19).toInt) ∧ ((u.1 19).toInt ≤ 200) ∧ (0 ≤ (u.1 27).toInt) ∧ ((u.1 27).toInt ≤ 10)) (fun u => QW D cI cJ (va_A (WZ_Mneed cI cJ mv mr mi mf mg) sz) ((fun (u : (Nat → Int32) × (Nat → Nat → Int32) × (Nat → Nat → Int64)) => (WZ_Mneed cI cJ mv mr u.1 u.2.1 u.2.2)) u)) (va_A (WZ_Mneed cI cJ mv mr mi mf mg) sz)) 0 0 (va_A (WZ_Mneed cI cJ mv mr mi mf mg) sz) := by
  refine mk_met (y := yX11_need) (bytes := cX11_need) (maxL := 4) (avs := [.ref (mr 0), .int z_i, .int z_what]) (WS := (WZ_Mneed cI cJ mv mr mi mf mg)) (Qf := fun A => va_Qi (fun (r : Int32) (u : (Nat → Int32) × (Nat → Nat → Int32) × (Nat → Nat → Int64)) => (0 ≤ (u.1 1).toInt) ∧ ((u.1 1).toInt ≤ 5) ∧ (0 ≤ (u.1 2).toInt) ∧ ((u.1 2).toInt ≤ 6) ∧ (0 ≤ (u.1 19).toInt) ∧ ((u.1 19).toInt ≤ 200) ∧ (0 ≤ (u.1 27).toInt) ∧ ((u.1 27).toInt ≤ 10)) (fun u => QW D cI cJ A ((fun (u : (Nat → Int32) × (Nat → Nat → Int32) × (Nat → Nat → Int64)) => (WZ_Mneed cI cJ mv mr u.1 u.2.1 u.2.2)) u)) A) (by decide) (Nat.le_of_ble_eq_true rfl) ?_
  intro p e s m below meth c A ls E hr hlk hnm hX hw1 hl2
  have hl3 : lv_has ls 4 [(0, .ref (mr 0)), (1, .int z_i), (2, .int z_what)] := hl2
  refine lv_aload_n (pc := 0) E.1 E.2.1 dX11_need_0 rfl (lv_at hl3 0 rfl) ?_
  refine x_get (pc := 1) (T := TX11) (N := 13) (ci := 11) (v := .ref (mr 3)) E hw1 inX11 0 0 q_606 rfl rfl (by decide) rfl rfl dX11_need_1 ?_
  refine x_get (pc := 4) (T := TX10) (N := 17) (ci := 10) (v := .ref (mr 21)) E hw1 inX10 1 3 q_469 rfl rfl (by decide) rfl rfl dX11_need_4 ?_
  refine lv_astore_n (pc := 7) (lv' := [(3, .ref (mr 21)), (0, .ref (mr 0)), (1, .int z_i), (2, .int z_what)]) E.1 E.2.1 dX11_need_7 rfl hl3 (by decide) rfl (fun ls hl4 => ?_)
  refine lv_iload_n (pc := 8) E.1 E.2.1 dX11_need_8 rfl (lv_at hl4 2 rfl) ?_
  refine lv_if_lt (pc := 9) (tgt := 26) E.1 E.2.1 dX11_need_9 (by decide) (fun c_5 => ?_) (fun c_5 => ?_)
  · skip
    have hc_5 := ltE (a := z_i.toInt) (b := 0) rfl (by decide +kernel) c_5
    refine lv_bipush (pc := 26) (v := (-2)) E.1 E.2.1 dX11_need_26 (by decide +kernel) ?_
    exact em_i (w1 := (fun (u : (Nat → Int32) × (Nat → Nat → Int32) × (Nat → Nat → Int64)) => (WZ_Mneed cI cJ mv mr u.1 u.2.1 u.2.2))) E hr hlk (mi, mf, mg) hw1 ⟨h0.1, h0.2, h1.1, h1.2, h2.1, h2.2, h3.1, h3.2⟩ (Nat.le_of_ble_eq_true rfl) (Nat.le_of_ble_eq_true rfl) dX11_need_28
  · skip
    have hc_5 := nltE (a := z_i.toInt) (b := 0) rfl (by decide +kernel) c_5
    refine lv_iload_n (pc := 12) E.1 E.2.1 dX11_need_12 rfl (lv_at hl4 2 rfl) ?_
    refine lv_aload_n (pc := 13) E.1 E.2.1 dX11_need_13 rfl (lv_at hl4 0 rfl) ?_
    refine x_get (pc := 14) (T := TX3) (N := 6) (ci := 3) (v := .int (mi 27)) E hw1 inX3 8 5 q_363 rfl rfl (by decide) rfl rfl dX11_need_14 ?_
    refine lv_icmp_ge (pc := 17) (tgt := 26) E.1 E.2.1 dX11_need_17 (by decide) (fun c_6 => ?_) (fun c_6 => ?_)
    · skip
      have hc_6 := leE (a := (mi 27).toInt) (b := z_i.toInt) rfl rfl c_6
      refine lv_bipush (pc := 26) (v := (-2)) E.1 E.2.1 dX11_need_26 (by decide +kernel) ?_
      exact em_i (w1 := (fun (u : (Nat → Int32) × (Nat → Nat → Int32) × (Nat → Nat → Int64)) => (WZ_Mneed cI cJ mv mr u.1 u.2.1 u.2.2))) E hr hlk (mi, mf, mg) hw1 ⟨h0.1, h0.2, h1.1, h1.2, h2.1, h2.2, h3.1, h3.2⟩ (Nat.le_of_ble_eq_true rfl) (Nat.le_of_ble_eq_true rfl) dX11_need_28
    · skip
      have hc_6 := nleE (a := (mi 27).toInt) (b := z_i.toInt) rfl rfl c_6
      refine lv_iload_n (pc := 20) E.1 E.2.1 dX11_need_20 rfl (lv_at hl4 2 rfl) ?_
      refine lv_bipush (pc := 21) (v := 10) E.1 E.2.1 dX11_need_21 (by decide +kernel) ?_
      refine lv_icmp_lt (pc := 23) (tgt := 29) E.1 E.2.1 dX11_need_23 (by decide) (fun _ => ?_) (fun c_7 => absurd (mltE (a := z_i.toInt) (b := 10) rfl (by decide +kernel) (by omega)) c_7)
      refine lv_iload_n (pc := 29) E.1 E.2.1 dX11_need_29 rfl (lv_at hl4 3 rfl) ?_
      rcases swt (x := z_what) 0 7 with hsw_8 | ⟨hsw_8k, hsw_81, hsw_82, hsw_8⟩
      · skip
        refine lv_tableOut (pc := 30) (tgt := 160) E.1 E.2.1 dX11_need_30 hsw_8 (by decide) ?_
        refine lv_bipush (pc := 160) (v := (-2)) E.1 E.2.1 dX11_need_160 (by decide +kernel) ?_
        exact em_i (w1 := (fun (u : (Nat → Int32) × (Nat → Nat → Int32) × (Nat → Nat → Int64)) => (WZ_Mneed cI cJ mv mr u.1 u.2.1 u.2.2))) E hr hlk (mi, mf, mg) hw1 ⟨h0.1, h0.2, h1.1, h1.2, h2.1, h2.2, h3.1, h3.2⟩ (Nat.le_of_ble_eq_true rfl) (Nat.le_of_ble_eq_true rfl) dX11_need_162
      · skip
        rcases (show hsw_8k = 0 ∨ hsw_8k = 1 ∨ hsw_8k = 2 ∨ hsw_8k = 3 ∨ hsw_8k = 4 ∨ hsw_8k = 5 ∨ hsw_8k = 6 ∨ hsw_8k = 7 from by omega) with rfl | rfl | rfl | rfl | rfl | rfl | rfl | rfl
        · skip
          have hsw_8v : z_what.toInt = 0 := hsw_8
          have hsw_8e : z_what = 0 := Int32.toInt_inj.mp (by rw [hsw_8]; decide +kernel)
          refine lv_tableIn (pc := 30) (off := 46) (tgt := 76) E.1 E.2.1 dX11_need_30 (by rw [hsw_8e]; decide +kernel) (by rw [hsw_8e]; decide +kernel) (by rw [hsw_8e]; decide +kernel) (by decide) ?_
          refine lv_aload_n (pc := 76) E.1 E.2.1 dX11_need_76 rfl (lv_at hl4 0 rfl) ?_
          refine x_get (pc := 77) (T := TX3) (N := 6) (ci := 3) (v := .ref (mr 22)) E hw1 inX3 8 0 q_346 rfl rfl (by decide) rfl rfl dX11_need_77 ?_
          refine lv_iload_n (pc := 80) E.1 E.2.1 dX11_need_80 rfl (lv_at hl4 2 rfl) ?_
          refine x_iald (pc := 81) (f := (mf 22)) E hw1 9 rfl (inbE (a := z_i.toInt) rfl (by omega)) dX11_need_81 ?_
          refine lv_topi (fun v_9 ev_9 => ?_)
          exact em_i (w1 := (fun (u : (Nat → Int32) × (Nat → Nat → Int32) × (Nat → Nat → Int64)) => (WZ_Mneed cI cJ mv mr u.1 u.2.1 u.2.2))) E hr hlk (mi, mf, mg) hw1 ⟨h0.1, h0.2, h1.1, h1.2, h2.1, h2.2, h3.1, h3.2⟩ (Nat.le_of_ble_eq_true rfl) (Nat.le_of_ble_eq_true rfl) dX11_need_82
        · skip
          have hsw_8v : z_what.toInt = 1 := hsw_8
          have hsw_8e : z_what = 1 := Int32.toInt_inj.mp (by rw [hsw_8]; decide +kernel)
          refine lv_tableIn (pc := 30) (off := 53) (tgt := 83) E.1 E.2.1 dX11_need_30 (by rw [hsw_8e]; decide +kernel) (by rw [hsw_8e]; decide +kernel) (by rw [hsw_8e]; decide +kernel) (by decide) ?_
          refine lv_aload_n (pc := 83) E.1 E.2.1 dX11_need_83 rfl (lv_at hl4 0 rfl) ?_
          refine x_get (pc := 84) (T := TX3) (N := 6) (ci := 3) (v := .ref (mr 23)) E hw1 inX3 8 1 q_350 rfl rfl (by decide) rfl rfl dX11_need_84 ?_
          refine lv_iload_n (pc := 87) E.1 E.2.1 dX11_need_87 rfl (lv_at hl4 2 rfl) ?_
          refine x_iald (pc := 88) (f := (mf 23)) E hw1 10 rfl (inbE (a := z_i.toInt) rfl (by omega)) dX11_need_88 ?_
          refine lv_topi (fun v_10 ev_10 => ?_)
          exact em_i (w1 := (fun (u : (Nat → Int32) × (Nat → Nat → Int32) × (Nat → Nat → Int64)) => (WZ_Mneed cI cJ mv mr u.1 u.2.1 u.2.2))) E hr hlk (mi, mf, mg) hw1 ⟨h0.1, h0.2, h1.1, h1.2, h2.1, h2.2, h3.1, h3.2⟩ (Nat.le_of_ble_eq_true rfl) (Nat.le_of_ble_eq_true rfl) dX11_need_89
        · skip
          have hsw_8v : z_what.toInt = 2 := hsw_8
          have hsw_8e : z_what = 2 := Int32.toInt_inj.mp (by rw [hsw_8]; decide +kernel)
          refine lv_tableIn (pc := 30) (off := 60) (tgt := 90) E.1 E.2.1 dX11_need_30 (by rw [hsw_8e]; decide +kernel) (by rw [hsw_8e]; decide +kernel) (by rw [hsw_8e]; decide +kernel) (by decide) ?_
          refine lv_aload_n (pc := 90) E.1 E.2.1 dX11_need_90 rfl (lv_at hl4 0 rfl) ?_
          refine x_get (pc := 91) (T := TX3) (N := 6) (ci := 3) (v := .ref (mr 24)) E hw1 inX3 8 2 q_353 rfl rfl (by decide) rfl rfl dX11_need_91 ?_
          refine lv_iload_n (pc := 94) E.1 E.2.1 dX11_need_94 rfl (lv_at hl4 2 rfl) ?_
          refine x_iald (pc := 95) (f := (mf 24)) E hw1 11 rfl (inbE (a := z_i.toInt) rfl (by omega)) dX11_need_95 ?_
          refine lv_topi (fun v_11 ev_11 => ?_)
          exact em_i (w1 := (fun (u : (Nat → Int32) × (Nat → Nat → Int32) × (Nat → Nat → Int64)) => (WZ_Mneed cI cJ mv mr u.1 u.2.1 u.2.2))) E hr hlk (mi, mf, mg) hw1 ⟨h0.1, h0.2, h1.1, h1.2, h2.1, h2.2, h3.1, h3.2⟩ (Nat.le_of_ble_eq_true rfl) (Nat.le_of_ble_eq_true rfl) dX11_need_96
        · skip
          have hsw_8v : z_what.toInt = 3 := hsw_8
          have hsw_8e : z_what = 3 := Int32.toInt_inj.mp (by rw [hsw_8]; decide +kernel)
          refine lv_tableIn (pc := 30) (off := 67) (tgt := 97) E.1 E.2.1 dX11_need_30 (by rw [hsw_8e]; decide +kernel) (by rw [hsw_8e]; decide +kernel) (by rw [hsw_8e]; decide +kernel) (by decide) ?_
          refine lv_aload_n (pc := 97) E.1 E.2.1 dX11_need_97 rfl (lv_at hl4 0 rfl) ?_
          refine x_get (pc := 98) (T := TX3) (N := 6) (ci := 3) (v := .ref (mr 25)) E hw1 inX3 8 3 q_357 rfl rfl (by decide) rfl rfl dX11_need_98 ?_
          refine lv_iload_n (pc := 101) E.1 E.2.1 dX11_need_101 rfl (lv_at hl4 2 rfl) ?_
          refine x_iald (pc := 102) (f := (mf 25)) E hw1 12 rfl (inbE (a := z_i.toInt) rfl (by omega)) dX11_need_102 ?_
          refine lv_topi (fun v_12 ev_12 => ?_)
          exact em_i (w1 := (fun (u : (Nat → Int32) × (Nat → Nat → Int32) × (Nat → Nat → Int64)) => (WZ_Mneed cI cJ mv mr u.1 u.2.1 u.2.2))) E hr hlk (mi, mf, mg) hw1 ⟨h0.1, h0.2, h1.1, h1.2, h2.1, h2.2, h3.1, h3.2⟩ (Nat.le_of_ble_eq_true rfl) (Nat.le_of_ble_eq_true rfl) dX11_need_103
        · skip
          have hsw_8v : z_what.toInt = 4 := hsw_8
          have hsw_8e : z_what = 4 := Int32.toInt_inj.mp (by rw [hsw_8]; decide +kernel)
          refine lv_tableIn (pc := 30) (off := 74) (tgt := 104) E.1 E.2.1 dX11_need_30 (by rw [hsw_8e]; decide +kernel) (by rw [hsw_8e]; decide +kernel) (by rw [hsw_8e]; decide +kernel) (by decide) ?_
          refine lv_aload_n (pc := 104) E.1 E.2.1 dX11_need_104 rfl (lv_at hl4 0 rfl) ?_
          refine x_get (pc := 105) (T := TX3) (N := 6) (ci := 3) (v := .ref (mr 26)) E hw1 inX3 8 4 q_360 rfl rfl (by decide) rfl rfl dX11_need_105 ?_
          refine lv_iload_n (pc := 108) E.1 E.2.1 dX11_need_108 rfl (lv_at hl4 2 rfl) ?_
          refine x_iald (pc := 109) (f := (mf 26)) E hw1 13 rfl (inbE (a := z_i.toInt) rfl (by omega)) dX11_need_109 ?_
          refine lv_topi (fun v_13 ev_13 => ?_)
          exact em_i (w1 := (fun (u : (Nat → Int32) × (Nat → Nat → Int32) × (Nat → Nat → Int64)) => (WZ_Mneed cI cJ mv mr u.1 u.2.1 u.2.2))) E hr hlk (mi, mf, mg) hw1 ⟨h0.1, h0.2, h1.1, h1.2, h2.1, h2.2, h3.1, h3.2⟩ (Nat.le_of_ble_eq_true rfl) (Nat.le_of_ble_eq_true rfl) dX11_need_110
        · skip
          have hsw_8v : z_what.toInt = 5 := hsw_8
          have hsw_8e : z_what = 5 := Int32.toInt_inj.mp (by rw [hsw_8]; decide +kernel)
          refine lv_tableIn (pc := 30) (off := 81) (tgt := 111) E.1 E.2.1 dX11_need_30 (by rw [hsw_8e]; decide +kernel) (by rw [hsw_8e]; decide +kernel) (by rw [hsw_8e]; decide +kernel) (by decide) ?_
          refine lv_aload_n (pc := 111) E.1 E.2.1 dX11_need_111 rfl (lv_at hl4 1 rfl) ?_
          refine x_get (pc := 112) (T := TX11) (N := 13) (ci := 11) (v := .ref (mr 3)) E hw1 inX11 0 0 q_606 rfl rfl (by decide) rfl rfl dX11_need_112 ?_
          refine x_get (pc := 115) (T := TX10) (N := 17) (ci := 10) (v := .ref (mr 8)) E hw1 inX10 1 0 q_458 rfl rfl (by decide) rfl rfl dX11_need_115 ?_
          refine x_get (pc := 118) (T := TX4) (N := 12) (ci := 4) (v := .ref (mr 13)) E hw1 inX4 2 4 q_207 rfl rfl (by decide) rfl rfl dX11_need_118 ?_
          refine lv_iload_n (pc := 121) E.1 E.2.1 dX11_need_121 rfl (lv_at hl4 2 rfl) ?_
          refine x_iald (pc := 122) (f := (mf 13)) E hw1 7 rfl (inbE (a := z_i.toInt) rfl (by omega)) dX11_need_122 ?_
          refine lv_topi (fun v_14 ev_14 => ?_)
          exact em_i (w1 := (fun (u : (Nat → Int32) × (Nat → Nat → Int32) × (Nat → Nat → Int64)) => (WZ_Mneed cI cJ mv mr u.1 u.2.1 u.2.2))) E hr hlk (mi, mf, mg) hw1 ⟨h0.1, h0.2, h1.1, h1.2, h2.1, h2.2, h3.1, h3.2⟩ (Nat.le_of_ble_eq_true rfl) (Nat.le_of_ble_eq_true rfl) dX11_need_123
        · skip
          have hsw_8v : z_what.toInt = 6 := hsw_8
          have hsw_8e : z_what = 6 := Int32.toInt_inj.mp (by rw [hsw_8]; decide +kernel)
          refine lv_tableIn (pc := 30) (off := 94) (tgt := 124) E.1 E.2.1 dX11_need_30 (by rw [hsw_8e]; decide +kernel) (by rw [hsw_8e]; decide +kernel) (by rw [hsw_8e]; decide +kernel) (by decide) ?_
          refine lv_aload_n (pc := 124) E.1 E.2.1 dX11_need_124 rfl (lv_at hl4 1 rfl) ?_
          refine x_get (pc := 125) (T := TX11) (N := 13) (ci := 11) (v := .ref (mr 3)) E hw1 inX11 0 0 q_606 rfl rfl (by decide) rfl rfl dX11_need_125 ?_
          refine x_get (pc := 128) (T := TX10) (N := 17) (ci := 10) (v := .ref (mr 8)) E hw1 inX10 1 0 q_458 rfl rfl (by decide) rfl rfl dX11_need_128 ?_
          refine x_get (pc := 131) (T := TX4) (N := 12) (ci := 4) (v := .int (mi 14)) E hw1 inX4 2 5 q_212 rfl rfl (by decide) rfl rfl dX11_need_131 ?_
          refine lv_iload_n (pc := 134) E.1 E.2.1 dX11_need_134 rfl (lv_at hl4 2 rfl) ?_
          refine lv_ishr (pc := 135) E.1 E.2.1 dX11_need_135 ?_
          refine lv_topi (fun v_15 ev_15 => ?_)
          refine lv_iconst (pc := 136) (v := 1) E.1 E.2.1 dX11_need_136 (by decide +kernel) ?_
          refine lv_iand (pc := 137) E.1 E.2.1 dX11_need_137 ?_
          refine lv_topi (fun v_16 ev_16 => ?_)
          exact em_i (w1 := (fun (u : (Nat → Int32) × (Nat → Nat → Int32) × (Nat → Nat → Int64)) => (WZ_Mneed cI cJ mv mr u.1 u.2.1 u.2.2))) E hr hlk (mi, mf, mg) hw1 ⟨h0.1, h0.2, h1.1, h1.2, h2.1, h2.2, h3.1, h3.2⟩ (Nat.le_of_ble_eq_true rfl) (Nat.le_of_ble_eq_true rfl) dX11_need_138
        · skip
          have hsw_8v : z_what.toInt = 7 := hsw_8
          have hsw_8e : z_what = 7 := Int32.toInt_inj.mp (by rw [hsw_8]; decide +kernel)
          refine lv_tableIn (pc := 30) (off := 109) (tgt := 139) E.1 E.2.1 dX11_need_30 (by rw [hsw_8e]; decide +kernel) (by rw [hsw_8e]; decide +kernel) (by rw [hsw_8e]; decide +kernel) (by decide) ?_
          refine lv_aload_n (pc := 139) E.1 E.2.1 dX11_need_139 rfl (lv_at hl4 0 rfl) ?_
          refine lv_iload_n (pc := 140) E.1 E.2.1 dX11_need_140 rfl (lv_at hl4 2 rfl) ?_
          refine lv_aload_n (pc := 141) E.1 E.2.1 dX11_need_141 rfl (lv_at hl4 1 rfl) ?_
          refine x_get (pc := 142) (T := TX11) (N := 13) (ci := 11) (v := .ref (mr 3)) E hw1 inX11 0 0 q_606 rfl rfl (by decide) rfl rfl dX11_need_142 ?_
          refine x_get (pc := 145) (T := TX10) (N := 17) (ci := 10) (v := .ref (mr 8)) E hw1 inX10 1 0 q_458 rfl rfl (by decide) rfl rfl dX11_need_145 ?_
          refine cq_i (pc := 148) (ws' := (fun (u : Unit) => (WZ_Mneed cI cJ mv mr mi mf mg))) hw1 [8, 9, 10, 11, 12, 13, 2, 3, 4, 5, 6, 7] [0, 1] [0, 1, 8, 9, 10, 11, 12, 13, 2, 3, 4, 5, 6, 7] rfl rfl (by decide) (by decide) (fun _ => rfl) (by decide) (rn_V (As := [.int z_i, .ref (mr 8)]) (rest := []) E hw1 (t_isOpen l D cI cJ _ (shg 7 21 1 mr) (shg 7 21 1 mi) (shg 7 21 1 mf) (shg 7 21 1 mg) z_i (by show 0 ≤ z_i.toInt ∧ z_i.toInt ≤ 9; omega)) (gdV q_1138 q_1045 q_1046 q_156 q_1047) hdV_X3_isOpen ⟨rfl, rfl⟩ ⟨(Nat.le_of_ble_eq_true rfl), (Nat.le_of_ble_eq_true rfl)⟩ ⟨(Nat.le_of_ble_eq_true rfl), (Nat.le_of_ble_eq_true rfl)⟩ xT_b xT_at 8 3 rfl rfl rfl [8, 9, 10, 11, 12, 13, 2, 3, 4, 5, 6, 7] rfl (by decide) rfl hl4.1 rfl (Nat.le_of_ble_eq_true rfl) dX11_need_148) (fun r_18 u_17 H1 locs hp hw19 => ?_)
          generalize H1 = H at hw19 ⊢
          have hw20 : WD D A s.heap (WZ_Mneed cI cJ mv mr mi mf mg) H locs := hw19
          obtain ⟨hp_21, hp_22⟩ := hp
          have hp_21 : 0 ≤ r_18.toInt := hp_21
          have hp_22 : r_18.toInt ≤ 1 := hp_22
          refine lv_if_eq (pc := 151) (tgt := 158) E.1 E.2.1 dX11_need_151 (by decide) (fun c_23 => ?_) (fun c_23 => ?_)
          · skip
            have hc_23 := eqE (a := r_18.toInt) (b := 0) rfl (by decide +kernel) c_23
            refine lv_iconst (pc := 158) (v := 0) E.1 E.2.1 dX11_need_158 (by decide +kernel) ?_
            exact em_i (w1 := (fun (u : (Nat → Int32) × (Nat → Nat → Int32) × (Nat → Nat → Int64)) => (WZ_Mneed cI cJ mv mr u.1 u.2.1 u.2.2))) E hr hlk (mi, mf, mg) hw20 ⟨h0.1, h0.2, h1.1, h1.2, h2.1, h2.2, h3.1, h3.2⟩ (Nat.le_of_ble_eq_true rfl) (Nat.le_of_ble_eq_true rfl) dX11_need_159
          · skip
            have hc_23 := neE (a := r_18.toInt) (b := 0) rfl (by decide +kernel) c_23
            refine lv_iconst (pc := 154) (v := 1) E.1 E.2.1 dX11_need_154 (by decide +kernel) ?_
            refine lv_goto (pc := 155) (tgt := 159) E.1 E.2.1 dX11_need_155 (by decide) ?_
            exact em_i (w1 := (fun (u : (Nat → Int32) × (Nat → Nat → Int32) × (Nat → Nat → Int64)) => (WZ_Mneed cI cJ mv mr u.1 u.2.1 u.2.2))) E hr hlk (mi, mf, mg) hw20 ⟨h0.1, h0.2, h1.1, h1.2, h2.1, h2.2, h3.1, h3.2⟩ (Nat.le_of_ble_eq_true rfl) (Nat.le_of_ble_eq_true rfl) dX11_need_159
set_option maxHeartbeats 4000000 in
set_option maxRecDepth 100000 in
theorem t_book (l : Launch) (D : va_G) (cI cJ : ClassId) (sz : Nat) (mr : Nat → Nat) (mi : Nat → Int32) (mf : Nat → Nat → Int32) (mg : Nat → Nat → Int64) (z_i : Int32) (z_what : Int32) (mv : Nat → Value) (h0 : 0 ≤ (mi 1).toInt ∧ (mi 1).toInt ≤ 5) (h1 : 0 ≤ (mi 2).toInt ∧ (mi 2).toInt ≤ 6) (h2 : 0 ≤ (mi 15).toInt ∧ (mi 15).toInt ≤ 200) : Met l yX11_book (Cond.code yX11_book cX11_book 3 (some .int) :: GW) ({ frames := 11, cells := 0, slots := 0, locals := 263 } : Room) (va_Pc [.ref (mr 0), .int z_i, .int z_what] (PW D cI cJ sz (WZ_Mbook cI cJ mv mr mi mf mg) xT)) (va_Qi (fun (r : Int32) (u : (Nat → Int32) × (Nat → Nat → Int32) × (Nat → Nat → Int64)) => (0 ≤ (u.1 1).toInt) ∧ ((u.1 1).toInt ≤ 5) ∧ (0 ≤ (u.1 2).toInt) ∧ ((u.1 2).toInt ≤ 6) ∧ (0 ≤ (u.1 15).toInt) ∧ ((u.1 15).toInt ≤ 200)) (fun u => QW D cI cJ (va_A (WZ_Mbook cI cJ mv mr mi mf mg) sz) ((fun (u : (Nat → Int32) × (Nat → Nat → Int32) × (Nat → Nat → Int64)) => (WZ_Mbook cI cJ mv mr u.1 u.2.1 u.2.2)) u)) (va_A (WZ_Mbook cI cJ mv mr mi mf mg) sz)) 0 0 (va_A (WZ_Mbook cI cJ mv mr mi mf mg) sz) := by
  refine mk_met (y := yX11_book) (bytes := cX11_book) (maxL := 3) (avs := [.ref (mr 0), .int z_i, .int z_what]) (WS := (WZ_Mbook cI cJ mv mr mi mf mg)) (Qf := fun A => va_Qi (fun (r : Int32) (u : (Nat → Int32) × (Nat → Nat → Int32) × (Nat → Nat → Int64)) => (0 ≤ (u.1 1).toInt) ∧ ((u.1 1).toInt ≤ 5) ∧ (0 ≤ (u.1 2).toInt) ∧ ((u.1 2).toInt ≤ 6) ∧ (0 ≤ (u.1 15).toInt) ∧ ((u.1 15).toInt ≤ 200)) (fun u => QW D cI cJ A ((fun (u : (Nat → Int32) × (Nat → Nat → Int32) × (Nat → Nat → Int64)) => (WZ_Mbook cI cJ mv mr u.1 u.2.1 u.2.2)) u)) A) (by decide) (Nat.le_of_ble_eq_true rfl) ?_
  intro p e s m below meth c A ls E hr hlk hnm hX hw1 hl2
  have hl3 : lv_has ls 3 [(0, .ref (mr 0)), (1, .int z_i), (2, .int z_what)] := hl2
  refine lv_iload_n (pc := 0) E.1 E.2.1 dX11_book_0 rfl (lv_at hl3 1 rfl) ?_
  refine lv_if_lt (pc := 1) (tgt := 35) E.1 E.2.1 dX11_book_1 (by decide) (fun c_4 => ?_) (fun c_4 => ?_)
  · skip
    have hc_4 := ltE (a := z_i.toInt) (b := 0) rfl (by decide +kernel) c_4
    refine lv_iconst (pc := 35) (v := (-1)) E.1 E.2.1 dX11_book_35 (by decide +kernel) ?_
    exact em_i (w1 := (fun (u : (Nat → Int32) × (Nat → Nat → Int32) × (Nat → Nat → Int64)) => (WZ_Mbook cI cJ mv mr u.1 u.2.1 u.2.2))) E hr hlk (mi, mf, mg) hw1 ⟨h0.1, h0.2, h1.1, h1.2, h2.1, h2.2⟩ (Nat.le_of_ble_eq_true rfl) (Nat.le_of_ble_eq_true rfl) dX11_book_36
  · skip
    have hc_4 := nltE (a := z_i.toInt) (b := 0) rfl (by decide +kernel) c_4
    refine lv_iload_n (pc := 4) E.1 E.2.1 dX11_book_4 rfl (lv_at hl3 1 rfl) ?_
    refine lv_aload_n (pc := 5) E.1 E.2.1 dX11_book_5 rfl (lv_at hl3 0 rfl) ?_
    refine x_get (pc := 6) (T := TX11) (N := 13) (ci := 11) (v := .ref (mr 3)) E hw1 inX11 0 0 q_606 rfl rfl (by decide) rfl rfl dX11_book_6 ?_
    refine x_get (pc := 9) (T := TX10) (N := 17) (ci := 10) (v := .ref (mr 9)) E hw1 inX10 1 0 q_458 rfl rfl (by decide) rfl rfl dX11_book_9 ?_
    refine x_get (pc := 12) (T := TX4) (N := 12) (ci := 4) (v := .int (mi 16)) E hw1 inX4 3 11 q_233 rfl rfl (by decide) rfl rfl dX11_book_12 ?_
    refine lv_icmp_ge (pc := 15) (tgt := 35) E.1 E.2.1 dX11_book_15 (by decide) (fun c_5 => ?_) (fun c_5 => ?_)
    · skip
      have hc_5 := leE (a := (mi 16).toInt) (b := z_i.toInt) rfl rfl c_5
      refine lv_iconst (pc := 35) (v := (-1)) E.1 E.2.1 dX11_book_35 (by decide +kernel) ?_
      exact em_i (w1 := (fun (u : (Nat → Int32) × (Nat → Nat → Int32) × (Nat → Nat → Int64)) => (WZ_Mbook cI cJ mv mr u.1 u.2.1 u.2.2))) E hr hlk (mi, mf, mg) hw1 ⟨h0.1, h0.2, h1.1, h1.2, h2.1, h2.2⟩ (Nat.le_of_ble_eq_true rfl) (Nat.le_of_ble_eq_true rfl) dX11_book_36
    · skip
      have hc_5 := nleE (a := (mi 16).toInt) (b := z_i.toInt) rfl rfl c_5
      refine lv_iload_n (pc := 18) E.1 E.2.1 dX11_book_18 rfl (lv_at hl3 1 rfl) ?_
      refine lv_sipush (pc := 19) (v := 150) E.1 E.2.1 dX11_book_19 (by decide +kernel) ?_
      refine lv_icmp_ge (pc := 22) (tgt := 35) E.1 E.2.1 dX11_book_22 (by decide) (fun c_6 => ?_) (fun c_6 => ?_)
      · skip
        have hc_6 := leE (a := 150) (b := z_i.toInt) (by decide +kernel) rfl c_6
        refine lv_iconst (pc := 35) (v := (-1)) E.1 E.2.1 dX11_book_35 (by decide +kernel) ?_
        exact em_i (w1 := (fun (u : (Nat → Int32) × (Nat → Nat → Int32) × (Nat → Nat → Int64)) => (WZ_Mbook cI cJ mv mr u.1 u.2.1 u.2.2))) E hr hlk (mi, mf, mg) hw1 ⟨h0.1, h0.2, h1.1, h1.2, h2.1, h2.2⟩ (Nat.le_of_ble_eq_true rfl) (Nat.le_of_ble_eq_true rfl) dX11_book_36
      · skip
        have hc_6 := nleE (a := 150) (b := z_i.toInt) (by decide +kernel) rfl c_6
        refine lv_iload_n (pc := 25) E.1 E.2.1 dX11_book_25 rfl (lv_at hl3 2 rfl) ?_
        refine lv_if_lt (pc := 26) (tgt := 35) E.1 E.2.1 dX11_book_26 (by decide) (fun c_7 => ?_) (fun c_7 => ?_)
        · skip
          have hc_7 := ltE (a := z_what.toInt) (b := 0) rfl (by decide +kernel) c_7
          refine lv_iconst (pc := 35) (v := (-1)) E.1 E.2.1 dX11_book_35 (by decide +kernel) ?_
          exact em_i (w1 := (fun (u : (Nat → Int32) × (Nat → Nat → Int32) × (Nat → Nat → Int64)) => (WZ_Mbook cI cJ mv mr u.1 u.2.1 u.2.2))) E hr hlk (mi, mf, mg) hw1 ⟨h0.1, h0.2, h1.1, h1.2, h2.1, h2.2⟩ (Nat.le_of_ble_eq_true rfl) (Nat.le_of_ble_eq_true rfl) dX11_book_36
        · skip
          have hc_7 := nltE (a := z_what.toInt) (b := 0) rfl (by decide +kernel) c_7
          refine lv_iload_n (pc := 29) E.1 E.2.1 dX11_book_29 rfl (lv_at hl3 2 rfl) ?_
          refine lv_bipush (pc := 30) (v := 6) E.1 E.2.1 dX11_book_30 (by decide +kernel) ?_
          refine lv_icmp_lt (pc := 32) (tgt := 37) E.1 E.2.1 dX11_book_32 (by decide) (fun c_8 => ?_) (fun c_8 => ?_)
          · skip
            have hc_8 := ltE (a := z_what.toInt) (b := 6) rfl (by decide +kernel) c_8
            refine lv_aload_n (pc := 37) E.1 E.2.1 dX11_book_37 rfl (lv_at hl3 0 rfl) ?_
            refine x_get (pc := 38) (T := TX11) (N := 13) (ci := 11) (v := .ref (mr 3)) E hw1 inX11 0 0 q_606 rfl rfl (by decide) rfl rfl dX11_book_38 ?_
            refine x_get (pc := 41) (T := TX10) (N := 17) (ci := 10) (v := .ref (mr 4)) E hw1 inX10 1 8 q_480 rfl rfl (by decide) rfl rfl dX11_book_41 ?_
            refine lv_iload_n (pc := 44) E.1 E.2.1 dX11_book_44 rfl (lv_at hl3 1 rfl) ?_
            refine lv_bipush (pc := 45) (v := 6) E.1 E.2.1 dX11_book_45 (by decide +kernel) ?_
            refine lv_imul (pc := 47) E.1 E.2.1 dX11_book_47 ?_
            refine lv_topi (fun v_9 ev_9 => ?_)
            have hv_9 : v_9.toInt = z_i.toInt * 6 := by rw [ev_9]; exact mulE rfl (by decide +kernel) (by omega)
            refine lv_iload_n (pc := 48) E.1 E.2.1 dX11_book_48 rfl (lv_at hl3 2 rfl) ?_
            refine lv_iadd (pc := 49) E.1 E.2.1 dX11_book_49 ?_
            refine lv_topi (fun v_10 ev_10 => ?_)
            have hv_10 : v_10.toInt = v_9.toInt + z_what.toInt := by rw [ev_10]; exact addE rfl rfl (by omega)
            refine x_iald (pc := 50) (f := (mf 4)) E hw1 2 rfl (inbE (a := v_10.toInt) rfl (by omega)) dX11_book_50 ?_
            refine lv_topi (fun v_11 ev_11 => ?_)
            exact em_i (w1 := (fun (u : (Nat → Int32) × (Nat → Nat → Int32) × (Nat → Nat → Int64)) => (WZ_Mbook cI cJ mv mr u.1 u.2.1 u.2.2))) E hr hlk (mi, mf, mg) hw1 ⟨h0.1, h0.2, h1.1, h1.2, h2.1, h2.2⟩ (Nat.le_of_ble_eq_true rfl) (Nat.le_of_ble_eq_true rfl) dX11_book_51
          · skip
            have hc_8 := nltE (a := z_what.toInt) (b := 6) rfl (by decide +kernel) c_8
            refine lv_iconst (pc := 35) (v := (-1)) E.1 E.2.1 dX11_book_35 (by decide +kernel) ?_
            exact em_i (w1 := (fun (u : (Nat → Int32) × (Nat → Nat → Int32) × (Nat → Nat → Int64)) => (WZ_Mbook cI cJ mv mr u.1 u.2.1 u.2.2))) E hr hlk (mi, mf, mg) hw1 ⟨h0.1, h0.2, h1.1, h1.2, h2.1, h2.2⟩ (Nat.le_of_ble_eq_true rfl) (Nat.le_of_ble_eq_true rfl) dX11_book_36
set_option maxHeartbeats 4000000 in
set_option maxRecDepth 100000 in
theorem t_least (l : Launch) (D : va_G) (cI cJ : ClassId) (sz : Nat) (mr : Nat → Nat) (mi : Nat → Int32) (mf : Nat → Nat → Int32) (mg : Nat → Nat → Int64) (z_set : Int32)  : Met l yX11_least (Cond.code yX11_least cX11_least 2 (some .int) :: GW) ({ frames := 1, cells := 0, slots := 0, locals := 40 } : Room) (va_Pc [.int z_set] (PW D cI cJ sz (WZ_El cI cJ mr mi mf mg) xT)) (va_Qi (fun (r : Int32) (u : Unit) => True) (fun u => QW D cI cJ (va_A (WZ_El cI cJ mr mi mf mg) sz) ((fun (u : Unit) => (WZ_El cI cJ mr mi mf mg)) u)) (va_A (WZ_El cI cJ mr mi mf mg) sz)) 0 0 (va_A (WZ_El cI cJ mr mi mf mg) sz) := by
  refine mk_met (y := yX11_least) (bytes := cX11_least) (maxL := 2) (avs := [.int z_set]) (WS := (WZ_El cI cJ mr mi mf mg)) (Qf := fun A => va_Qi (fun (r : Int32) (u : Unit) => True) (fun u => QW D cI cJ A ((fun (u : Unit) => (WZ_El cI cJ mr mi mf mg)) u)) A) (by decide) (Nat.le_of_ble_eq_true rfl) ?_
  intro p e s m below meth c A ls E hr hlk hnm hX hw1 hl2
  have hl3 : lv_has ls 2 [(0, .int z_set)] := hl2
  refine lv_iconst (pc := 0) (v := 0) E.1 E.2.1 dX11_least_0 (by decide +kernel) ?_
  refine lv_istore_n (pc := 1) (lv' := [(1, .int 0), (0, .int z_set)]) E.1 E.2.1 dX11_least_1 rfl hl3 (by decide) rfl (fun ls hl4 => ?_)
  have loop_5 : ∀ (k : Nat) (x_6 : Int32) (H : Heap) (locs : List Loc) (ls : Array Slot), (0 ≤ x_6.toInt) ∧ (x_6.toInt ≤ 10) → 10 - x_6.toInt < (k : Int) → WD D A s.heap (WZ_El cI cJ mr mi mf mg) H locs → lv_has ls 2 [(1, .int x_6), (0, .int z_set)] → W p l e ({ frames := 1, cells := 0, slots := 0, locals := 40 } : Room) s m ([.int z_set] : List Value).toArray below meth c H locs 0 0 (MQ below (va_Qi (fun (r : Int32) (u : Unit) => True) (fun u => QW D cI cJ A ((fun (u : Unit) => (WZ_El cI cJ mr mi mf mg)) u)) A) ([.int z_set] : List Value).toArray s 0 0 A) (F0 m 2 ls []) := by
    intro k
    induction k with
    | zero =>
      intro x_6 _ _ _ hinv hm
      obtain ⟨hi_6_0, hi_6_1⟩ := hinv
      exact absurd hm (by omega)
    | succ k ih_7 =>
      intro x_6 H locs ls hinv hm hw8 hl9
      obtain ⟨hi_6_0, hi_6_1⟩ := hinv
      refine lv_iload_n (pc := 2) E.1 E.2.1 dX11_least_2 rfl (lv_at hl9 0 rfl) ?_
      refine lv_bipush (pc := 3) (v := 10) E.1 E.2.1 dX11_least_3 (by decide +kernel) ?_
      refine lv_icmp_ge (pc := 5) (tgt := 25) E.1 E.2.1 dX11_least_5 (by decide) (fun c_10 => ?_) (fun c_10 => ?_)
      · skip
        have hc_10 := leE (a := 10) (b := x_6.toInt) (by decide +kernel) rfl c_10
        refine lv_iconst (pc := 25) (v := (-1)) E.1 E.2.1 dX11_least_25 (by decide +kernel) ?_
        exact em_i (w1 := (fun (u : Unit) => (WZ_El cI cJ mr mi mf mg))) E hr hlk () hw8 trivial (Nat.le_of_ble_eq_true rfl) (Nat.le_of_ble_eq_true rfl) dX11_least_26
      · skip
        have hc_10 := nleE (a := 10) (b := x_6.toInt) (by decide +kernel) rfl c_10
        refine lv_iload_n (pc := 8) E.1 E.2.1 dX11_least_8 rfl (lv_at hl9 1 rfl) ?_
        refine lv_iload_n (pc := 9) E.1 E.2.1 dX11_least_9 rfl (lv_at hl9 0 rfl) ?_
        refine lv_ishr (pc := 10) E.1 E.2.1 dX11_least_10 ?_
        refine lv_topi (fun v_11 ev_11 => ?_)
        refine lv_iconst (pc := 11) (v := 1) E.1 E.2.1 dX11_least_11 (by decide +kernel) ?_
        refine lv_iand (pc := 12) E.1 E.2.1 dX11_least_12 ?_
        refine lv_topi (fun v_12 ev_12 => ?_)
        refine lv_iconst (pc := 13) (v := 1) E.1 E.2.1 dX11_least_13 (by decide +kernel) ?_
        refine lv_icmp_ne (pc := 14) (tgt := 19) E.1 E.2.1 dX11_least_14 (by decide) (fun c_13 => ?_) (fun c_13 => ?_)
        · skip
          have hc_13 := neE (a := v_12.toInt) (b := 1) rfl (by decide +kernel) c_13
          obtain ⟨v_14, ev_14⟩ : ∃ z : Int32, x_6 + Int32.ofInt (1) = z := ⟨_, rfl⟩
          have hv_14 : v_14.toInt = x_6.toInt + (1) := by rw [← ev_14]; exact incE rfl (by decide) (by omega)
          refine lv_iinc (pc := 19) (v := v_14) (lv' := [(1, .int v_14), (0, .int z_set)]) E.1 E.2.1 dX11_least_19 hl9 (k := 0) rfl ev_14 (by decide) rfl (fun ls hl15 => ?_)
          refine lv_goto (pc := 22) (tgt := 2) E.1 E.2.1 dX11_least_22 (by decide) ?_
          exact ih_7 v_14 _ _ _ ⟨(by show 0 ≤ v_14.toInt; omega), (by show v_14.toInt ≤ 10; omega)⟩ (by omega) hw8 (lv_sub hl15 [0, 1] rfl)
        · skip
          have hc_13 := eqE (a := v_12.toInt) (b := 1) rfl (by decide +kernel) c_13
          refine lv_iload_n (pc := 17) E.1 E.2.1 dX11_least_17 rfl (lv_at hl9 0 rfl) ?_
          exact em_i (w1 := (fun (u : Unit) => (WZ_El cI cJ mr mi mf mg))) E hr hlk () hw8 trivial (Nat.le_of_ble_eq_true rfl) (Nat.le_of_ble_eq_true rfl) dX11_least_18
  exact loop_5 (Int.toNat (10 - 0) + 1) 0 _ _ _ ⟨(by show 0 ≤ (0 : Int32).toInt; have k_0 : (0 : Int32).toInt = 0 := (by decide +kernel); omega), (by show (0 : Int32).toInt ≤ 10; have k_0 : (0 : Int32).toInt = 0 := (by decide +kernel); omega)⟩ (by have k_0 : (0 : Int32).toInt = 0 := (by decide +kernel); omega) hw1 (lv_sub hl4 [0, 1] rfl)
