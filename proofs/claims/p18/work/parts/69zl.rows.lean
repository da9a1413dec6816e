set_option maxHeartbeats 4000000 in
set_option maxRecDepth 100000 in
theorem t_planP (l : Launch) (D : va_G) (cI cJ : ClassId) (sz : Nat) (mr : Nat → Nat) (mi : Nat → Int32) (mf : Nat → Nat → Int32) (mg : Nat → Nat → Int64) (z_n : Int32) (z_what : Int32) (mv : Nat → Value) (h0 : 0 ≤ (mi 1).toInt ∧ (mi 1).toInt ≤ 5) (h1 : 0 ≤ (mi 2).toInt ∧ (mi 2).toInt ≤ 6) (h2 : 0 ≤ (mi 24).toInt ∧ (mi 24).toInt ≤ 200) (h3 : 0 ≤ (mi 32).toInt ∧ (mi 32).toInt ≤ 10) (h4 : 0 ≤ (mi 40).toInt ∧ (mi 40).toInt ≤ 40) (h5 : 0 ≤ (mi 49).toInt ∧ (mi 49).toInt ≤ 10) (h6 : 0 ≤ (mi 72).toInt ∧ (mi 72).toInt ≤ 200) (h7 : 0 ≤ (mi 79).toInt ∧ (mi 79).toInt ≤ 8) (a_p_from : p9 (mf 36)) (a_p_to : p9 (mf 37)) (a_t_marks : m4 (mf 53)) (a_u_marks : m4 (mf 63)) (a_pl_wanted : w9 (mf 87)) (a_pl_served : s1k (mf 89)) (a_pl_wed : s1k (mf 90)) : Met l yX11_plan (Cond.code yX11_plan cX11_plan 4 (some .int) :: GW) ({ frames := 11, cells := 7, slots := 10390, locals := 263 } : Room) (va_Pc [.ref (mr 0), .int z_n, .int z_what] (PW D cI cJ sz (WZ_MplanP cI cJ mv mr mi mf mg) xT)) (va_Qi (fun (r : Int32) (u : (Nat → Int32) × (Nat → Nat → Int32) × (Nat → Nat → Int64)) => (0 ≤ (u.1 1).toInt) ∧ ((u.1 1).toInt ≤ 5) ∧ (0 ≤ (u.1 2).toInt) ∧ ((u.1 2).toInt ≤ 6) ∧ (0 ≤ (u.1 24).toInt) ∧ ((u.1 24).toInt ≤ 200) ∧ (0 ≤ (u.1 32).toInt) ∧ ((u.1 32).toInt ≤ 10) ∧ (0 ≤ (u.1 40).toInt) ∧ ((u.1 40).toInt ≤ 40) ∧ (0 ≤ (u.1 49).toInt) ∧ ((u.1 49).toInt ≤ 10) ∧ (0 ≤ (u.1 72).toInt) ∧ ((u.1 72).toInt ≤ 200) ∧ (0 ≤ (u.1 79).toInt) ∧ ((u.1 79).toInt ≤ 8) ∧ ((u.1 32).toInt = (mi 32).toInt) ∧ ((u.1 79).toInt = (mi 79).toInt) ∧ (p9 (u.2.1 36)) ∧ (p9 (u.2.1 37)) ∧ (m4 (u.2.1 53)) ∧ (m4 (u.2.1 63)) ∧ (w9 (u.2.1 87)) ∧ (s1k (u.2.1 89)) ∧ (s1k (u.2.1 90)) ∧ ((Eq (mf 27)) (u.2.1 27)) ∧ ((Eq (mf 31)) (u.2.1 31))) (fun u => QW D cI cJ (va_A (WZ_MplanP cI cJ mv mr mi mf mg) sz) ((fun (u : (Nat → Int32) × (Nat → Nat → Int32) × (Nat → Nat → Int64)) => (WZ_MplanP cI cJ mv mr u.1 u.2.1 u.2.2)) u)) (va_A (WZ_MplanP cI cJ mv mr mi mf mg) sz)) 7 10390 (va_A (WZ_MplanP cI cJ mv mr mi mf mg) sz) := by
  refine mk_met (y := yX11_plan) (bytes := cX11_plan) (maxL := 4) (avs := [.ref (mr 0), .int z_n, .int z_what]) (WS := (WZ_MplanP cI cJ mv mr mi mf mg)) (Qf := fun A => va_Qi (fun (r : Int32) (u : (Nat → Int32) × (Nat → Nat → Int32) × (Nat → Nat → Int64)) => (0 ≤ (u.1 1).toInt) ∧ ((u.1 1).toInt ≤ 5) ∧ (0 ≤ (u.1 2).toInt) ∧ ((u.1 2).toInt ≤ 6) ∧ (0 ≤ (u.1 24).toInt) ∧ ((u.1 24).toInt ≤ 200) ∧ (0 ≤ (u.1 32).toInt) ∧ ((u.1 32).toInt ≤ 10) ∧ (0 ≤ (u.1 40).toInt) ∧ ((u.1 40).toInt ≤ 40) ∧ (0 ≤ (u.1 49).toInt) ∧ ((u.1 49).toInt ≤ 10) ∧ (0 ≤ (u.1 72).toInt) ∧ ((u.1 72).toInt ≤ 200) ∧ (0 ≤ (u.1 79).toInt) ∧ ((u.1 79).toInt ≤ 8) ∧ ((u.1 32).toInt = (mi 32).toInt) ∧ ((u.1 79).toInt = (mi 79).toInt) ∧ (p9 (u.2.1 36)) ∧ (p9 (u.2.1 37)) ∧ (m4 (u.2.1 53)) ∧ (m4 (u.2.1 63)) ∧ (w9 (u.2.1 87)) ∧ (s1k (u.2.1 89)) ∧ (s1k (u.2.1 90)) ∧ ((Eq (mf 27)) (u.2.1 27)) ∧ ((Eq (mf 31)) (u.2.1 31))) (fun u => QW D cI cJ A ((fun (u : (Nat → Int32) × (Nat → Nat → Int32) × (Nat → Nat → Int64)) => (WZ_MplanP cI cJ mv mr u.1 u.2.1 u.2.2)) u)) A) (by decide) (Nat.le_of_ble_eq_true rfl) ?_
  intro p e s m below meth c A ls E hr hlk hnm hX hw1 hl2
  have hl3 : lv_has ls 4 [(0, .ref (mr 0)), (1, .int z_n), (2, .int z_what)] := hl2
  have hwm := Int32.toInt_lt z_what
  refine lv_iload_n (pc := 0) E.1 E.2.1 dX11_plan_0 rfl (lv_at hl3 2 rfl) ?_
  refine lv_if_eq (pc := 1) (tgt := 23) E.1 E.2.1 dX11_plan_1 (by decide) (fun c_4 => ?_) (fun c_4 => ?_)
  · skip
    have hc_4 := eqE (a := z_what.toInt) (b := 0) rfl (by decide +kernel) c_4
    refine lv_iconst (pc := 23) (v := 1) E.1 E.2.1 dX11_plan_23 (by decide +kernel) ?_
    refine lv_goto (pc := 24) (tgt := 28) E.1 E.2.1 dX11_plan_24 (by decide) ?_
    refine lv_istore_n (pc := 28) (lv' := [(3, .int 1), (0, .ref (mr 0)), (1, .int z_n), (2, .int z_what)]) E.1 E.2.1 dX11_plan_28 rfl hl3 (by decide) rfl (fun ls hl5 => ?_)
    refine lv_iload_n (pc := 29) E.1 E.2.1 dX11_plan_29 rfl (lv_at hl5 2 rfl) ?_
    refine lv_iconst (pc := 30) (v := 1) E.1 E.2.1 dX11_plan_30 (by decide +kernel) ?_
    refine lv_icmp_lt (pc := 31) (tgt := 57) E.1 E.2.1 dX11_plan_31 (by decide) (fun c_6 => ?_) (fun c_6 => ?_)
    · skip
      have hc_6 := ltE (a := z_n.toInt) (b := 1) rfl (by decide +kernel) c_6
      refine lv_iconst (pc := 57) (v := (-1)) E.1 E.2.1 dX11_plan_57 (by decide +kernel) ?_
      exact em_i (w1 := (fun (u : (Nat → Int32) × (Nat → Nat → Int32) × (Nat → Nat → Int64)) => (WZ_MplanP cI cJ mv mr u.1 u.2.1 u.2.2))) E hr hlk (mi, mf, mg) hw1 ⟨h0.1, h0.2, h1.1, h1.2, h2.1, h2.2, h3.1, h3.2, h4.1, h4.2, h5.1, h5.2, h6.1, h6.2, h7.1, h7.2, rfl, rfl, a_p_from, a_p_to, a_t_marks, a_u_marks, a_pl_wanted, a_pl_served, a_pl_wed, rfl, rfl⟩ (Nat.le_of_ble_eq_true rfl) (Nat.le_of_ble_eq_true rfl) dX11_plan_58
    · skip
      have hc_6 := nltE (a := z_n.toInt) (b := 1) rfl (by decide +kernel) c_6
      refine lv_iload_n (pc := 34) E.1 E.2.1 dX11_plan_34 rfl (lv_at hl5 2 rfl) ?_
      refine lv_bipush (pc := 35) (v := 10) E.1 E.2.1 dX11_plan_35 (by decide +kernel) ?_
      refine lv_icmp_gt (pc := 37) (tgt := 57) E.1 E.2.1 dX11_plan_37 (by decide) (fun c_7 => ?_) (fun c_7 => ?_)
      · skip
        have hc_7 := ltE (a := 10) (b := z_n.toInt) (by decide +kernel) rfl c_7
        refine lv_iconst (pc := 57) (v := (-1)) E.1 E.2.1 dX11_plan_57 (by decide +kernel) ?_
        exact em_i (w1 := (fun (u : (Nat → Int32) × (Nat → Nat → Int32) × (Nat → Nat → Int64)) => (WZ_MplanP cI cJ mv mr u.1 u.2.1 u.2.2))) E hr hlk (mi, mf, mg) hw1 ⟨h0.1, h0.2, h1.1, h1.2, h2.1, h2.2, h3.1, h3.2, h4.1, h4.2, h5.1, h5.2, h6.1, h6.2, h7.1, h7.2, rfl, rfl, a_p_from, a_p_to, a_t_marks, a_u_marks, a_pl_wanted, a_pl_served, a_pl_wed, rfl, rfl⟩ (Nat.le_of_ble_eq_true rfl) (Nat.le_of_ble_eq_true rfl) dX11_plan_58
      · skip
        have hc_7 := nltE (a := 10) (b := z_n.toInt) (by decide +kernel) rfl c_7
        refine lv_iload_n (pc := 40) E.1 E.2.1 dX11_plan_40 rfl (lv_at hl5 0 rfl) ?_
        refine lv_if_eq (pc := 41) (tgt := 57) E.1 E.2.1 dX11_plan_41 (by decide) (fun c_8 => absurd c_8 (mneE (a := 1) (b := 0) (by decide +kernel) (by decide +kernel) (by omega))) (fun _ => ?_)
        refine lv_aload_n (pc := 44) E.1 E.2.1 dX11_plan_44 rfl (lv_at hl5 1 rfl) ?_
        refine x_get (pc := 45) (T := TX11) (N := 13) (ci := 11) (v := .ref (mr 3)) E hw1 inX11 0 0 q_606 rfl rfl (by decide) rfl rfl dX11_plan_45 ?_
        refine x_get (pc := 48) (T := TX10) (N := 17) (ci := 10) (v := .ref (mr 26)) E hw1 inX10 1 1 q_463 rfl rfl (by decide) rfl rfl dX11_plan_48 ?_
        refine x_get (pc := 51) (T := TX1) (N := 9) (ci := 1) (v := .int (mi 32)) E hw1 inX1 13 5 q_282 rfl rfl (by decide) rfl rfl dX11_plan_51 ?_
        refine lv_if_ne (pc := 54) (tgt := 59) E.1 E.2.1 dX11_plan_54 (by decide) (fun c_9 => ?_) (fun c_9 => ?_)
        · skip
          have hc_9 := neE (a := (mi 32).toInt) (b := 0) rfl (by decide +kernel) c_9
          refine lv_aload_n (pc := 59) E.1 E.2.1 dX11_plan_59 rfl (lv_at hl5 1 rfl) ?_
          refine x_get (pc := 60) (T := TX11) (N := 13) (ci := 11) (v := .ref (mr 80)) E hw1 inX11 0 11 q_617 rfl rfl (by decide) rfl rfl dX11_plan_60 ?_
          refine lv_ifnonnull (pc := 63) (tgt := 77) E.1 E.2.1 dX11_plan_63 (by decide) ?_
          refine lv_aload_n (pc := 77) E.1 E.2.1 dX11_plan_77 rfl (lv_at hl5 1 rfl) ?_
          refine x_get (pc := 78) (T := TX11) (N := 13) (ci := 11) (v := .ref (mr 80)) E hw1 inX11 0 11 q_617 rfl rfl (by decide) rfl rfl dX11_plan_78 ?_
          refine x_get (pc := 81) (T := TX6) (N := 10) (ci := 6) (v := .int (mi 81)) E hw1 inX6 51 0 q_1161 rfl rfl (by decide) rfl rfl dX11_plan_81 ?_
          refine lv_iload_n (pc := 84) E.1 E.2.1 dX11_plan_84 rfl (lv_at hl5 2 rfl) ?_
          refine lv_icmp_eq (pc := 85) (tgt := 100) E.1 E.2.1 dX11_plan_85 (by decide) (fun c_10 => ?_) (fun c_10 => ?_)
          · skip
            have hc_10 := eqE (a := (mi 81).toInt) (b := z_n.toInt) rfl rfl c_10
            refine lv_iload_n (pc := 100) E.1 E.2.1 dX11_plan_100 rfl (lv_at hl5 3 rfl) ?_
            refine lv_if_ne (pc := 101) (tgt := 112) E.1 E.2.1 dX11_plan_101 (by decide) (fun c_11 => absurd (meqE (a := z_what.toInt) (b := 0) rfl (by decide +kernel) (by omega)) c_11) (fun _ => ?_)
            refine lv_aload_n (pc := 104) E.1 E.2.1 dX11_plan_104 rfl (lv_at hl5 1 rfl) ?_
            refine x_get (pc := 105) (T := TX11) (N := 13) (ci := 11) (v := .ref (mr 80)) E hw1 inX11 0 11 q_617 rfl rfl (by decide) rfl rfl dX11_plan_105 ?_
            refine x_get (pc := 108) (T := TX6) (N := 10) (ci := 6) (v := .int (mi 82)) E hw1 inX6 51 1 q_1163 rfl rfl (by decide) rfl rfl dX11_plan_108 ?_
            exact em_i (w1 := (fun (u : (Nat → Int32) × (Nat → Nat → Int32) × (Nat → Nat → Int64)) => (WZ_MplanP cI cJ mv mr u.1 u.2.1 u.2.2))) E hr hlk (mi, mf, mg) hw1 ⟨h0.1, h0.2, h1.1, h1.2, h2.1, h2.2, h3.1, h3.2, h4.1, h4.2, h5.1, h5.2, h6.1, h6.2, h7.1, h7.2, rfl, rfl, a_p_from, a_p_to, a_t_marks, a_u_marks, a_pl_wanted, a_pl_served, a_pl_wed, rfl, rfl⟩ (Nat.le_of_ble_eq_true rfl) (Nat.le_of_ble_eq_true rfl) dX11_plan_111
          · skip
            have hc_10 := neE (a := (mi 81).toInt) (b := z_n.toInt) rfl rfl c_10
            refine lv_aload_n (pc := 88) E.1 E.2.1 dX11_plan_88 rfl (lv_at hl5 1 rfl) ?_
            refine x_get (pc := 89) (T := TX11) (N := 13) (ci := 11) (v := .ref (mr 80)) E hw1 inX11 0 11 q_617 rfl rfl (by decide) rfl rfl dX11_plan_89 ?_
            refine lv_aload_n (pc := 92) E.1 E.2.1 dX11_plan_92 rfl (lv_at hl5 1 rfl) ?_
            refine x_get (pc := 93) (T := TX11) (N := 13) (ci := 11) (v := .ref (mr 3)) E hw1 inX11 0 0 q_606 rfl rfl (by decide) rfl rfl dX11_plan_93 ?_
            refine lv_iload_n (pc := 96) E.1 E.2.1 dX11_plan_96 rfl (lv_at hl5 2 rfl) ?_
            refine cq_v (pc := 97) (ws' := (fun (u : Int32 × (Nat → Int32) × (Nat → Int32) × (Nat → Int64) × (Nat → Int64) × (Nat → Int32) × (Nat → Int32) × Int32 × (Nat → Int64) × Int32 × (Nat → Int32) × (Nat → Int32)) => (WZ_MplanP cI cJ mv mr (upd (upd (upd mi 81 u.2.2.2.2.2.2.2.2.2.1) 82 u.2.2.2.2.2.2.2.1) 88 u.1) (va_up (va_up (va_up (va_up (va_up (va_up mf 41 u.2.2.2.2.2.2.2.2.2.2.1) 42 u.2.2.2.2.2.2.2.2.2.2.2) 86 u.2.2.1) 87 u.2.1) 89 u.2.2.2.2.2.1) 90 u.2.2.2.2.2.2.1) (va_up (va_up (va_up mg 83 u.2.2.2.2.2.2.2.2.1) 84 u.2.2.2.1) 85 u.2.2.2.2.1)))) hw1 [51, 52, 53, 54, 55, 56, 57, 1, 2, 3, 4, 5, 6, 7, 8, 9, 10, 11, 12, 13, 14, 15, 16, 17, 18, 19, 20, 21, 22, 23, 24, 25, 26, 27, 28, 29, 30, 31, 32, 33, 34, 35, 36, 37, 38, 39, 40, 41, 42, 43, 44, 45, 46, 47, 48, 49, 50] [0] [0, 8, 9, 10, 11, 12, 13, 14, 15, 16, 17, 18, 19, 20, 21, 22, 23, 24, 25, 26, 27, 28, 29, 30, 31, 32, 33, 34, 35, 36, 37, 38, 39, 40, 41, 42, 43, 44, 45, 46, 47, 48, 49, 50, 51, 52, 53, 54, 55, 56, 57, 1, 2, 3, 4, 5, 6, 7] rfl rfl (by decide) (by decide) (fun _ => rfl) (by decide) (rn_V (As := [.ref (mr 3), .int z_n]) (rest := []) E hw1 (t_search l D cI cJ _ (shs [(0, 80, 11), (11, 3, 77)] mr) (shs [(0, 80, 11), (11, 3, 77)] mi) (shs [(0, 80, 11), (11, 3, 77)] mf) (shs [(0, 80, 11), (11, 3, 77)] mg) z_n (vl [mv 9]) h3 h4 h5 (by show 1 ≤ z_n.toInt ∧ z_n.toInt ≤ 10; omega) a_p_from a_p_to a_pl_wanted a_pl_served a_pl_wed) (gdV q_1193 q_1194 q_1195 q_170 q_1196) hdV_X6_search ⟨rfl, rfl⟩ ⟨(Nat.le_of_ble_eq_true rfl), (Nat.le_of_ble_eq_true rfl)⟩ ⟨(Nat.le_of_ble_eq_true rfl), (Nat.le_of_ble_eq_true rfl)⟩ xT_b xT_at 51 6 rfl rfl rfl [51, 52, 53, 54, 55, 56, 57, 1, 2, 3, 4, 5, 6, 7, 8, 9, 10, 11, 12, 13, 14, 15, 16, 17, 18, 19, 20, 21, 22, 23, 24, 25, 26, 27, 28, 29, 30, 31, 32, 33, 34, 35, 36, 37, 38, 39, 40, 41, 42, 43, 44, 45, 46, 47, 48, 49, 50] rfl (by decide) rfl hl5.1 rfl (Nat.le_of_ble_eq_true rfl) dX11_plan_97) (fun u_12 H1 locs hp hw14 => ?_)
            obtain ⟨nwants_15, gwanted_16, ghops_17, gcosts_18, glifted_19, gserved_20, gwed_21, nmostWorth_22, gleastCost_23, nplanned_24, gpmeasured_25, gpmeasuredIn_26⟩ := u_12
            generalize H1 = H at hw14 ⊢
            have hw27 : WD D A s.heap (WZ_MplanP cI cJ mv mr (upd (upd (upd mi 81 nplanned_24) 82 nmostWorth_22) 88 nwants_15) (va_up (va_up (va_up (va_up (va_up (va_up mf 41 gpmeasured_25) 42 gpmeasuredIn_26) 86 ghops_17) 87 gwanted_16) 89 gserved_20) 90 gwed_21) (va_up (va_up (va_up mg 83 gleastCost_23) 84 gcosts_18) 85 glifted_19)) H locs := hw14
            obtain ⟨hp_28, hp_29, hp_30, hp_31, hp_32, hp_33⟩ := hp
            have hp_28 : nplanned_24.toInt = z_n.toInt := hp_28
            have hp_29 : 0 ≤ nwants_15.toInt := hp_29
            have hp_30 : nwants_15.toInt ≤ 10 := hp_30
            refine lv_iload_n (pc := 100) E.1 E.2.1 dX11_plan_100 rfl (lv_at hl5 3 rfl) ?_
            refine lv_if_ne (pc := 101) (tgt := 112) E.1 E.2.1 dX11_plan_101 (by decide) (fun c_34 => absurd (meqE (a := z_what.toInt) (b := 0) rfl (by decide +kernel) (by omega)) c_34) (fun _ => ?_)
            refine lv_aload_n (pc := 104) E.1 E.2.1 dX11_plan_104 rfl (lv_at hl5 1 rfl) ?_
            refine x_get (pc := 105) (T := TX11) (N := 13) (ci := 11) (v := .ref (mr 80)) E hw27 inX11 0 11 q_617 rfl rfl (by decide) rfl rfl dX11_plan_105 ?_
            refine x_get (pc := 108) (T := TX6) (N := 10) (ci := 6) (v := .int nmostWorth_22) E hw27 inX6 51 1 q_1163 rfl rfl (by decide) rfl rfl dX11_plan_108 ?_
            exact em_i (w1 := (fun (u : (Nat → Int32) × (Nat → Nat → Int32) × (Nat → Nat → Int64)) => (WZ_MplanP cI cJ mv mr u.1 u.2.1 u.2.2))) E hr hlk ((upd (upd (upd mi 81 nplanned_24) 82 nmostWorth_22) 88 nwants_15), (va_up (va_up (va_up (va_up (va_up (va_up mf 41 gpmeasured_25) 42 gpmeasuredIn_26) 86 ghops_17) 87 gwanted_16) 89 gserved_20) 90 gwed_21), (va_up (va_up (va_up mg 83 gleastCost_23) 84 gcosts_18) 85 glifted_19)) hw27 ⟨h0.1, h0.2, h1.1, h1.2, h2.1, h2.2, h3.1, h3.2, h4.1, h4.2, h5.1, h5.2, h6.1, h6.2, h7.1, h7.2, rfl, rfl, a_p_from, a_p_to, a_t_marks, a_u_marks, hp_33, hp_31, hp_32, rfl, rfl⟩ (Nat.le_of_ble_eq_true rfl) (Nat.le_of_ble_eq_true rfl) dX11_plan_111
        · skip
          have hc_9 := eqE (a := (mi 32).toInt) (b := 0) rfl (by decide +kernel) c_9
          refine lv_iconst (pc := 57) (v := (-1)) E.1 E.2.1 dX11_plan_57 (by decide +kernel) ?_
          exact em_i (w1 := (fun (u : (Nat → Int32) × (Nat → Nat → Int32) × (Nat → Nat → Int64)) => (WZ_MplanP cI cJ mv mr u.1 u.2.1 u.2.2))) E hr hlk (mi, mf, mg) hw1 ⟨h0.1, h0.2, h1.1, h1.2, h2.1, h2.2, h3.1, h3.2, h4.1, h4.2, h5.1, h5.2, h6.1, h6.2, h7.1, h7.2, rfl, rfl, a_p_from, a_p_to, a_t_marks, a_u_marks, a_pl_wanted, a_pl_served, a_pl_wed, rfl, rfl⟩ (Nat.le_of_ble_eq_true rfl) (Nat.le_of_ble_eq_true rfl) dX11_plan_58
  · skip
    have hc_4 := neE (a := z_what.toInt) (b := 0) rfl (by decide +kernel) c_4
    refine lv_iload_n (pc := 4) E.1 E.2.1 dX11_plan_4 rfl (lv_at hl3 2 rfl) ?_
    refine lv_iconst (pc := 5) (v := 1) E.1 E.2.1 dX11_plan_5 (by decide +kernel) ?_
    refine lv_icmp_eq (pc := 6) (tgt := 23) E.1 E.2.1 dX11_plan_6 (by decide) (fun c_35 => ?_) (fun c_35 => ?_)
    · skip
      have hc_35 := eqE (a := z_what.toInt) (b := 1) rfl (by decide +kernel) c_35
      refine lv_iconst (pc := 23) (v := 1) E.1 E.2.1 dX11_plan_23 (by decide +kernel) ?_
      refine lv_goto (pc := 24) (tgt := 28) E.1 E.2.1 dX11_plan_24 (by decide) ?_
      refine lv_istore_n (pc := 28) (lv' := [(3, .int 1), (0, .ref (mr 0)), (1, .int z_n), (2, .int z_what)]) E.1 E.2.1 dX11_plan_28 rfl hl3 (by decide) rfl (fun ls hl36 => ?_)
      refine lv_iload_n (pc := 29) E.1 E.2.1 dX11_plan_29 rfl (lv_at hl36 2 rfl) ?_
      refine lv_iconst (pc := 30) (v := 1) E.1 E.2.1 dX11_plan_30 (by decide +kernel) ?_
      refine lv_icmp_lt (pc := 31) (tgt := 57) E.1 E.2.1 dX11_plan_31 (by decide) (fun c_37 => ?_) (fun c_37 => ?_)
      · skip
        have hc_37 := ltE (a := z_n.toInt) (b := 1) rfl (by decide +kernel) c_37
        refine lv_iconst (pc := 57) (v := (-1)) E.1 E.2.1 dX11_plan_57 (by decide +kernel) ?_
        exact em_i (w1 := (fun (u : (Nat → Int32) × (Nat → Nat → Int32) × (Nat → Nat → Int64)) => (WZ_MplanP cI cJ mv mr u.1 u.2.1 u.2.2))) E hr hlk (mi, mf, mg) hw1 ⟨h0.1, h0.2, h1.1, h1.2, h2.1, h2.2, h3.1, h3.2, h4.1, h4.2, h5.1, h5.2, h6.1, h6.2, h7.1, h7.2, rfl, rfl, a_p_from, a_p_to, a_t_marks, a_u_marks, a_pl_wanted, a_pl_served, a_pl_wed, rfl, rfl⟩ (Nat.le_of_ble_eq_true rfl) (Nat.le_of_ble_eq_true rfl) dX11_plan_58
      · skip
        have hc_37 := nltE (a := z_n.toInt) (b := 1) rfl (by decide +kernel) c_37
        refine lv_iload_n (pc := 34) E.1 E.2.1 dX11_plan_34 rfl (lv_at hl36 2 rfl) ?_
        refine lv_bipush (pc := 35) (v := 10) E.1 E.2.1 dX11_plan_35 (by decide +kernel) ?_
        refine lv_icmp_gt (pc := 37) (tgt := 57) E.1 E.2.1 dX11_plan_37 (by decide) (fun c_38 => ?_) (fun c_38 => ?_)
        · skip
          have hc_38 := ltE (a := 10) (b := z_n.toInt) (by decide +kernel) rfl c_38
          refine lv_iconst (pc := 57) (v := (-1)) E.1 E.2.1 dX11_plan_57 (by decide +kernel) ?_
          exact em_i (w1 := (fun (u : (Nat → Int32) × (Nat → Nat → Int32) × (Nat → Nat → Int64)) => (WZ_MplanP cI cJ mv mr u.1 u.2.1 u.2.2))) E hr hlk (mi, mf, mg) hw1 ⟨h0.1, h0.2, h1.1, h1.2, h2.1, h2.2, h3.1, h3.2, h4.1, h4.2, h5.1, h5.2, h6.1, h6.2, h7.1, h7.2, rfl, rfl, a_p_from, a_p_to, a_t_marks, a_u_marks, a_pl_wanted, a_pl_served, a_pl_wed, rfl, rfl⟩ (Nat.le_of_ble_eq_true rfl) (Nat.le_of_ble_eq_true rfl) dX11_plan_58
        · skip
          have hc_38 := nltE (a := 10) (b := z_n.toInt) (by decide +kernel) rfl c_38
          refine lv_iload_n (pc := 40) E.1 E.2.1 dX11_plan_40 rfl (lv_at hl36 0 rfl) ?_
          refine lv_if_eq (pc := 41) (tgt := 57) E.1 E.2.1 dX11_plan_41 (by decide) (fun c_39 => absurd c_39 (mneE (a := 1) (b := 0) (by decide +kernel) (by decide +kernel) (by omega))) (fun _ => ?_)
          refine lv_aload_n (pc := 44) E.1 E.2.1 dX11_plan_44 rfl (lv_at hl36 1 rfl) ?_
          refine x_get (pc := 45) (T := TX11) (N := 13) (ci := 11) (v := .ref (mr 3)) E hw1 inX11 0 0 q_606 rfl rfl (by decide) rfl rfl dX11_plan_45 ?_
          refine x_get (pc := 48) (T := TX10) (N := 17) (ci := 10) (v := .ref (mr 26)) E hw1 inX10 1 1 q_463 rfl rfl (by decide) rfl rfl dX11_plan_48 ?_
          refine x_get (pc := 51) (T := TX1) (N := 9) (ci := 1) (v := .int (mi 32)) E hw1 inX1 13 5 q_282 rfl rfl (by decide) rfl rfl dX11_plan_51 ?_
          refine lv_if_ne (pc := 54) (tgt := 59) E.1 E.2.1 dX11_plan_54 (by decide) (fun c_40 => ?_) (fun c_40 => ?_)
          · skip
            have hc_40 := neE (a := (mi 32).toInt) (b := 0) rfl (by decide +kernel) c_40
            refine lv_aload_n (pc := 59) E.1 E.2.1 dX11_plan_59 rfl (lv_at hl36 1 rfl) ?_
            refine x_get (pc := 60) (T := TX11) (N := 13) (ci := 11) (v := .ref (mr 80)) E hw1 inX11 0 11 q_617 rfl rfl (by decide) rfl rfl dX11_plan_60 ?_
            refine lv_ifnonnull (pc := 63) (tgt := 77) E.1 E.2.1 dX11_plan_63 (by decide) ?_
            refine lv_aload_n (pc := 77) E.1 E.2.1 dX11_plan_77 rfl (lv_at hl36 1 rfl) ?_
            refine x_get (pc := 78) (T := TX11) (N := 13) (ci := 11) (v := .ref (mr 80)) E hw1 inX11 0 11 q_617 rfl rfl (by decide) rfl rfl dX11_plan_78 ?_
            refine x_get (pc := 81) (T := TX6) (N := 10) (ci := 6) (v := .int (mi 81)) E hw1 inX6 51 0 q_1161 rfl rfl (by decide) rfl rfl dX11_plan_81 ?_
            refine lv_iload_n (pc := 84) E.1 E.2.1 dX11_plan_84 rfl (lv_at hl36 2 rfl) ?_
            refine lv_icmp_eq (pc := 85) (tgt := 100) E.1 E.2.1 dX11_plan_85 (by decide) (fun c_41 => ?_) (fun c_41 => ?_)
            · skip
              have hc_41 := eqE (a := (mi 81).toInt) (b := z_n.toInt) rfl rfl c_41
              refine lv_iload_n (pc := 100) E.1 E.2.1 dX11_plan_100 rfl (lv_at hl36 3 rfl) ?_
              refine lv_if_ne (pc := 101) (tgt := 112) E.1 E.2.1 dX11_plan_101 (by decide) (fun _ => ?_) (fun c_42 => absurd c_42 (mneE (a := z_what.toInt) (b := 0) rfl (by decide +kernel) (by omega)))
              refine lv_iload_n (pc := 112) E.1 E.2.1 dX11_plan_112 rfl (lv_at hl36 3 rfl) ?_
              refine lv_iconst (pc := 113) (v := 1) E.1 E.2.1 dX11_plan_113 (by decide +kernel) ?_
              refine lv_icmp_ne (pc := 114) (tgt := 127) E.1 E.2.1 dX11_plan_114 (by decide) (fun c_43 => absurd (meqE (a := z_what.toInt) (b := 1) rfl (by decide +kernel) (by omega)) c_43) (fun _ => ?_)
              refine lv_aload_n (pc := 117) E.1 E.2.1 dX11_plan_117 rfl (lv_at hl36 1 rfl) ?_
              refine x_get (pc := 118) (T := TX11) (N := 13) (ci := 11) (v := .ref (mr 80)) E hw1 inX11 0 11 q_617 rfl rfl (by decide) rfl rfl dX11_plan_118 ?_
              refine ck_i (pc := 121) (ws' := (fun (u : Unit) => (WZ_MplanP cI cJ mv mr mi mf mg))) [false, false, false, false, false, false, false, false, false, false, false, false, false, false, false, false, false, false, false, false, false, false, false, false, false, false, false, false, false, false, false, false, false, false, false, false, false, false, false, false, false, false, false, false, false, false, false, false, false, false, false, true, true, true, true, true, true, true] hw1 rfl (fun hC_ => (rn_V (As := []) (rest := []) E hw1 (t_way l D cI cJ _ (shf 80 mr) (shf 80 mi) (shf 80 mf) (shf 80 mg) ) (gdV q_1238 q_1239 q_1240 q_170 q_1241) hdV_X6_way ⟨rfl, rfl⟩ ⟨(Nat.le_of_ble_eq_true rfl), (Nat.le_of_ble_eq_true rfl)⟩ ⟨(Nat.le_of_ble_eq_true rfl), (Nat.le_of_ble_eq_true rfl)⟩ xT_b xT_at 51 6 rfl rfl rfl _ hC_ (nd_T _ 0) rfl hl36.1 rfl (Nat.le_of_ble_eq_true rfl) dX11_plan_121)) rfl (fun _ => rfl) (fun _ => rfl) (fun r_45 u_44 H1 locs hp hw46 => ?_)
              generalize H1 = H at hw46 ⊢
              have hw47 : WD D A s.heap (WZ_MplanP cI cJ mv mr mi mf mg) H locs := hw46
              refine lv_goto (pc := 124) (tgt := 138) E.1 E.2.1 dX11_plan_124 (by decide) ?_
              exact em_i (w1 := (fun (u : (Nat → Int32) × (Nat → Nat → Int32) × (Nat → Nat → Int64)) => (WZ_MplanP cI cJ mv mr u.1 u.2.1 u.2.2))) E hr hlk (mi, mf, mg) hw47 ⟨h0.1, h0.2, h1.1, h1.2, h2.1, h2.2, h3.1, h3.2, h4.1, h4.2, h5.1, h5.2, h6.1, h6.2, h7.1, h7.2, rfl, rfl, a_p_from, a_p_to, a_t_marks, a_u_marks, a_pl_wanted, a_pl_served, a_pl_wed, rfl, rfl⟩ (Nat.le_of_ble_eq_true rfl) (Nat.le_of_ble_eq_true rfl) dX11_plan_138
            · skip
              have hc_41 := neE (a := (mi 81).toInt) (b := z_n.toInt) rfl rfl c_41
              refine lv_aload_n (pc := 88) E.1 E.2.1 dX11_plan_88 rfl (lv_at hl36 1 rfl) ?_
              refine x_get (pc := 89) (T := TX11) (N := 13) (ci := 11) (v := .ref (mr 80)) E hw1 inX11 0 11 q_617 rfl rfl (by decide) rfl rfl dX11_plan_89 ?_
              refine lv_aload_n (pc := 92) E.1 E.2.1 dX11_plan_92 rfl (lv_at hl36 1 rfl) ?_
              refine x_get (pc := 93) (T := TX11) (N := 13) (ci := 11) (v := .ref (mr 3)) E hw1 inX11 0 0 q_606 rfl rfl (by decide) rfl rfl dX11_plan_93 ?_
              refine lv_iload_n (pc := 96) E.1 E.2.1 dX11_plan_96 rfl (lv_at hl36 2 rfl) ?_
              refine cq_v (pc := 97) (ws' := (fun (u : Int32 × (Nat → Int32) × (Nat → Int32) × (Nat → Int64) × (Nat → Int64) × (Nat → Int32) × (Nat → Int32) × Int32 × (Nat → Int64) × Int32 × (Nat → Int32) × (Nat → Int32)) => (WZ_MplanP cI cJ mv mr (upd (upd (upd mi 81 u.2.2.2.2.2.2.2.2.2.1) 82 u.2.2.2.2.2.2.2.1) 88 u.1) (va_up (va_up (va_up (va_up (va_up (va_up mf 41 u.2.2.2.2.2.2.2.2.2.2.1) 42 u.2.2.2.2.2.2.2.2.2.2.2) 86 u.2.2.1) 87 u.2.1) 89 u.2.2.2.2.2.1) 90 u.2.2.2.2.2.2.1) (va_up (va_up (va_up mg 83 u.2.2.2.2.2.2.2.2.1) 84 u.2.2.2.1) 85 u.2.2.2.2.1)))) hw1 [51, 52, 53, 54, 55, 56, 57, 1, 2, 3, 4, 5, 6, 7, 8, 9, 10, 11, 12, 13, 14, 15, 16, 17, 18, 19, 20, 21, 22, 23, 24, 25, 26, 27, 28, 29, 30, 31, 32, 33, 34, 35, 36, 37, 38, 39, 40, 41, 42, 43, 44, 45, 46, 47, 48, 49, 50] [0] [0, 8, 9, 10, 11, 12, 13, 14, 15, 16, 17, 18, 19, 20, 21, 22, 23, 24, 25, 26, 27, 28, 29, 30, 31, 32, 33, 34, 35, 36, 37, 38, 39, 40, 41, 42, 43, 44, 45, 46, 47, 48, 49, 50, 51, 52, 53, 54, 55, 56, 57, 1, 2, 3, 4, 5, 6, 7] rfl rfl (by decide) (by decide) (fun _ => rfl) (by decide) (rn_V (As := [.ref (mr 3), .int z_n]) (rest := []) E hw1 (t_search l D cI cJ _ (shs [(0, 80, 11), (11, 3, 77)] mr) (shs [(0, 80, 11), (11, 3, 77)] mi) (shs [(0, 80, 11), (11, 3, 77)] mf) (shs [(0, 80, 11), (11, 3, 77)] mg) z_n (vl [mv 9]) h3 h4 h5 (by show 1 ≤ z_n.toInt ∧ z_n.toInt ≤ 10; omega) a_p_from a_p_to a_pl_wanted a_pl_served a_pl_wed) (gdV q_1193 q_1194 q_1195 q_170 q_1196) hdV_X6_search ⟨rfl, rfl⟩ ⟨(Nat.le_of_ble_eq_true rfl), (Nat.le_of_ble_eq_true rfl)⟩ ⟨(Nat.le_of_ble_eq_true rfl), (Nat.le_of_ble_eq_true rfl)⟩ xT_b xT_at 51 6 rfl rfl rfl [51, 52, 53, 54, 55, 56, 57, 1, 2, 3, 4, 5, 6, 7, 8, 9, 10, 11, 12, 13, 14, 15, 16, 17, 18, 19, 20, 21, 22, 23, 24, 25, 26, 27, 28, 29, 30, 31, 32, 33, 34, 35, 36, 37, 38, 39, 40, 41, 42, 43, 44, 45, 46, 47, 48, 49, 50] rfl (by decide) rfl hl36.1 rfl (Nat.le_of_ble_eq_true rfl) dX11_plan_97) (fun u_48 H1 locs hp hw50 => ?_)
              obtain ⟨nwants_51, gwanted_52, ghops_53, gcosts_54, glifted_55, gserved_56, gwed_57, nmostWorth_58, gleastCost_59, nplanned_60, gpmeasured_61, gpmeasuredIn_62⟩ := u_48
              generalize H1 = H at hw50 ⊢
              have hw63 : WD D A s.heap (WZ_MplanP cI cJ mv mr (upd (upd (upd mi 81 nplanned_60) 82 nmostWorth_58) 88 nwants_51) (va_up (va_up (va_up (va_up (va_up (va_up mf 41 gpmeasured_61) 42 gpmeasuredIn_62) 86 ghops_53) 87 gwanted_52) 89 gserved_56) 90 gwed_57) (va_up (va_up (va_up mg 83 gleastCost_59) 84 gcosts_54) 85 glifted_55)) H locs := hw50
              obtain ⟨hp_64, hp_65, hp_66, hp_67, hp_68, hp_69⟩ := hp
              have hp_64 : nplanned_60.toInt = z_n.toInt := hp_64
              have hp_65 : 0 ≤ nwants_51.toInt := hp_65
              have hp_66 : nwants_51.toInt ≤ 10 := hp_66
              refine lv_iload_n (pc := 100) E.1 E.2.1 dX11_plan_100 rfl (lv_at hl36 3 rfl) ?_
              refine lv_if_ne (pc := 101) (tgt := 112) E.1 E.2.1 dX11_plan_101 (by decide) (fun _ => ?_) (fun c_70 => absurd c_70 (mneE (a := z_what.toInt) (b := 0) rfl (by decide +kernel) (by omega)))
              refine lv_iload_n (pc := 112) E.1 E.2.1 dX11_plan_112 rfl (lv_at hl36 3 rfl) ?_
              refine lv_iconst (pc := 113) (v := 1) E.1 E.2.1 dX11_plan_113 (by decide +kernel) ?_
              refine lv_icmp_ne (pc := 114) (tgt := 127) E.1 E.2.1 dX11_plan_114 (by decide) (fun c_71 => absurd (meqE (a := z_what.toInt) (b := 1) rfl (by decide +kernel) (by omega)) c_71) (fun _ => ?_)
              refine lv_aload_n (pc := 117) E.1 E.2.1 dX11_plan_117 rfl (lv_at hl36 1 rfl) ?_
              refine x_get (pc := 118) (T := TX11) (N := 13) (ci := 11) (v := .ref (mr 80)) E hw63 inX11 0 11 q_617 rfl rfl (by decide) rfl rfl dX11_plan_118 ?_
              refine ck_i (pc := 121) (ws' := (fun (u : Unit) => (WZ_MplanP cI cJ mv mr (upd (upd (upd mi 81 nplanned_60) 82 nmostWorth_58) 88 nwants_51) (va_up (va_up (va_up (va_up (va_up (va_up mf 41 gpmeasured_61) 42 gpmeasuredIn_62) 86 ghops_53) 87 gwanted_52) 89 gserved_56) 90 gwed_57) (va_up (va_up (va_up mg 83 gleastCost_59) 84 gcosts_54) 85 glifted_55)))) [false, false, false, false, false, false, false, false, false, false, false, false, false, false, false, false, false, false, false, false, false, false, false, false, false, false, false, false, false, false, false, false, false, false, false, false, false, false, false, false, false, false, false, false, false, false, false, false, false, false, false, true, true, true, true, true, true, true] hw63 rfl (fun hC_ => (rn_V (As := []) (rest := []) E hw63 (t_way l D cI cJ _ (shf 80 mr) (shf 80 (upd (upd (upd mi 81 nplanned_60) 82 nmostWorth_58) 88 nwants_51)) (shf 80 (va_up (va_up (va_up (va_up (va_up (va_up mf 41 gpmeasured_61) 42 gpmeasuredIn_62) 86 ghops_53) 87 gwanted_52) 89 gserved_56) 90 gwed_57)) (shf 80 (va_up (va_up (va_up mg 83 gleastCost_59) 84 gcosts_54) 85 glifted_55)) ) (gdV q_1238 q_1239 q_1240 q_170 q_1241) hdV_X6_way ⟨rfl, rfl⟩ ⟨(Nat.le_of_ble_eq_true rfl), (Nat.le_of_ble_eq_true rfl)⟩ ⟨(Nat.le_of_ble_eq_true rfl), (Nat.le_of_ble_eq_true rfl)⟩ xT_b xT_at 51 6 rfl rfl rfl _ hC_ (nd_T _ 0) rfl hl36.1 rfl (Nat.le_of_ble_eq_true rfl) dX11_plan_121)) rfl (fun _ => rfl) (fun _ => rfl) (fun r_73 u_72 H1 locs hp hw74 => ?_)
              generalize H1 = H at hw74 ⊢
              have hw75 : WD D A s.heap (WZ_MplanP cI cJ mv mr (upd (upd (upd mi 81 nplanned_60) 82 nmostWorth_58) 88 nwants_51) (va_up (va_up (va_up (va_up (va_up (va_up mf 41 gpmeasured_61) 42 gpmeasuredIn_62) 86 ghops_53) 87 gwanted_52) 89 gserved_56) 90 gwed_57) (va_up (va_up (va_up mg 83 gleastCost_59) 84 gcosts_54) 85 glifted_55)) H locs := hw74
              refine lv_goto (pc := 124) (tgt := 138) E.1 E.2.1 dX11_plan_124 (by decide) ?_
              exact em_i (w1 := (fun (u : (Nat → Int32) × (Nat → Nat → Int32) × (Nat → Nat → Int64)) => (WZ_MplanP cI cJ mv mr u.1 u.2.1 u.2.2))) E hr hlk ((upd (upd (upd mi 81 nplanned_60) 82 nmostWorth_58) 88 nwants_51), (va_up (va_up (va_up (va_up (va_up (va_up mf 41 gpmeasured_61) 42 gpmeasuredIn_62) 86 ghops_53) 87 gwanted_52) 89 gserved_56) 90 gwed_57), (va_up (va_up (va_up mg 83 gleastCost_59) 84 gcosts_54) 85 glifted_55)) hw75 ⟨h0.1, h0.2, h1.1, h1.2, h2.1, h2.2, h3.1, h3.2, h4.1, h4.2, h5.1, h5.2, h6.1, h6.2, h7.1, h7.2, rfl, rfl, a_p_from, a_p_to, a_t_marks, a_u_marks, hp_69, hp_67, hp_68, rfl, rfl⟩ (Nat.le_of_ble_eq_true rfl) (Nat.le_of_ble_eq_true rfl) dX11_plan_138
          · skip
            have hc_40 := eqE (a := (mi 32).toInt) (b := 0) rfl (by decide +kernel) c_40
            refine lv_iconst (pc := 57) (v := (-1)) E.1 E.2.1 dX11_plan_57 (by decide +kernel) ?_
            exact em_i (w1 := (fun (u : (Nat → Int32) × (Nat → Nat → Int32) × (Nat → Nat → Int64)) => (WZ_MplanP cI cJ mv mr u.1 u.2.1 u.2.2))) E hr hlk (mi, mf, mg) hw1 ⟨h0.1, h0.2, h1.1, h1.2, h2.1, h2.2, h3.1, h3.2, h4.1, h4.2, h5.1, h5.2, h6.1, h6.2, h7.1, h7.2, rfl, rfl, a_p_from, a_p_to, a_t_marks, a_u_marks, a_pl_wanted, a_pl_served, a_pl_wed, rfl, rfl⟩ (Nat.le_of_ble_eq_true rfl) (Nat.le_of_ble_eq_true rfl) dX11_plan_58
    · skip
      have hc_35 := neE (a := z_what.toInt) (b := 1) rfl (by decide +kernel) c_35
      refine lv_iload_n (pc := 9) E.1 E.2.1 dX11_plan_9 rfl (lv_at hl3 2 rfl) ?_
      refine lv_bipush (pc := 10) (v := 10) E.1 E.2.1 dX11_plan_10 (by decide +kernel) ?_
      refine lv_icmp_lt (pc := 12) (tgt := 27) E.1 E.2.1 dX11_plan_12 (by decide) (fun c_76 => ?_) (fun c_76 => ?_)
      · skip
        have hc_76 := ltE (a := z_what.toInt) (b := 10) rfl (by decide +kernel) c_76
        refine lv_iconst (pc := 27) (v := 0) E.1 E.2.1 dX11_plan_27 (by decide +kernel) ?_
        refine lv_istore_n (pc := 28) (lv' := [(3, .int 0), (0, .ref (mr 0)), (1, .int z_n), (2, .int z_what)]) E.1 E.2.1 dX11_plan_28 rfl hl3 (by decide) rfl (fun ls hl77 => ?_)
        refine lv_iload_n (pc := 29) E.1 E.2.1 dX11_plan_29 rfl (lv_at hl77 2 rfl) ?_
        refine lv_iconst (pc := 30) (v := 1) E.1 E.2.1 dX11_plan_30 (by decide +kernel) ?_
        refine lv_icmp_lt (pc := 31) (tgt := 57) E.1 E.2.1 dX11_plan_31 (by decide) (fun c_78 => ?_) (fun c_78 => ?_)
        · skip
          have hc_78 := ltE (a := z_n.toInt) (b := 1) rfl (by decide +kernel) c_78
          refine lv_iconst (pc := 57) (v := (-1)) E.1 E.2.1 dX11_plan_57 (by decide +kernel) ?_
          exact em_i (w1 := (fun (u : (Nat → Int32) × (Nat → Nat → Int32) × (Nat → Nat → Int64)) => (WZ_MplanP cI cJ mv mr u.1 u.2.1 u.2.2))) E hr hlk (mi, mf, mg) hw1 ⟨h0.1, h0.2, h1.1, h1.2, h2.1, h2.2, h3.1, h3.2, h4.1, h4.2, h5.1, h5.2, h6.1, h6.2, h7.1, h7.2, rfl, rfl, a_p_from, a_p_to, a_t_marks, a_u_marks, a_pl_wanted, a_pl_served, a_pl_wed, rfl, rfl⟩ (Nat.le_of_ble_eq_true rfl) (Nat.le_of_ble_eq_true rfl) dX11_plan_58
        · skip
          have hc_78 := nltE (a := z_n.toInt) (b := 1) rfl (by decide +kernel) c_78
          refine lv_iload_n (pc := 34) E.1 E.2.1 dX11_plan_34 rfl (lv_at hl77 2 rfl) ?_
          refine lv_bipush (pc := 35) (v := 10) E.1 E.2.1 dX11_plan_35 (by decide +kernel) ?_
          refine lv_icmp_gt (pc := 37) (tgt := 57) E.1 E.2.1 dX11_plan_37 (by decide) (fun c_79 => ?_) (fun c_79 => ?_)
          · skip
            have hc_79 := ltE (a := 10) (b := z_n.toInt) (by decide +kernel) rfl c_79
            refine lv_iconst (pc := 57) (v := (-1)) E.1 E.2.1 dX11_plan_57 (by decide +kernel) ?_
            exact em_i (w1 := (fun (u : (Nat → Int32) × (Nat → Nat → Int32) × (Nat → Nat → Int64)) => (WZ_MplanP cI cJ mv mr u.1 u.2.1 u.2.2))) E hr hlk (mi, mf, mg) hw1 ⟨h0.1, h0.2, h1.1, h1.2, h2.1, h2.2, h3.1, h3.2, h4.1, h4.2, h5.1, h5.2, h6.1, h6.2, h7.1, h7.2, rfl, rfl, a_p_from, a_p_to, a_t_marks, a_u_marks, a_pl_wanted, a_pl_served, a_pl_wed, rfl, rfl⟩ (Nat.le_of_ble_eq_true rfl) (Nat.le_of_ble_eq_true rfl) dX11_plan_58
          · skip
            have hc_79 := nltE (a := 10) (b := z_n.toInt) (by decide +kernel) rfl c_79
            refine lv_iload_n (pc := 40) E.1 E.2.1 dX11_plan_40 rfl (lv_at hl77 0 rfl) ?_
            refine lv_if_eq (pc := 41) (tgt := 57) E.1 E.2.1 dX11_plan_41 (by decide) (fun _ => ?_) (fun c_80 => absurd (meqE (a := 0) (b := 0) (by decide +kernel) (by decide +kernel) (by omega)) c_80)
            refine lv_iconst (pc := 57) (v := (-1)) E.1 E.2.1 dX11_plan_57 (by decide +kernel) ?_
            exact em_i (w1 := (fun (u : (Nat → Int32) × (Nat → Nat → Int32) × (Nat → Nat → Int64)) => (WZ_MplanP cI cJ mv mr u.1 u.2.1 u.2.2))) E hr hlk (mi, mf, mg) hw1 ⟨h0.1, h0.2, h1.1, h1.2, h2.1, h2.2, h3.1, h3.2, h4.1, h4.2, h5.1, h5.2, h6.1, h6.2, h7.1, h7.2, rfl, rfl, a_p_from, a_p_to, a_t_marks, a_u_marks, a_pl_wanted, a_pl_served, a_pl_wed, rfl, rfl⟩ (Nat.le_of_ble_eq_true rfl) (Nat.le_of_ble_eq_true rfl) dX11_plan_58
      · skip
        have hc_76 := nltE (a := z_what.toInt) (b := 10) rfl (by decide +kernel) c_76
        refine lv_iload_n (pc := 15) E.1 E.2.1 dX11_plan_15 rfl (lv_at hl3 2 rfl) ?_
        refine lv_bipush (pc := 16) (v := 10) E.1 E.2.1 dX11_plan_16 (by decide +kernel) ?_
        refine lv_isub (pc := 18) E.1 E.2.1 dX11_plan_18 ?_
        refine lv_topi (fun v_81 ev_81 => ?_)
        have hv_81 : v_81.toInt = z_what.toInt - 10 := by rw [ev_81]; exact subE rfl (by decide +kernel) (by omega)
        refine lv_iload_n (pc := 19) E.1 E.2.1 dX11_plan_19 rfl (lv_at hl3 1 rfl) ?_
        refine lv_icmp_ge (pc := 20) (tgt := 27) E.1 E.2.1 dX11_plan_20 (by decide) (fun c_82 => ?_) (fun c_82 => ?_)
        · skip
          have hc_82 := leE (a := z_n.toInt) (b := v_81.toInt) rfl rfl c_82
          refine lv_iconst (pc := 27) (v := 0) E.1 E.2.1 dX11_plan_27 (by decide +kernel) ?_
          refine lv_istore_n (pc := 28) (lv' := [(3, .int 0), (0, .ref (mr 0)), (1, .int z_n), (2, .int z_what)]) E.1 E.2.1 dX11_plan_28 rfl hl3 (by decide) rfl (fun ls hl83 => ?_)
          refine lv_iload_n (pc := 29) E.1 E.2.1 dX11_plan_29 rfl (lv_at hl83 2 rfl) ?_
          refine lv_iconst (pc := 30) (v := 1) E.1 E.2.1 dX11_plan_30 (by decide +kernel) ?_
          refine lv_icmp_lt (pc := 31) (tgt := 57) E.1 E.2.1 dX11_plan_31 (by decide) (fun c_84 => ?_) (fun c_84 => ?_)
          · skip
            have hc_84 := ltE (a := z_n.toInt) (b := 1) rfl (by decide +kernel) c_84
            refine lv_iconst (pc := 57) (v := (-1)) E.1 E.2.1 dX11_plan_57 (by decide +kernel) ?_
            exact em_i (w1 := (fun (u : (Nat → Int32) × (Nat → Nat → Int32) × (Nat → Nat → Int64)) => (WZ_MplanP cI cJ mv mr u.1 u.2.1 u.2.2))) E hr hlk (mi, mf, mg) hw1 ⟨h0.1, h0.2, h1.1, h1.2, h2.1, h2.2, h3.1, h3.2, h4.1, h4.2, h5.1, h5.2, h6.1, h6.2, h7.1, h7.2, rfl, rfl, a_p_from, a_p_to, a_t_marks, a_u_marks, a_pl_wanted, a_pl_served, a_pl_wed, rfl, rfl⟩ (Nat.le_of_ble_eq_true rfl) (Nat.le_of_ble_eq_true rfl) dX11_plan_58
          · skip
            have hc_84 := nltE (a := z_n.toInt) (b := 1) rfl (by decide +kernel) c_84
            refine lv_iload_n (pc := 34) E.1 E.2.1 dX11_plan_34 rfl (lv_at hl83 2 rfl) ?_
            refine lv_bipush (pc := 35) (v := 10) E.1 E.2.1 dX11_plan_35 (by decide +kernel) ?_
            refine lv_icmp_gt (pc := 37) (tgt := 57) E.1 E.2.1 dX11_plan_37 (by decide) (fun c_85 => ?_) (fun c_85 => ?_)
            · skip
              have hc_85 := ltE (a := 10) (b := z_n.toInt) (by decide +kernel) rfl c_85
              refine lv_iconst (pc := 57) (v := (-1)) E.1 E.2.1 dX11_plan_57 (by decide +kernel) ?_
              exact em_i (w1 := (fun (u : (Nat → Int32) × (Nat → Nat → Int32) × (Nat → Nat → Int64)) => (WZ_MplanP cI cJ mv mr u.1 u.2.1 u.2.2))) E hr hlk (mi, mf, mg) hw1 ⟨h0.1, h0.2, h1.1, h1.2, h2.1, h2.2, h3.1, h3.2, h4.1, h4.2, h5.1, h5.2, h6.1, h6.2, h7.1, h7.2, rfl, rfl, a_p_from, a_p_to, a_t_marks, a_u_marks, a_pl_wanted, a_pl_served, a_pl_wed, rfl, rfl⟩ (Nat.le_of_ble_eq_true rfl) (Nat.le_of_ble_eq_true rfl) dX11_plan_58
            · skip
              have hc_85 := nltE (a := 10) (b := z_n.toInt) (by decide +kernel) rfl c_85
              refine lv_iload_n (pc := 40) E.1 E.2.1 dX11_plan_40 rfl (lv_at hl83 0 rfl) ?_
              refine lv_if_eq (pc := 41) (tgt := 57) E.1 E.2.1 dX11_plan_41 (by decide) (fun _ => ?_) (fun c_86 => absurd (meqE (a := 0) (b := 0) (by decide +kernel) (by decide +kernel) (by omega)) c_86)
              refine lv_iconst (pc := 57) (v := (-1)) E.1 E.2.1 dX11_plan_57 (by decide +kernel) ?_
              exact em_i (w1 := (fun (u : (Nat → Int32) × (Nat → Nat → Int32) × (Nat → Nat → Int64)) => (WZ_MplanP cI cJ mv mr u.1 u.2.1 u.2.2))) E hr hlk (mi, mf, mg) hw1 ⟨h0.1, h0.2, h1.1, h1.2, h2.1, h2.2, h3.1, h3.2, h4.1, h4.2, h5.1, h5.2, h6.1, h6.2, h7.1, h7.2, rfl, rfl, a_p_from, a_p_to, a_t_marks, a_u_marks, a_pl_wanted, a_pl_served, a_pl_wed, rfl, rfl⟩ (Nat.le_of_ble_eq_true rfl) (Nat.le_of_ble_eq_true rfl) dX11_plan_58
        · skip
          have hc_82 := nleE (a := z_n.toInt) (b := v_81.toInt) rfl rfl c_82
          refine lv_iconst (pc := 23) (v := 1) E.1 E.2.1 dX11_plan_23 (by decide +kernel) ?_
          refine lv_goto (pc := 24) (tgt := 28) E.1 E.2.1 dX11_plan_24 (by decide) ?_
          refine lv_istore_n (pc := 28) (lv' := [(3, .int 1), (0, .ref (mr 0)), (1, .int z_n), (2, .int z_what)]) E.1 E.2.1 dX11_plan_28 rfl hl3 (by decide) rfl (fun ls hl87 => ?_)
          refine lv_iload_n (pc := 29) E.1 E.2.1 dX11_plan_29 rfl (lv_at hl87 2 rfl) ?_
          refine lv_iconst (pc := 30) (v := 1) E.1 E.2.1 dX11_plan_30 (by decide +kernel) ?_
          refine lv_icmp_lt (pc := 31) (tgt := 57) E.1 E.2.1 dX11_plan_31 (by decide) (fun c_88 => absurd c_88 (mnltE (a := z_n.toInt) (b := 1) rfl (by decide +kernel) (by omega))) (fun _ => ?_)
          refine lv_iload_n (pc := 34) E.1 E.2.1 dX11_plan_34 rfl (lv_at hl87 2 rfl) ?_
          refine lv_bipush (pc := 35) (v := 10) E.1 E.2.1 dX11_plan_35 (by decide +kernel) ?_
          refine lv_icmp_gt (pc := 37) (tgt := 57) E.1 E.2.1 dX11_plan_37 (by decide) (fun c_89 => ?_) (fun c_89 => ?_)
          · skip
            have hc_89 := ltE (a := 10) (b := z_n.toInt) (by decide +kernel) rfl c_89
            refine lv_iconst (pc := 57) (v := (-1)) E.1 E.2.1 dX11_plan_57 (by decide +kernel) ?_
            exact em_i (w1 := (fun (u : (Nat → Int32) × (Nat → Nat → Int32) × (Nat → Nat → Int64)) => (WZ_MplanP cI cJ mv mr u.1 u.2.1 u.2.2))) E hr hlk (mi, mf, mg) hw1 ⟨h0.1, h0.2, h1.1, h1.2, h2.1, h2.2, h3.1, h3.2, h4.1, h4.2, h5.1, h5.2, h6.1, h6.2, h7.1, h7.2, rfl, rfl, a_p_from, a_p_to, a_t_marks, a_u_marks, a_pl_wanted, a_pl_served, a_pl_wed, rfl, rfl⟩ (Nat.le_of_ble_eq_true rfl) (Nat.le_of_ble_eq_true rfl) dX11_plan_58
          · skip
            have hc_89 := nltE (a := 10) (b := z_n.toInt) (by decide +kernel) rfl c_89
            refine lv_iload_n (pc := 40) E.1 E.2.1 dX11_plan_40 rfl (lv_at hl87 0 rfl) ?_
            refine lv_if_eq (pc := 41) (tgt := 57) E.1 E.2.1 dX11_plan_41 (by decide) (fun c_90 => absurd c_90 (mneE (a := 1) (b := 0) (by decide +kernel) (by decide +kernel) (by omega))) (fun _ => ?_)
            refine lv_aload_n (pc := 44) E.1 E.2.1 dX11_plan_44 rfl (lv_at hl87 1 rfl) ?_
            refine x_get (pc := 45) (T := TX11) (N := 13) (ci := 11) (v := .ref (mr 3)) E hw1 inX11 0 0 q_606 rfl rfl (by decide) rfl rfl dX11_plan_45 ?_
            refine x_get (pc := 48) (T := TX10) (N := 17) (ci := 10) (v := .ref (mr 26)) E hw1 inX10 1 1 q_463 rfl rfl (by decide) rfl rfl dX11_plan_48 ?_
            refine x_get (pc := 51) (T := TX1) (N := 9) (ci := 1) (v := .int (mi 32)) E hw1 inX1 13 5 q_282 rfl rfl (by decide) rfl rfl dX11_plan_51 ?_
            refine lv_if_ne (pc := 54) (tgt := 59) E.1 E.2.1 dX11_plan_54 (by decide) (fun c_91 => ?_) (fun c_91 => ?_)
            · skip
              have hc_91 := neE (a := (mi 32).toInt) (b := 0) rfl (by decide +kernel) c_91
              refine lv_aload_n (pc := 59) E.1 E.2.1 dX11_plan_59 rfl (lv_at hl87 1 rfl) ?_
              refine x_get (pc := 60) (T := TX11) (N := 13) (ci := 11) (v := .ref (mr 80)) E hw1 inX11 0 11 q_617 rfl rfl (by decide) rfl rfl dX11_plan_60 ?_
              refine lv_ifnonnull (pc := 63) (tgt := 77) E.1 E.2.1 dX11_plan_63 (by decide) ?_
              refine lv_aload_n (pc := 77) E.1 E.2.1 dX11_plan_77 rfl (lv_at hl87 1 rfl) ?_
              refine x_get (pc := 78) (T := TX11) (N := 13) (ci := 11) (v := .ref (mr 80)) E hw1 inX11 0 11 q_617 rfl rfl (by decide) rfl rfl dX11_plan_78 ?_
              refine x_get (pc := 81) (T := TX6) (N := 10) (ci := 6) (v := .int (mi 81)) E hw1 inX6 51 0 q_1161 rfl rfl (by decide) rfl rfl dX11_plan_81 ?_
              refine lv_iload_n (pc := 84) E.1 E.2.1 dX11_plan_84 rfl (lv_at hl87 2 rfl) ?_
              refine lv_icmp_eq (pc := 85) (tgt := 100) E.1 E.2.1 dX11_plan_85 (by decide) (fun c_92 => ?_) (fun c_92 => ?_)
              · skip
                have hc_92 := eqE (a := (mi 81).toInt) (b := z_n.toInt) rfl rfl c_92
                refine lv_iload_n (pc := 100) E.1 E.2.1 dX11_plan_100 rfl (lv_at hl87 3 rfl) ?_
                refine lv_if_ne (pc := 101) (tgt := 112) E.1 E.2.1 dX11_plan_101 (by decide) (fun _ => ?_) (fun c_93 => absurd c_93 (mneE (a := z_what.toInt) (b := 0) rfl (by decide +kernel) (by omega)))
                refine lv_iload_n (pc := 112) E.1 E.2.1 dX11_plan_112 rfl (lv_at hl87 3 rfl) ?_
                refine lv_iconst (pc := 113) (v := 1) E.1 E.2.1 dX11_plan_113 (by decide +kernel) ?_
                refine lv_icmp_ne (pc := 114) (tgt := 127) E.1 E.2.1 dX11_plan_114 (by decide) (fun _ => ?_) (fun c_94 => absurd c_94 (mneE (a := z_what.toInt) (b := 1) rfl (by decide +kernel) (by omega)))
                refine lv_aload_n (pc := 127) E.1 E.2.1 dX11_plan_127 rfl (lv_at hl87 1 rfl) ?_
                refine x_get (pc := 128) (T := TX11) (N := 13) (ci := 11) (v := .ref (mr 80)) E hw1 inX11 0 11 q_617 rfl rfl (by decide) rfl rfl dX11_plan_128 ?_
                refine lv_iload_n (pc := 131) E.1 E.2.1 dX11_plan_131 rfl (lv_at hl87 3 rfl) ?_
                refine lv_bipush (pc := 132) (v := 10) E.1 E.2.1 dX11_plan_132 (by decide +kernel) ?_
                refine lv_isub (pc := 134) E.1 E.2.1 dX11_plan_134 ?_
                refine lv_topi (fun v_95 ev_95 => ?_)
                have hv_95 : v_95.toInt = z_what.toInt - 10 := by rw [ev_95]; exact subE rfl (by decide +kernel) (by omega)
                refine ck_i (pc := 135) (ws' := (fun (u : Unit) => (WZ_MplanP cI cJ mv mr mi mf mg))) [false, false, false, false, false, false, false, false, false, false, false, false, false, false, false, false, false, false, false, false, false, false, false, false, false, false, false, false, false, false, false, false, false, false, false, false, false, false, false, false, false, false, false, false, false, false, false, false, false, false, false, true, true, true, true, true, true, true] hw1 rfl (fun hC_ => (rn_V (As := [.int v_95]) (rest := []) E hw1 (t_stop l D cI cJ _ (shf 80 mr) (shf 80 mi) (shf 80 mf) (shf 80 mg) v_95 (by show 0 ≤ v_95.toInt; omega) (by show v_95.toInt + 1 ≤ (mi 81).toInt; omega) (by show (mi 81).toInt ≤ 10; omega)) (gdV q_1242 q_1243 q_1244 q_170 q_1245) hdV_X6_stop ⟨rfl, rfl⟩ ⟨(Nat.le_of_ble_eq_true rfl), (Nat.le_of_ble_eq_true rfl)⟩ ⟨(Nat.le_of_ble_eq_true rfl), (Nat.le_of_ble_eq_true rfl)⟩ xT_b xT_at 51 6 rfl rfl rfl _ hC_ (nd_T _ 0) rfl hl87.1 rfl (Nat.le_of_ble_eq_true rfl) dX11_plan_135)) rfl (fun _ => rfl) (fun _ => rfl) (fun r_97 u_96 H1 locs hp hw98 => ?_)
                generalize H1 = H at hw98 ⊢
                have hw99 : WD D A s.heap (WZ_MplanP cI cJ mv mr mi mf mg) H locs := hw98
                exact em_i (w1 := (fun (u : (Nat → Int32) × (Nat → Nat → Int32) × (Nat → Nat → Int64)) => (WZ_MplanP cI cJ mv mr u.1 u.2.1 u.2.2))) E hr hlk (mi, mf, mg) hw99 ⟨h0.1, h0.2, h1.1, h1.2, h2.1, h2.2, h3.1, h3.2, h4.1, h4.2, h5.1, h5.2, h6.1, h6.2, h7.1, h7.2, rfl, rfl, a_p_from, a_p_to, a_t_marks, a_u_marks, a_pl_wanted, a_pl_served, a_pl_wed, rfl, rfl⟩ (Nat.le_of_ble_eq_true rfl) (Nat.le_of_ble_eq_true rfl) dX11_plan_138
              · skip
                have hc_92 := neE (a := (mi 81).toInt) (b := z_n.toInt) rfl rfl c_92
                refine lv_aload_n (pc := 88) E.1 E.2.1 dX11_plan_88 rfl (lv_at hl87 1 rfl) ?_
                refine x_get (pc := 89) (T := TX11) (N := 13) (ci := 11) (v := .ref (mr 80)) E hw1 inX11 0 11 q_617 rfl rfl (by decide) rfl rfl dX11_plan_89 ?_
                refine lv_aload_n (pc := 92) E.1 E.2.1 dX11_plan_92 rfl (lv_at hl87 1 rfl) ?_
                refine x_get (pc := 93) (T := TX11) (N := 13) (ci := 11) (v := .ref (mr 3)) E hw1 inX11 0 0 q_606 rfl rfl (by decide) rfl rfl dX11_plan_93 ?_
                refine lv_iload_n (pc := 96) E.1 E.2.1 dX11_plan_96 rfl (lv_at hl87 2 rfl) ?_
                refine cq_v (pc := 97) (ws' := (fun (u : Int32 × (Nat → Int32) × (Nat → Int32) × (Nat → Int64) × (Nat → Int64) × (Nat → Int32) × (Nat → Int32) × Int32 × (Nat → Int64) × Int32 × (Nat → Int32) × (Nat → Int32)) => (WZ_MplanP cI cJ mv mr (upd (upd (upd mi 81 u.2.2.2.2.2.2.2.2.2.1) 82 u.2.2.2.2.2.2.2.1) 88 u.1) (va_up (va_up (va_up (va_up (va_up (va_up mf 41 u.2.2.2.2.2.2.2.2.2.2.1) 42 u.2.2.2.2.2.2.2.2.2.2.2) 86 u.2.2.1) 87 u.2.1) 89 u.2.2.2.2.2.1) 90 u.2.2.2.2.2.2.1) (va_up (va_up (va_up mg 83 u.2.2.2.2.2.2.2.2.1) 84 u.2.2.2.1) 85 u.2.2.2.2.1)))) hw1 [51, 52, 53, 54, 55, 56, 57, 1, 2, 3, 4, 5, 6, 7, 8, 9, 10, 11, 12, 13, 14, 15, 16, 17, 18, 19, 20, 21, 22, 23, 24, 25, 26, 27, 28, 29, 30, 31, 32, 33, 34, 35, 36, 37, 38, 39, 40, 41, 42, 43, 44, 45, 46, 47, 48, 49, 50] [0] [0, 8, 9, 10, 11, 12, 13, 14, 15, 16, 17, 18, 19, 20, 21, 22, 23, 24, 25, 26, 27, 28, 29, 30, 31, 32, 33, 34, 35, 36, 37, 38, 39, 40, 41, 42, 43, 44, 45, 46, 47, 48, 49, 50, 51, 52, 53, 54, 55, 56, 57, 1, 2, 3, 4, 5, 6, 7] rfl rfl (by decide) (by decide) (fun _ => rfl) (by decide) (rn_V (As := [.ref (mr 3), .int z_n]) (rest := []) E hw1 (t_search l D cI cJ _ (shs [(0, 80, 11), (11, 3, 77)] mr) (shs [(0, 80, 11), (11, 3, 77)] mi) (shs [(0, 80, 11), (11, 3, 77)] mf) (shs [(0, 80, 11), (11, 3, 77)] mg) z_n (vl [mv 9]) h3 h4 h5 (by show 1 ≤ z_n.toInt ∧ z_n.toInt ≤ 10; omega) a_p_from a_p_to a_pl_wanted a_pl_served a_pl_wed) (gdV q_1193 q_1194 q_1195 q_170 q_1196) hdV_X6_search ⟨rfl, rfl⟩ ⟨(Nat.le_of_ble_eq_true rfl), (Nat.le_of_ble_eq_true rfl)⟩ ⟨(Nat.le_of_ble_eq_true rfl), (Nat.le_of_ble_eq_true rfl)⟩ xT_b xT_at 51 6 rfl rfl rfl [51, 52, 53, 54, 55, 56, 57, 1, 2, 3, 4, 5, 6, 7, 8, 9, 10, 11, 12, 13, 14, 15, 16, 17, 18, 19, 20, 21, 22, 23, 24, 25, 26, 27, 28, 29, 30, 31, 32, 33, 34, 35, 36, 37, 38, 39, 40, 41, 42, 43, 44, 45, 46, 47, 48, 49, 50] rfl (by decide) rfl hl87.1 rfl (Nat.le_of_ble_eq_true rfl) dX11_plan_97) (fun u_100 H1 locs hp hw102 => ?_)
                obtain ⟨nwants_103, gwanted_104, ghops_105, gcosts_106, glifted_107, gserved_108, gwed_109, nmostWorth_110, gleastCost_111, nplanned_112, gpmeasured_113, gpmeasuredIn_114⟩ := u_100
                generalize H1 = H at hw102 ⊢
                have hw115 : WD D A s.heap (WZ_MplanP cI cJ mv mr (upd (upd (upd mi 81 nplanned_112) 82 nmostWorth_110) 88 nwants_103) (va_up (va_up (va_up (va_up (va_up (va_up mf 41 gpmeasured_113) 42 gpmeasuredIn_114) 86 ghops_105) 87 gwanted_104) 89 gserved_108) 90 gwed_109) (va_up (va_up (va_up mg 83 gleastCost_111) 84 gcosts_106) 85 glifted_107)) H locs := hw102
                obtain ⟨hp_116, hp_117, hp_118, hp_119, hp_120, hp_121⟩ := hp
                have hp_116 : nplanned_112.toInt = z_n.toInt := hp_116
                have hp_117 : 0 ≤ nwants_103.toInt := hp_117
                have hp_118 : nwants_103.toInt ≤ 10 := hp_118
                refine lv_iload_n (pc := 100) E.1 E.2.1 dX11_plan_100 rfl (lv_at hl87 3 rfl) ?_
                refine lv_if_ne (pc := 101) (tgt := 112) E.1 E.2.1 dX11_plan_101 (by decide) (fun _ => ?_) (fun c_122 => absurd c_122 (mneE (a := z_what.toInt) (b := 0) rfl (by decide +kernel) (by omega)))
                refine lv_iload_n (pc := 112) E.1 E.2.1 dX11_plan_112 rfl (lv_at hl87 3 rfl) ?_
                refine lv_iconst (pc := 113) (v := 1) E.1 E.2.1 dX11_plan_113 (by decide +kernel) ?_
                refine lv_icmp_ne (pc := 114) (tgt := 127) E.1 E.2.1 dX11_plan_114 (by decide) (fun _ => ?_) (fun c_123 => absurd c_123 (mneE (a := z_what.toInt) (b := 1) rfl (by decide +kernel) (by omega)))
                refine lv_aload_n (pc := 127) E.1 E.2.1 dX11_plan_127 rfl (lv_at hl87 1 rfl) ?_
                refine x_get (pc := 128) (T := TX11) (N := 13) (ci := 11) (v := .ref (mr 80)) E hw115 inX11 0 11 q_617 rfl rfl (by decide) rfl rfl dX11_plan_128 ?_
                refine lv_iload_n (pc := 131) E.1 E.2.1 dX11_plan_131 rfl (lv_at hl87 3 rfl) ?_
                refine lv_bipush (pc := 132) (v := 10) E.1 E.2.1 dX11_plan_132 (by decide +kernel) ?_
                refine lv_isub (pc := 134) E.1 E.2.1 dX11_plan_134 ?_
                refine lv_topi (fun v_124 ev_124 => ?_)
                have hv_124 : v_124.toInt = z_what.toInt - 10 := by rw [ev_124]; exact subE rfl (by decide +kernel) (by omega)
                refine ck_i (pc := 135) (ws' := (fun (u : Unit) => (WZ_MplanP cI cJ mv mr (upd (upd (upd mi 81 nplanned_112) 82 nmostWorth_110) 88 nwants_103) (va_up (va_up (va_up (va_up (va_up (va_up mf 41 gpmeasured_113) 42 gpmeasuredIn_114) 86 ghops_105) 87 gwanted_104) 89 gserved_108) 90 gwed_109) (va_up (va_up (va_up mg 83 gleastCost_111) 84 gcosts_106) 85 glifted_107)))) [false, false, false, false, false, false, false, false, false, false, false, false, false, false, false, false, false, false, false, false, false, false, false, false, false, false, false, false, false, false, false, false, false, false, false, false, false, false, false, false, false, false, false, false, false, false, false, false, false, false, false, true, true, true, true, true, true, true] hw115 rfl (fun hC_ => (rn_V (As := [.int v_124]) (rest := []) E hw115 (t_stop l D cI cJ _ (shf 80 mr) (shf 80 (upd (upd (upd mi 81 nplanned_112) 82 nmostWorth_110) 88 nwants_103)) (shf 80 (va_up (va_up (va_up (va_up (va_up (va_up mf 41 gpmeasured_113) 42 gpmeasuredIn_114) 86 ghops_105) 87 gwanted_104) 89 gserved_108) 90 gwed_109)) (shf 80 (va_up (va_up (va_up mg 83 gleastCost_111) 84 gcosts_106) 85 glifted_107)) v_124 (by show 0 ≤ v_124.toInt; omega) (by show v_124.toInt + 1 ≤ nplanned_112.toInt; omega) (by show nplanned_112.toInt ≤ 10; omega)) (gdV q_1242 q_1243 q_1244 q_170 q_1245) hdV_X6_stop ⟨rfl, rfl⟩ ⟨(Nat.le_of_ble_eq_true rfl), (Nat.le_of_ble_eq_true rfl)⟩ ⟨(Nat.le_of_ble_eq_true rfl), (Nat.le_of_ble_eq_true rfl)⟩ xT_b xT_at 51 6 rfl rfl rfl _ hC_ (nd_T _ 0) rfl hl87.1 rfl (Nat.le_of_ble_eq_true rfl) dX11_plan_135)) rfl (fun _ => rfl) (fun _ => rfl) (fun r_126 u_125 H1 locs hp hw127 => ?_)
                generalize H1 = H at hw127 ⊢
                have hw128 : WD D A s.heap (WZ_MplanP cI cJ mv mr (upd (upd (upd mi 81 nplanned_112) 82 nmostWorth_110) 88 nwants_103) (va_up (va_up (va_up (va_up (va_up (va_up mf 41 gpmeasured_113) 42 gpmeasuredIn_114) 86 ghops_105) 87 gwanted_104) 89 gserved_108) 90 gwed_109) (va_up (va_up (va_up mg 83 gleastCost_111) 84 gcosts_106) 85 glifted_107)) H locs := hw127
                exact em_i (w1 := (fun (u : (Nat → Int32) × (Nat → Nat → Int32) × (Nat → Nat → Int64)) => (WZ_MplanP cI cJ mv mr u.1 u.2.1 u.2.2))) E hr hlk ((upd (upd (upd mi 81 nplanned_112) 82 nmostWorth_110) 88 nwants_103), (va_up (va_up (va_up (va_up (va_up (va_up mf 41 gpmeasured_113) 42 gpmeasuredIn_114) 86 ghops_105) 87 gwanted_104) 89 gserved_108) 90 gwed_109), (va_up (va_up (va_up mg 83 gleastCost_111) 84 gcosts_106) 85 glifted_107)) hw128 ⟨h0.1, h0.2, h1.1, h1.2, h2.1, h2.2, h3.1, h3.2, h4.1, h4.2, h5.1, h5.2, h6.1, h6.2, h7.1, h7.2, rfl, rfl, a_p_from, a_p_to, a_t_marks, a_u_marks, hp_121, hp_119, hp_120, rfl, rfl⟩ (Nat.le_of_ble_eq_true rfl) (Nat.le_of_ble_eq_true rfl) dX11_plan_138
            · skip
              have hc_91 := eqE (a := (mi 32).toInt) (b := 0) rfl (by decide +kernel) c_91
              refine lv_iconst (pc := 57) (v := (-1)) E.1 E.2.1 dX11_plan_57 (by decide +kernel) ?_
              exact em_i (w1 := (fun (u : (Nat → Int32) × (Nat → Nat → Int32) × (Nat → Nat → Int64)) => (WZ_MplanP cI cJ mv mr u.1 u.2.1 u.2.2))) E hr hlk (mi, mf, mg) hw1 ⟨h0.1, h0.2, h1.1, h1.2, h2.1, h2.2, h3.1, h3.2, h4.1, h4.2, h5.1, h5.2, h6.1, h6.2, h7.1, h7.2, rfl, rfl, a_p_from, a_p_to, a_t_marks, a_u_marks, a_pl_wanted, a_pl_served, a_pl_wed, rfl, rfl⟩ (Nat.le_of_ble_eq_true rfl) (Nat.le_of_ble_eq_true rfl) dX11_plan_58
