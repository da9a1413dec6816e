set_option maxHeartbeats 4000000 in
set_option maxRecDepth 100000 in
theorem t_search (l : Launch) (D : va_G) (cI cJ : ClassId) (sz : Nat) (mr : Nat → Nat) (mi : Nat → Int32) (mf : Nat → Nat → Int32) (mg : Nat → Nat → Int64) (z_n : Int32) (mv : Nat → Value) (h0 : 0 ≤ (mi 40).toInt ∧ (mi 40).toInt ≤ 10) (h1 : 0 ≤ (mi 48).toInt ∧ (mi 48).toInt ≤ 40) (h2 : 0 ≤ (mi 57).toInt ∧ (mi 57).toInt ≤ 10) (h3 : 1 ≤ z_n.toInt ∧ z_n.toInt ≤ 10) (a_p_from : p9 (mf 44)) (a_p_to : p9 (mf 45)) (a_wanted : w9 (mf 7)) (a_served : s1k (mf 9)) (a_wed : s1k (mf 10)) : Met l yX6_search (Cond.code yX6_search cX6_search 8 none :: GW) ({ frames := 5, cells := 0, slots := 0, locals := 139 } : Room) (va_Pc [.ref (mr 0), .ref (mr 11), .int z_n] (PW D cI cJ sz (WZ_PVO cI cJ mv mr mi mf mg) xT)) (va_Qv (fun (u : Int32 × (Nat → Int32) × (Nat → Int32) × (Nat → Int64) × (Nat → Int64) × (Nat → Int32) × (Nat → Int32) × Int32 × (Nat → Int64) × Int32 × (Nat → Int32) × (Nat → Int32)) => (u.2.2.2.2.2.2.2.2.2.1.toInt = z_n.toInt) ∧ (0 ≤ u.1.toInt) ∧ (u.1.toInt ≤ 10) ∧ (s1k u.2.2.2.2.2.1) ∧ (s1k u.2.2.2.2.2.2.1) ∧ (w9 u.2.1)) (fun u => QW D cI cJ (va_A (WZ_PVO cI cJ mv mr mi mf mg) sz) ((fun (u : Int32 × (Nat → Int32) × (Nat → Int32) × (Nat → Int64) × (Nat → Int64) × (Nat → Int32) × (Nat → Int32) × Int32 × (Nat → Int64) × Int32 × (Nat → Int32) × (Nat → Int32)) => (WZ_PVO cI cJ mv mr (upd (upd (upd mi 8 u.1) 2 u.2.2.2.2.2.2.2.1) 1 u.2.2.2.2.2.2.2.2.2.1) (va_up (va_up (va_up (va_up (va_up (va_up mf 7 u.2.1) 6 u.2.2.1) 9 u.2.2.2.2.2.1) 10 u.2.2.2.2.2.2.1) 49 u.2.2.2.2.2.2.2.2.2.2.1) 50 u.2.2.2.2.2.2.2.2.2.2.2) (va_up (va_up (va_up mg 4 u.2.2.2.1) 5 u.2.2.2.2.1) 3 u.2.2.2.2.2.2.2.2.1))) u)) (va_A (WZ_PVO cI cJ mv mr mi mf mg) sz)) 0 0 (va_A (WZ_PVO cI cJ mv mr mi mf mg) sz) := by
  refine mk_met (y := yX6_search) (bytes := cX6_search) (maxL := 8) (avs := [.ref (mr 0), .ref (mr 11), .int z_n]) (WS := (WZ_PVO cI cJ mv mr mi mf mg)) (Qf := fun A => va_Qv (fun (u : Int32 × (Nat → Int32) × (Nat → Int32) × (Nat → Int64) × (Nat → Int64) × (Nat → Int32) × (Nat → Int32) × Int32 × (Nat → Int64) × Int32 × (Nat → Int32) × (Nat → Int32)) => (u.2.2.2.2.2.2.2.2.2.1.toInt = z_n.toInt) ∧ (0 ≤ u.1.toInt) ∧ (u.1.toInt ≤ 10) ∧ (s1k u.2.2.2.2.2.1) ∧ (s1k u.2.2.2.2.2.2.1) ∧ (w9 u.2.1)) (fun u => QW D cI cJ A ((fun (u : Int32 × (Nat → Int32) × (Nat → Int32) × (Nat → Int64) × (Nat → Int64) × (Nat → Int32) × (Nat → Int32) × Int32 × (Nat → Int64) × Int32 × (Nat → Int32) × (Nat → Int32)) => (WZ_PVO cI cJ mv mr (upd (upd (upd mi 8 u.1) 2 u.2.2.2.2.2.2.2.1) 1 u.2.2.2.2.2.2.2.2.2.1) (va_up (va_up (va_up (va_up (va_up (va_up mf 7 u.2.1) 6 u.2.2.1) 9 u.2.2.2.2.2.1) 10 u.2.2.2.2.2.2.1) 49 u.2.2.2.2.2.2.2.2.2.2.1) 50 u.2.2.2.2.2.2.2.2.2.2.2) (va_up (va_up (va_up mg 4 u.2.2.2.1) 5 u.2.2.2.2.1) 3 u.2.2.2.2.2.2.2.2.1))) u)) A) (by decide) (Nat.le_of_ble_eq_true rfl) ?_
  intro p e s m below meth c A ls E hr hlk hnm hX hw1 hl2
  have hl3 : lv_has ls 8 [(0, .ref (mr 0)), (1, .ref (mr 11)), (2, .int z_n)] := hl2
  refine lv_aload_n (pc := 0) E.1 E.2.1 dX6_search_0 rfl (lv_at hl3 0 rfl) ?_
  refine lv_aload_n (pc := 1) E.1 E.2.1 dX6_search_1 rfl (lv_at hl3 1 rfl) ?_
  refine lv_iload_n (pc := 2) E.1 E.2.1 dX6_search_2 rfl (lv_at hl3 2 rfl) ?_
  refine ck_v (pc := 3) (ws' := (fun (u : Int32 × (Nat → Int32)) => (WZ_PVO cI cJ mv mr (upd mi 8 u.1) (va_up mf 7 u.2) mg))) [true, true, true, true, true, true, true, true, true, true, true, true, true, true, true, true, true, true, true, true, true, true, true, true, true, true, true, true, true, true, true, true, true, true, true, true, true, true, true, true, true, true, true, true, true, true, true, true, true, true, true, true, true, true, true, true, true] hw1 rfl (fun hC_ => (rn_V (As := [.ref (mr 11), .int z_n]) (rest := []) E hw1 (t_gatherNeeds l D cI cJ _ mr mi mf mg z_n (vl [mv 0]) h0 h1 h2 a_wanted) (gdV q_1197 q_1199 q_31 q_170 q_1200) hdV_X6_gatherNeeds ⟨rfl, rfl⟩ ⟨(Nat.le_of_ble_eq_true rfl), (Nat.le_of_ble_eq_true rfl)⟩ ⟨(Nat.le_of_ble_eq_true rfl), (Nat.le_of_ble_eq_true rfl)⟩ xT_b xT_at 0 6 rfl rfl rfl _ hC_ (nd_T _ 0) rfl hl3.1 rfl (Nat.le_of_ble_eq_true rfl) dX6_search_3)) rfl (fun _ => rfl) (fun _ => rfl) (fun u_4 H1 locs hp hw6 => ?_)
  obtain ⟨nwants_7, gwanted_8⟩ := u_4
  generalize H1 = H at hw6 ⊢
  have hw9 : WD D A s.heap (WZ_PVO cI cJ mv mr (upd mi 8 nwants_7) (va_up mf 7 gwanted_8) mg) H locs := hw6
  obtain ⟨hp_10, hp_11, hp_12⟩ := hp
  have hp_10 : 0 ≤ nwants_7.toInt := hp_10
  have hp_11 : nwants_7.toInt ≤ 10 := hp_11
  refine lv_aload_n (pc := 6) E.1 E.2.1 dX6_search_6 rfl (lv_at hl3 0 rfl) ?_
  refine lv_aload_n (pc := 7) E.1 E.2.1 dX6_search_7 rfl (lv_at hl3 1 rfl) ?_
  refine ck_v (pc := 8) (ws' := (fun (u : (Nat → Int32) × (Nat → Int32) × (Nat → Int32)) => (WZ_PVO cI cJ mv mr (upd mi 8 nwants_7) (va_up (va_up (va_up (va_up mf 6 u.1) 7 gwanted_8) 49 u.2.1) 50 u.2.2) mg))) [true, true, true, true, true, true, true, true, true, true, true, true, true, true, true, true, true, true, true, true, true, true, true, true, true, true, true, true, true, true, true, true, true, true, true, true, true, true, true, true, true, true, true, true, true, true, true, true, true, true, true, true, true, true, true, true, true] hw9 rfl (fun hC_ => (rn_V (As := [.ref (mr 11)]) (rest := []) E hw9 (t_gatherHops l D cI cJ _ mr (upd mi 8 nwants_7) (va_up mf 7 gwanted_8) mg (vl [mv 0]) h0 h1 h2 a_p_from a_p_to) (gdV q_1201 q_1203 q_32 q_170 q_1204) hdV_X6_gatherHops ⟨rfl, rfl⟩ ⟨(Nat.le_of_ble_eq_true rfl), (Nat.le_of_ble_eq_true rfl)⟩ ⟨(Nat.le_of_ble_eq_true rfl), (Nat.le_of_ble_eq_true rfl)⟩ xT_b xT_at 0 6 rfl rfl rfl _ hC_ (nd_T _ 0) rfl hl3.1 rfl (Nat.le_of_ble_eq_true rfl) dX6_search_8)) rfl (fun _ => rfl) (fun _ => rfl) (fun u_13 H1 locs hp hw15 => ?_)
  obtain ⟨ghops_16, gpmeasured_17, gpmeasuredIn_18⟩ := u_13
  generalize H1 = H at hw15 ⊢
  have hw19 : WD D A s.heap (WZ_PVO cI cJ mv mr (upd mi 8 nwants_7) (va_up (va_up (va_up (va_up mf 6 ghops_16) 7 gwanted_8) 49 gpmeasured_17) 50 gpmeasuredIn_18) mg) H locs := hw15
  refine lv_aload_n (pc := 11) E.1 E.2.1 dX6_search_11 rfl (lv_at hl3 1 rfl) ?_
  refine x_get (pc := 12) (T := TX10) (N := 17) (ci := 10) (v := .ref (mr 34)) E hw19 inX10 7 1 q_462 rfl rfl (by decide) rfl rfl dX6_search_12 ?_
  refine x_get (pc := 15) (T := TX1) (N := 9) (ci := 1) (v := .int (mi 40)) E hw19 inX1 19 5 q_280 rfl rfl (by decide) rfl rfl dX6_search_15 ?_
  refine lv_istore_n (pc := 18) (lv' := [(3, .int (mi 40)), (0, .ref (mr 0)), (1, .ref (mr 11)), (2, .int z_n)]) E.1 E.2.1 dX6_search_18 rfl hl3 (by decide) rfl (fun ls hl20 => ?_)
  refine lv_iconst (pc := 19) (v := 1) E.1 E.2.1 dX6_search_19 (by decide +kernel) ?_
  refine lv_aload_n (pc := 20) E.1 E.2.1 dX6_search_20 rfl (lv_at hl20 1 rfl) ?_
  refine x_get (pc := 21) (T := TX6) (N := 10) (ci := 6) (v := .int nwants_7) E hw19 inX6 0 7 q_1169 rfl rfl (by decide) rfl rfl dX6_search_21 ?_
  refine lv_ishl (pc := 24) E.1 E.2.1 dX6_search_24 ?_
  refine lv_topi (fun v_21 ev_21 => ?_)
  have hb1v_21 : 1 ≤ v_21.toInt ∧ v_21.toInt ≤ 1024 := by rw [ev_21]; exact shl10 (by omega)
  refine lv_istore (pc := 25) (lv' := [(4, .int v_21), (3, .int (mi 40)), (0, .ref (mr 0)), (1, .ref (mr 11)), (2, .int z_n)]) E.1 E.2.1 dX6_search_25 hl20 (by decide) rfl (fun ls hl22 => ?_)
  refine lv_iconst (pc := 27) (v := 0) E.1 E.2.1 dX6_search_27 (by decide +kernel) ?_
  refine lv_istore (pc := 28) (lv' := [(5, .int 0), (4, .int v_21), (3, .int (mi 40)), (0, .ref (mr 0)), (1, .ref (mr 11)), (2, .int z_n)]) E.1 E.2.1 dX6_search_28 hl22 (by decide) rfl (fun ls hl23 => ?_)
  have loop_24 : ∀ (k : Nat) (x_25 : Int32) (g_26 : Nat → Int64) (H : Heap) (locs : List Loc) (ls : Array Slot), (0 ≤ x_25.toInt) ∧ (x_25.toInt ≤ 10240) → 10240 - x_25.toInt < (k : Int) → WD D A s.heap (WZ_PVO cI cJ mv mr (upd mi 8 nwants_7) (va_up (va_up (va_up (va_up mf 6 ghops_16) 7 gwanted_8) 49 gpmeasured_17) 50 gpmeasuredIn_18) (va_up mg 4 g_26)) H locs → lv_has ls 8 [(5, .int x_25), (4, .int v_21), (3, .int (mi 40)), (0, .ref (mr 0)), (1, .ref (mr 11)), (2, .int z_n)] → W p l e ({ frames := 5, cells := 0, slots := 0, locals := 139 } : Room) s m ([.ref (mr 0), .ref (mr 11), .int z_n] : List Value).toArray below meth c H locs 0 0 (MQ below (va_Qv (fun (u : Int32 × (Nat → Int32) × (Nat → Int32) × (Nat → Int64) × (Nat → Int64) × (Nat → Int32) × (Nat → Int32) × Int32 × (Nat → Int64) × Int32 × (Nat → Int32) × (Nat → Int32)) => (u.2.2.2.2.2.2.2.2.2.1.toInt = z_n.toInt) ∧ (0 ≤ u.1.toInt) ∧ (u.1.toInt ≤ 10) ∧ (s1k u.2.2.2.2.2.1) ∧ (s1k u.2.2.2.2.2.2.1) ∧ (w9 u.2.1)) (fun u => QW D cI cJ A ((fun (u : Int32 × (Nat → Int32) × (Nat → Int32) × (Nat → Int64) × (Nat → Int64) × (Nat → Int32) × (Nat → Int32) × Int32 × (Nat → Int64) × Int32 × (Nat → Int32) × (Nat → Int32)) => (WZ_PVO cI cJ mv mr (upd (upd (upd mi 8 u.1) 2 u.2.2.2.2.2.2.2.1) 1 u.2.2.2.2.2.2.2.2.2.1) (va_up (va_up (va_up (va_up (va_up (va_up mf 7 u.2.1) 6 u.2.2.1) 9 u.2.2.2.2.2.1) 10 u.2.2.2.2.2.2.1) 49 u.2.2.2.2.2.2.2.2.2.2.1) 50 u.2.2.2.2.2.2.2.2.2.2.2) (va_up (va_up (va_up mg 4 u.2.2.2.1) 5 u.2.2.2.2.1) 3 u.2.2.2.2.2.2.2.2.1))) u)) A) ([.ref (mr 0), .ref (mr 11), .int z_n] : List Value).toArray s 0 0 A) (F0 m 30 ls []) := by
    intro k
    induction k with
    | zero =>
      intro x_25 g_26 _ _ _ hinv hm
      obtain ⟨hi_26_0, hi_26_1⟩ := hinv
      exact absurd hm (by omega)
    | succ k ih_27 =>
      intro x_25 g_26 H locs ls hinv hm hw28 hl29
      obtain ⟨hi_26_0, hi_26_1⟩ := hinv
      refine lv_iload (pc := 30) E.1 E.2.1 dX6_search_30 (lv_at hl29 0 rfl) ?_
      refine lv_iload_n (pc := 32) E.1 E.2.1 dX6_search_32 rfl (lv_at hl29 2 rfl) ?_
      refine lv_iload (pc := 33) E.1 E.2.1 dX6_search_33 (lv_at hl29 1 rfl) ?_
      refine lv_imul (pc := 35) E.1 E.2.1 dX6_search_35 ?_
      refine lv_topi (fun v_30 ev_30 => ?_)
      have hbv_30 : 0 ≤ v_30.toInt ∧ v_30.toInt ≤ 10240 := by rw [ev_30]; exact mulB (a := 10) (b := 1024) (by omega) (by omega) (by decide)
      refine lv_icmp_ge (pc := 36) (tgt := 65) E.1 E.2.1 dX6_search_36 (by decide) (fun c_31 => ?_) (fun c_31 => ?_)
      · skip
        have hc_31 := leE (a := v_30.toInt) (b := x_25.toInt) rfl rfl c_31
        refine lv_aload_n (pc := 65) E.1 E.2.1 dX6_search_65 rfl (lv_at hl29 4 rfl) ?_
        refine x_get (pc := 66) (T := TX10) (N := 17) (ci := 10) (v := .ref (mr 34)) E hw28 inX10 7 1 q_462 rfl rfl (by decide) rfl rfl dX6_search_66 ?_
        refine lv_aload_n (pc := 69) E.1 E.2.1 dX6_search_69 rfl (lv_at hl29 4 rfl) ?_
        refine x_get (pc := 70) (T := TX10) (N := 17) (ci := 10) (v := .ref (mr 21)) E hw28 inX10 7 0 q_459 rfl rfl (by decide) rfl rfl dX6_search_70 ?_
        refine x_get (pc := 73) (T := TX4) (N := 12) (ci := 4) (v := .int (mi 28)) E hw28 inX4 13 6 q_214 rfl rfl (by decide) rfl rfl dX6_search_73 ?_
        refine ck_i (pc := 76) (ws' := (fun (u : Unit) => (WZ_PVO cI cJ mv mr (upd mi 8 nwants_7) (va_up (va_up (va_up (va_up mf 6 ghops_16) 7 gwanted_8) 49 gpmeasured_17) 50 gpmeasuredIn_18) (va_up mg 4 g_26)))) [false, false, false, false, false, false, false, false, false, false, false, false, false, false, false, false, false, false, false, true, true, true, true, true, true, true, true, false, false, false, false, false, false, false, false, false, false, false, false, false, false, false, false, false, false, false, false, false, false, false, false, false, false, false, false, false, false] hw28 rfl (fun hC_ => (rn_V (As := [.int (mi 28)]) (rest := []) E hw28 (t_has l D cI cJ _ (shf 34 mr) (shf 34 (upd mi 8 nwants_7)) (shf 34 (va_up (va_up (va_up (va_up mf 6 ghops_16) 7 gwanted_8) 49 gpmeasured_17) 50 gpmeasuredIn_18)) (shf 34 (va_up mg 4 g_26)) (mi 28) (vl [mv 0])) (gdV q_1207 q_675 q_676 q_154 q_677) hdV_X1_has ⟨rfl, rfl⟩ ⟨(Nat.le_of_ble_eq_true rfl), (Nat.le_of_ble_eq_true rfl)⟩ ⟨(Nat.le_of_ble_eq_true rfl), (Nat.le_of_ble_eq_true rfl)⟩ xT_b xT_at 19 1 rfl rfl rfl _ hC_ (nd_T _ 0) rfl hl29.1 rfl (Nat.le_of_ble_eq_true rfl) dX6_search_76)) rfl (fun _ => rfl) (fun _ => rfl) (fun r_33 u_32 H1 locs hp hw34 => ?_)
        generalize H1 = H at hw34 ⊢
        have hw35 : WD D A s.heap (WZ_PVO cI cJ mv mr (upd mi 8 nwants_7) (va_up (va_up (va_up (va_up mf 6 ghops_16) 7 gwanted_8) 49 gpmeasured_17) 50 gpmeasuredIn_18) (va_up mg 4 g_26)) H locs := hw34
        have hp_36 := hp
        rcases hp_36 with ⟨rfl, ha_37, ha_38, ha_39⟩ | ⟨rfl, ha_40⟩ | ⟨rfl, ha_41⟩ | ⟨rfl, ha_42⟩
        · skip
          have ha_37 : 0 ≤ (mi 28).toInt := ha_37
          have ha_38 : (mi 28).toInt + 1 ≤ (mi 40).toInt := ha_38
          have ha_39 : (mi 28).toInt ≤ 9 := ha_39
          refine lv_if_eq (pc := 79) (tgt := 95) E.1 E.2.1 dX6_search_79 (by decide) (fun c_43 => absurd c_43 (mneE (a := 1) (b := 0) (by decide +kernel) (by decide +kernel) (by omega))) (fun _ => ?_)
          refine lv_aload_n (pc := 82) E.1 E.2.1 dX6_search_82 rfl (lv_at hl29 3 rfl) ?_
          refine x_get (pc := 83) (T := TX6) (N := 10) (ci := 6) (v := .ref (mr 4)) E hw35 inX6 0 3 q_1165 rfl rfl (by decide) rfl rfl dX6_search_83 ?_
          refine lv_aload_n (pc := 86) E.1 E.2.1 dX6_search_86 rfl (lv_at hl29 4 rfl) ?_
          refine x_get (pc := 87) (T := TX10) (N := 17) (ci := 10) (v := .ref (mr 21)) E hw35 inX10 7 0 q_459 rfl rfl (by decide) rfl rfl dX6_search_87 ?_
          refine x_get (pc := 90) (T := TX4) (N := 12) (ci := 4) (v := .int (mi 28)) E hw35 inX4 13 6 q_214 rfl rfl (by decide) rfl rfl dX6_search_90 ?_
          refine lv_lconst (pc := 93) (v := 0) E.1 E.2.1 dX6_search_93 (by decide +kernel) ?_
          refine x_lastO (pc := 94) (f := g_26) (wf := fun g => (WZ_PVO cI cJ mv mr (upd mi 8 nwants_7) (va_up (va_up (va_up (va_up mf 6 ghops_16) 7 gwanted_8) 49 gpmeasured_17) 50 gpmeasuredIn_18) (va_up mg 4 g))) E hw35 1 rfl (inbE (a := (mi 28).toInt) rfl (by omega)) (fun _ => rfl) dX6_search_94 (fun g_44 H locs hw45 => ?_)
          refine lv_iload_n (pc := 95) E.1 E.2.1 dX6_search_95 rfl (lv_at hl29 5 rfl) ?_
          refine lv_iconst (pc := 96) (v := 1) E.1 E.2.1 dX6_search_96 (by decide +kernel) ?_
          refine lv_isub (pc := 97) E.1 E.2.1 dX6_search_97 ?_
          refine lv_topi (fun v_46 ev_46 => ?_)
          have hv_46 : v_46.toInt = z_n.toInt - 1 := by rw [ev_46]; exact subE rfl (by decide +kernel) (by omega)
          refine ck_l (pc := 98) (ws' := (fun (u : Unit) => (WZ_PVO cI cJ mv mr (upd mi 8 nwants_7) (va_up (va_up (va_up (va_up mf 6 ghops_16) 7 gwanted_8) 49 gpmeasured_17) 50 gpmeasuredIn_18) (va_up mg 4 g_44)))) [false, false, false, false, false, false, false, false, false, false, false, false, false, false, false, false, false, false, false, false, false, false, false, false, false, false, false, false, false, false, false, false, false, false, false, false, false, false, false, false, false, false, false, false, false, false, false, false, false, false, false, false, false, false, false, false, false] hw45 rfl (fun hC_ => (rn_S (As := [.int v_46]) (rest := []) E hw45 (t_power l D cI cJ _ mr (upd mi 8 nwants_7) (va_up (va_up (va_up (va_up mf 6 ghops_16) 7 gwanted_8) 49 gpmeasured_17) 50 gpmeasuredIn_18) (va_up mg 4 g_44) v_46 (by show 0 ≤ v_46.toInt ∧ v_46.toInt ≤ 9; omega)) (gdS q_1208 q_1209 q_170 q_1210) hdV_X6_power ⟨rfl, rfl⟩ ⟨(Nat.le_of_ble_eq_true rfl), (Nat.le_of_ble_eq_true rfl)⟩ ⟨(Nat.le_of_ble_eq_true rfl), (Nat.le_of_ble_eq_true rfl)⟩ xT_b xT_at _ hC_ (nd_T _ 0) rfl hl29.1 rfl (Nat.le_of_ble_eq_true rfl) dX6_search_98)) rfl (fun _ => rfl) (fun _ => rfl) (fun r_48 u_47 H1 locs hp hw49 => ?_)
          generalize H1 = H at hw49 ⊢
          have hw50 : WD D A s.heap (WZ_PVO cI cJ mv mr (upd mi 8 nwants_7) (va_up (va_up (va_up (va_up mf 6 ghops_16) 7 gwanted_8) 49 gpmeasured_17) 50 gpmeasuredIn_18) (va_up mg 4 g_44)) H locs := hw49
          have hp_51 := hp
          have hp_51 : ¬ r_48 = 0 := hp_51
          refine lv_lstore (pc := 101) (lv' := [(5, .long r_48), (4, .int v_21), (3, .int (mi 40)), (0, .ref (mr 0)), (1, .ref (mr 11)), (2, .int z_n)]) E.1 E.2.1 dX6_search_101 hl29 (by decide) rfl (fun ls hl52 => ?_)
          refine lv_iconst (pc := 103) (v := 0) E.1 E.2.1 dX6_search_103 (by decide +kernel) ?_
          refine lv_istore (pc := 104) (lv' := [(7, .int 0), (5, .long r_48), (4, .int v_21), (3, .int (mi 40)), (0, .ref (mr 0)), (1, .ref (mr 11)), (2, .int z_n)]) E.1 E.2.1 dX6_search_104 hl52 (by decide) rfl (fun ls hl53 => ?_)
          have loop_54 : ∀ (k : Nat) (x_55 : Int32) (w_56 : Int64) (g_57 : Nat → Int64) (g_58 : Nat → Int64) (g_59 : Nat → Int32) (g_60 : Nat → Int32) (H : Heap) (locs : List Loc) (ls : Array Slot), (0 ≤ x_55.toInt) ∧ (x_55.toInt ≤ z_n.toInt) ∧ s1k g_59 ∧ s1k g_60 → z_n.toInt - x_55.toInt < (k : Int) → WD D A s.heap (WZ_PVO cI cJ mv mr (upd mi 8 nwants_7) (va_up (va_up (va_up (va_up (va_up (va_up mf 6 ghops_16) 7 gwanted_8) 9 g_59) 10 g_60) 49 gpmeasured_17) 50 gpmeasuredIn_18) (va_up (va_up mg 4 g_57) 5 g_58)) H locs → lv_has ls 8 [(7, .int x_55), (5, .long w_56), (4, .int v_21), (3, .int (mi 40)), (0, .ref (mr 0)), (1, .ref (mr 11)), (2, .int z_n)] → W p l e ({ frames := 5, cells := 0, slots := 0, locals := 139 } : Room) s m ([.ref (mr 0), .ref (mr 11), .int z_n] : List Value).toArray below meth c H locs 0 0 (MQ below (va_Qv (fun (u : Int32 × (Nat → Int32) × (Nat → Int32) × (Nat → Int64) × (Nat → Int64) × (Nat → Int32) × (Nat → Int32) × Int32 × (Nat → Int64) × Int32 × (Nat → Int32) × (Nat → Int32)) => (u.2.2.2.2.2.2.2.2.2.1.toInt = z_n.toInt) ∧ (0 ≤ u.1.toInt) ∧ (u.1.toInt ≤ 10) ∧ (s1k u.2.2.2.2.2.1) ∧ (s1k u.2.2.2.2.2.2.1) ∧ (w9 u.2.1)) (fun u => QW D cI cJ A ((fun (u : Int32 × (Nat → Int32) × (Nat → Int32) × (Nat → Int64) × (Nat → Int64) × (Nat → Int32) × (Nat → Int32) × Int32 × (Nat → Int64) × Int32 × (Nat → Int32) × (Nat → Int32)) => (WZ_PVO cI cJ mv mr (upd (upd (upd mi 8 u.1) 2 u.2.2.2.2.2.2.2.1) 1 u.2.2.2.2.2.2.2.2.2.1) (va_up (va_up (va_up (va_up (va_up (va_up mf 7 u.2.1) 6 u.2.2.1) 9 u.2.2.2.2.2.1) 10 u.2.2.2.2.2.2.1) 49 u.2.2.2.2.2.2.2.2.2.2.1) 50 u.2.2.2.2.2.2.2.2.2.2.2) (va_up (va_up (va_up mg 4 u.2.2.2.1) 5 u.2.2.2.2.1) 3 u.2.2.2.2.2.2.2.2.1))) u)) A) ([.ref (mr 0), .ref (mr 11), .int z_n] : List Value).toArray s 0 0 A) (F0 m 106 ls []) := by
            intro k
            induction k with
            | zero =>
              intro x_55 w_56 g_57 g_58 g_59 g_60 _ _ _ hinv hm
              obtain ⟨hi_60_0, hi_60_1, hi_60_2, hi_60_3⟩ := hinv
              exact absurd hm (by omega)
            | succ k ih_61 =>
              intro x_55 w_56 g_57 g_58 g_59 g_60 H locs ls hinv hm hw62 hl63
              obtain ⟨hi_60_0, hi_60_1, hi_60_2, hi_60_3⟩ := hinv
              refine lv_iload (pc := 106) E.1 E.2.1 dX6_search_106 (lv_at hl63 0 rfl) ?_
              refine lv_iload_n (pc := 108) E.1 E.2.1 dX6_search_108 rfl (lv_at hl63 6 rfl) ?_
              refine lv_icmp_ge (pc := 109) (tgt := 155) E.1 E.2.1 dX6_search_109 (by decide) (fun c_64 => ?_) (fun c_64 => ?_)
              · skip
                have hc_64 := leE (a := z_n.toInt) (b := x_55.toInt) rfl rfl c_64
                refine lv_aload_n (pc := 155) E.1 E.2.1 dX6_search_155 rfl (lv_at hl63 4 rfl) ?_
                refine lv_aload_n (pc := 156) E.1 E.2.1 dX6_search_156 rfl (lv_at hl63 5 rfl) ?_
                refine lv_iload_n (pc := 157) E.1 E.2.1 dX6_search_157 rfl (lv_at hl63 3 rfl) ?_
                refine lv_iload (pc := 158) E.1 E.2.1 dX6_search_158 (lv_at hl63 2 rfl) ?_
                refine ck_v (pc := 160) (ws' := (fun (u : Int32 × (Nat → Int64)) => (WZ_PVO cI cJ mv mr (upd (upd mi 2 u.1) 8 nwants_7) (va_up (va_up (va_up (va_up (va_up (va_up mf 6 ghops_16) 7 gwanted_8) 9 g_59) 10 g_60) 49 gpmeasured_17) 50 gpmeasuredIn_18) (va_up (va_up (va_up mg 3 u.2) 4 g_57) 5 g_58)))) [true, true, true, true, true, true, true, true, true, true, true, true, true, true, true, true, true, true, true, true, true, true, true, true, true, true, true, true, true, true, true, true, true, true, true, true, true, true, true, true, true, true, true, true, true, true, true, true, true, true, true, true, true, true, true, true, true] hw62 rfl (fun hC_ => (rn_V (As := [.ref (mr 11), .int (mi 40), .int v_21]) (rest := []) E hw62 (t_choose l D cI cJ _ mr (upd mi 8 nwants_7) (va_up (va_up (va_up (va_up (va_up (va_up mf 6 ghops_16) 7 gwanted_8) 9 g_59) 10 g_60) 49 gpmeasured_17) 50 gpmeasuredIn_18) (va_up (va_up mg 4 g_57) 5 g_58) (mi 40) v_21 (vl [mv 0]) h0 h1 h2 ⟨hp_10, hp_11⟩ h0 (by show 1 ≤ v_21.toInt ∧ v_21.toInt ≤ 1024; omega) hp_12) (gdV q_1230 q_1232 q_37 q_170 q_1233) hdV_X6_choose ⟨rfl, rfl⟩ ⟨(Nat.le_of_ble_eq_true rfl), (Nat.le_of_ble_eq_true rfl)⟩ ⟨(Nat.le_of_ble_eq_true rfl), (Nat.le_of_ble_eq_true rfl)⟩ xT_b xT_at 0 6 rfl rfl rfl _ hC_ (nd_T _ 0) rfl hl63.1 rfl (Nat.le_of_ble_eq_true rfl) dX6_search_160)) rfl (fun _ => rfl) (fun _ => rfl) (fun u_65 H1 locs hp hw67 => ?_)
                obtain ⟨nmostWorth_68, gleastCost_69⟩ := u_65
                generalize H1 = H at hw67 ⊢
                have hw70 : WD D A s.heap (WZ_PVO cI cJ mv mr (upd (upd mi 2 nmostWorth_68) 8 nwants_7) (va_up (va_up (va_up (va_up (va_up (va_up mf 6 ghops_16) 7 gwanted_8) 9 g_59) 10 g_60) 49 gpmeasured_17) 50 gpmeasuredIn_18) (va_up (va_up (va_up mg 3 gleastCost_69) 4 g_57) 5 g_58)) H locs := hw67
                refine lv_aload_n (pc := 163) E.1 E.2.1 dX6_search_163 rfl (lv_at hl63 4 rfl) ?_
                refine lv_iload_n (pc := 164) E.1 E.2.1 dX6_search_164 rfl (lv_at hl63 6 rfl) ?_
                refine x_put (pc := 165) (T := TX6) (N := 10) (ci := 6) (ws' := (WZ_PVO cI cJ mv mr (upd (upd (upd mi 1 z_n) 2 nmostWorth_68) 8 nwants_7) (va_up (va_up (va_up (va_up (va_up (va_up mf 6 ghops_16) 7 gwanted_8) 9 g_59) 10 g_60) 49 gpmeasured_17) 50 gpmeasuredIn_18) (va_up (va_up (va_up mg 3 gleastCost_69) 4 g_57) 5 g_58))) E hw70 inX6 tyX6_ok nmX6 0 0 q_1160 rfl rfl (by decide) rfl rfl rfl rfl (Nat.le_of_ble_eq_true rfl) rfl dX6_search_165 (fun H locs hw71 => ?_)
                exact em_v (w1 := (fun (u : Int32 × (Nat → Int32) × (Nat → Int32) × (Nat → Int64) × (Nat → Int64) × (Nat → Int32) × (Nat → Int32) × Int32 × (Nat → Int64) × Int32 × (Nat → Int32) × (Nat → Int32)) => (WZ_PVO cI cJ mv mr (upd (upd (upd mi 8 u.1) 2 u.2.2.2.2.2.2.2.1) 1 u.2.2.2.2.2.2.2.2.2.1) (va_up (va_up (va_up (va_up (va_up (va_up mf 7 u.2.1) 6 u.2.2.1) 9 u.2.2.2.2.2.1) 10 u.2.2.2.2.2.2.1) 49 u.2.2.2.2.2.2.2.2.2.2.1) 50 u.2.2.2.2.2.2.2.2.2.2.2) (va_up (va_up (va_up mg 4 u.2.2.2.1) 5 u.2.2.2.2.1) 3 u.2.2.2.2.2.2.2.2.1)))) E hr hlk (nwants_7, gwanted_8, ghops_16, g_57, g_58, g_59, g_60, nmostWorth_68, gleastCost_69, z_n, gpmeasured_17, gpmeasuredIn_18) hw71 ⟨rfl, hp_10, hp_11, hi_60_2, hi_60_3, hp_12⟩ (Nat.le_of_ble_eq_true rfl) (Nat.le_of_ble_eq_true rfl) dX6_search_168
              · skip
                have hc_64 := nleE (a := z_n.toInt) (b := x_55.toInt) rfl rfl c_64
                refine lv_aload_n (pc := 112) E.1 E.2.1 dX6_search_112 rfl (lv_at hl63 4 rfl) ?_
                refine lv_aload_n (pc := 113) E.1 E.2.1 dX6_search_113 rfl (lv_at hl63 5 rfl) ?_
                refine lv_iload (pc := 114) E.1 E.2.1 dX6_search_114 (lv_at hl63 0 rfl) ?_
                refine ck_v (pc := 116) (ws' := (fun (u : (Nat → Int32) × (Nat → Int32)) => (WZ_PVO cI cJ mv mr (upd mi 8 nwants_7) (va_up (va_up (va_up (va_up (va_up (va_up mf 6 ghops_16) 7 gwanted_8) 9 u.1) 10 u.2) 49 gpmeasured_17) 50 gpmeasuredIn_18) (va_up (va_up mg 4 g_57) 5 g_58)))) [true, true, true, true, true, true, true, true, true, true, true, true, true, true, true, true, true, true, true, true, true, true, true, true, true, true, true, true, true, true, true, true, true, true, true, true, true, true, true, true, true, true, true, true, true, true, true, true, true, true, true, true, true, true, true, true, true] hw62 rfl (fun hC_ => (rn_V (As := [.ref (mr 11), .int x_55]) (rest := []) E hw62 (t_gatherServed l D cI cJ _ mr (upd mi 8 nwants_7) (va_up (va_up (va_up (va_up (va_up (va_up mf 6 ghops_16) 7 gwanted_8) 9 g_59) 10 g_60) 49 gpmeasured_17) 50 gpmeasuredIn_18) (va_up (va_up mg 4 g_57) 5 g_58) x_55 (vl [mv 0]) h0 h1 h2 ⟨hp_10, hp_11⟩ hi_60_2 hi_60_3 hp_12) (gdV q_1212 q_1214 q_33 q_170 q_1215) hdV_X6_gatherServed ⟨rfl, rfl⟩ ⟨(Nat.le_of_ble_eq_true rfl), (Nat.le_of_ble_eq_true rfl)⟩ ⟨(Nat.le_of_ble_eq_true rfl), (Nat.le_of_ble_eq_true rfl)⟩ xT_b xT_at 0 6 rfl rfl rfl _ hC_ (nd_T _ 0) rfl hl63.1 rfl (Nat.le_of_ble_eq_true rfl) dX6_search_116)) rfl (fun _ => rfl) (fun _ => rfl) (fun u_72 H1 locs hp hw74 => ?_)
                obtain ⟨gserved_75, gwed_76⟩ := u_72
                generalize H1 = H at hw74 ⊢
                have hw77 : WD D A s.heap (WZ_PVO cI cJ mv mr (upd mi 8 nwants_7) (va_up (va_up (va_up (va_up (va_up (va_up mf 6 ghops_16) 7 gwanted_8) 9 gserved_75) 10 gwed_76) 49 gpmeasured_17) 50 gpmeasuredIn_18) (va_up (va_up mg 4 g_57) 5 g_58)) H locs := hw74
                obtain ⟨hp_78, hp_79⟩ := hp
                refine lv_aload_n (pc := 119) E.1 E.2.1 dX6_search_119 rfl (lv_at hl63 4 rfl) ?_
                refine lv_iload_n (pc := 120) E.1 E.2.1 dX6_search_120 rfl (lv_at hl63 3 rfl) ?_
                refine lv_iload (pc := 121) E.1 E.2.1 dX6_search_121 (lv_at hl63 2 rfl) ?_
                refine lv_iload (pc := 123) E.1 E.2.1 dX6_search_123 (lv_at hl63 0 rfl) ?_
                refine lv_if_ne (pc := 125) (tgt := 135) E.1 E.2.1 dX6_search_125 (by decide) (fun c_80 => ?_) (fun c_80 => ?_)
                · skip
                  have hc_80 := neE (a := x_55.toInt) (b := 0) rfl (by decide +kernel) c_80
                  refine lv_null (pc := 135) E.1 E.2.1 dX6_search_135 ?_
                  refine lv_lload (pc := 136) E.1 E.2.1 dX6_search_136 (lv_at hl63 1 rfl) ?_
                  refine ck_v (pc := 138) (ws' := (fun (u : (Nat → Int64) × (Nat → Int64)) => (WZ_PVO cI cJ mv mr (upd mi 8 nwants_7) (va_up (va_up (va_up (va_up (va_up (va_up mf 6 ghops_16) 7 gwanted_8) 9 gserved_75) 10 gwed_76) 49 gpmeasured_17) 50 gpmeasuredIn_18) (va_up (va_up mg 4 u.1) 5 u.2)))) [true, true, true, true, true, true, true, false, false, false, false, false, false, false, false, false, false, false, false, false, false, false, false, false, false, false, false, false, false, false, false, false, false, false, false, false, false, false, false, false, false, false, false, false, false, false, false, false, false, false, false, false, false, false, false, false, false] hw77 rfl (fun hC_ => (rn_V (As := [.int (mi 40), .int v_21, .null, .long w_56]) (rest := []) E hw77 (t_spreadNight_n l D cI cJ _ mr (upd mi 8 nwants_7) (va_up (va_up (va_up (va_up (va_up (va_up mf 6 ghops_16) 7 gwanted_8) 9 gserved_75) 10 gwed_76) 49 gpmeasured_17) 50 gpmeasuredIn_18) (va_up (va_up mg 4 g_57) 5 g_58) (mi 40) v_21 w_56 h0 (by show 1 ≤ v_21.toInt ∧ v_21.toInt ≤ 1024; omega) hp_78 hp_79) (gdV q_1216 q_1218 q_34 q_170 q_1219) hdV_X6_spreadNight ⟨rfl, rfl⟩ ⟨(Nat.le_of_ble_eq_true rfl), (Nat.le_of_ble_eq_true rfl)⟩ ⟨(Nat.le_of_ble_eq_true rfl), (Nat.le_of_ble_eq_true rfl)⟩ xT_b xT_at 0 6 rfl rfl rfl _ hC_ (nd_T _ 0) rfl hl63.1 rfl (Nat.le_of_ble_eq_true rfl) dX6_search_138)) rfl (fun _ => rfl) (fun _ => rfl) (fun u_81 H1 locs hp hw83 => ?_)
                  obtain ⟨gcosts_84, glifted_85⟩ := u_81
                  generalize H1 = H at hw83 ⊢
                  have hw86 : WD D A s.heap (WZ_PVO cI cJ mv mr (upd mi 8 nwants_7) (va_up (va_up (va_up (va_up (va_up (va_up mf 6 ghops_16) 7 gwanted_8) 9 gserved_75) 10 gwed_76) 49 gpmeasured_17) 50 gpmeasuredIn_18) (va_up (va_up mg 4 gcosts_84) 5 glifted_85)) H locs := hw83
                  refine lv_lload (pc := 141) E.1 E.2.1 dX6_search_141 (lv_at hl63 1 rfl) ?_
                  refine lv_ldc2 (pc := 143) (v := 10) E.1 E.2.1 E.2.2.2.1 (E.2.2.2.2.1 _ q_1211) dX6_search_143 ?_
                  refine lv_ldiv (pc := 146) E.1 E.2.1 dX6_search_146 (by decide +kernel) ?_
                  refine lv_topl (fun w_87 ew_87 => ?_)
                  refine lv_lstore (pc := 147) (lv' := [(5, .long w_87), (7, .int x_55), (4, .int v_21), (3, .int (mi 40)), (0, .ref (mr 0)), (1, .ref (mr 11)), (2, .int z_n)]) E.1 E.2.1 dX6_search_147 hl63 (by decide) rfl (fun ls hl88 => ?_)
                  obtain ⟨v_89, ev_89⟩ : ∃ z : Int32, x_55 + Int32.ofInt (1) = z := ⟨_, rfl⟩
                  have hv_89 : v_89.toInt = x_55.toInt + (1) := by rw [← ev_89]; exact incE rfl (by decide) (by omega)
                  refine lv_iinc (pc := 149) (v := v_89) (lv' := [(7, .int v_89), (5, .long w_87), (4, .int v_21), (3, .int (mi 40)), (0, .ref (mr 0)), (1, .ref (mr 11)), (2, .int z_n)]) E.1 E.2.1 dX6_search_149 hl88 (k := 1) rfl ev_89 (by decide) rfl (fun ls hl90 => ?_)
                  refine lv_goto (pc := 152) (tgt := 106) E.1 E.2.1 dX6_search_152 (by decide) ?_
                  exact ih_61 v_89 w_87 gcosts_84 glifted_85 gserved_75 gwed_76 _ _ _ ⟨(by show 0 ≤ v_89.toInt; omega), (by show v_89.toInt ≤ z_n.toInt; omega), hp_78, hp_79⟩ (by omega) hw86 (lv_sub hl90 [0, 1, 2, 3, 4, 5, 6] rfl)
                · skip
                  have hc_80 := eqE (a := x_55.toInt) (b := 0) rfl (by decide +kernel) c_80
                  refine lv_aload_n (pc := 128) E.1 E.2.1 dX6_search_128 rfl (lv_at hl63 5 rfl) ?_
                  refine x_get (pc := 129) (T := TX10) (N := 17) (ci := 10) (v := .ref (mr 21)) E hw77 inX10 7 0 q_459 rfl rfl (by decide) rfl rfl dX6_search_129 ?_
                  refine lv_goto (pc := 132) (tgt := 136) E.1 E.2.1 dX6_search_132 (by decide) ?_
                  refine lv_lload (pc := 136) E.1 E.2.1 dX6_search_136 (lv_at hl63 1 rfl) ?_
                  refine ck_v (pc := 138) (ws' := (fun (u : (Nat → Int64) × (Nat → Int64)) => (WZ_PVO cI cJ mv mr (upd mi 8 nwants_7) (va_up (va_up (va_up (va_up (va_up (va_up mf 6 ghops_16) 7 gwanted_8) 9 gserved_75) 10 gwed_76) 49 gpmeasured_17) 50 gpmeasuredIn_18) (va_up (va_up mg 4 u.1) 5 u.2)))) [true, true, true, true, true, true, true, false, false, false, false, false, false, true, true, true, true, true, true, false, false, false, false, false, false, false, false, false, false, false, false, false, false, false, false, false, false, false, false, false, false, false, false, false, false, false, false, false, false, false, false, false, false, false, false, false, false] hw77 rfl (fun hC_ => (rn_V (As := [.int (mi 40), .int v_21, .ref (mr 21), .long w_56]) (rest := []) E hw77 (t_spreadNight_s l D cI cJ _ (shg 11 0 10 mr) (shg 11 0 10 (upd mi 8 nwants_7)) (shg 11 0 10 (va_up (va_up (va_up (va_up (va_up (va_up mf 6 ghops_16) 7 gwanted_8) 9 gserved_75) 10 gwed_76) 49 gpmeasured_17) 50 gpmeasuredIn_18)) (shg 11 0 10 (va_up (va_up mg 4 g_57) 5 g_58)) (mi 40) v_21 w_56 h0 (by show 1 ≤ v_21.toInt ∧ v_21.toInt ≤ 1024; omega) hp_78 hp_79) (gdV q_1216 q_1218 q_34 q_170 q_1219) hdV_X6_spreadNight ⟨rfl, rfl⟩ ⟨(Nat.le_of_ble_eq_true rfl), (Nat.le_of_ble_eq_true rfl)⟩ ⟨(Nat.le_of_ble_eq_true rfl), (Nat.le_of_ble_eq_true rfl)⟩ xT_b xT_at 0 6 rfl rfl rfl _ hC_ (nd_T _ 0) rfl hl63.1 rfl (Nat.le_of_ble_eq_true rfl) dX6_search_138)) rfl (fun _ => rfl) (fun _ => rfl) (fun u_91 H1 locs hp hw93 => ?_)
                  obtain ⟨gcosts_94, glifted_95⟩ := u_91
                  generalize H1 = H at hw93 ⊢
                  have hw96 : WD D A s.heap (WZ_PVO cI cJ mv mr (upd mi 8 nwants_7) (va_up (va_up (va_up (va_up (va_up (va_up mf 6 ghops_16) 7 gwanted_8) 9 gserved_75) 10 gwed_76) 49 gpmeasured_17) 50 gpmeasuredIn_18) (va_up (va_up mg 4 gcosts_94) 5 glifted_95)) H locs := hw93
                  refine lv_lload (pc := 141) E.1 E.2.1 dX6_search_141 (lv_at hl63 1 rfl) ?_
                  refine lv_ldc2 (pc := 143) (v := 10) E.1 E.2.1 E.2.2.2.1 (E.2.2.2.2.1 _ q_1211) dX6_search_143 ?_
                  refine lv_ldiv (pc := 146) E.1 E.2.1 dX6_search_146 (by decide +kernel) ?_
                  refine lv_topl (fun w_97 ew_97 => ?_)
                  refine lv_lstore (pc := 147) (lv' := [(5, .long w_97), (7, .int x_55), (4, .int v_21), (3, .int (mi 40)), (0, .ref (mr 0)), (1, .ref (mr 11)), (2, .int z_n)]) E.1 E.2.1 dX6_search_147 hl63 (by decide) rfl (fun ls hl98 => ?_)
                  obtain ⟨v_99, ev_99⟩ : ∃ z : Int32, x_55 + Int32.ofInt (1) = z := ⟨_, rfl⟩
                  have hv_99 : v_99.toInt = x_55.toInt + (1) := by rw [← ev_99]; exact incE rfl (by decide) (by omega)
                  refine lv_iinc (pc := 149) (v := v_99) (lv' := [(7, .int v_99), (5, .long w_97), (4, .int v_21), (3, .int (mi 40)), (0, .ref (mr 0)), (1, .ref (mr 11)), (2, .int z_n)]) E.1 E.2.1 dX6_search_149 hl98 (k := 1) rfl ev_99 (by decide) rfl (fun ls hl100 => ?_)
                  refine lv_goto (pc := 152) (tgt := 106) E.1 E.2.1 dX6_search_152 (by decide) ?_
                  exact ih_61 v_99 w_97 gcosts_94 glifted_95 gserved_75 gwed_76 _ _ _ ⟨(by show 0 ≤ v_99.toInt; omega), (by show v_99.toInt ≤ z_n.toInt; omega), hp_78, hp_79⟩ (by omega) hw96 (lv_sub hl100 [0, 1, 2, 3, 4, 5, 6] rfl)
          exact loop_54 (Int.toNat (z_n.toInt - 0) + 1) 0 r_48 g_44 (mg 5) (mf 9) (mf 10) _ _ _ ⟨(by show 0 ≤ (0 : Int32).toInt; have k_0 : (0 : Int32).toInt = 0 := (by decide +kernel); omega), (by show (0 : Int32).toInt ≤ z_n.toInt; have k_0 : (0 : Int32).toInt = 0 := (by decide +kernel); omega), a_served, a_wed⟩ (by have k_0 : (0 : Int32).toInt = 0 := (by decide +kernel); omega) hw50 (lv_sub hl53 [0, 1, 2, 3, 4, 5, 6] rfl)
        · skip
          have ha_40 : (mi 28).toInt + 1 ≤ 0 := ha_40
          refine lv_if_eq (pc := 79) (tgt := 95) E.1 E.2.1 dX6_search_79 (by decide) (fun _ => ?_) (fun c_101 => absurd (meqE (a := 0) (b := 0) (by decide +kernel) (by decide +kernel) (by omega)) c_101)
          refine lv_iload_n (pc := 95) E.1 E.2.1 dX6_search_95 rfl (lv_at hl29 5 rfl) ?_
          refine lv_iconst (pc := 96) (v := 1) E.1 E.2.1 dX6_search_96 (by decide +kernel) ?_
          refine lv_isub (pc := 97) E.1 E.2.1 dX6_search_97 ?_
          refine lv_topi (fun v_102 ev_102 => ?_)
          have hv_102 : v_102.toInt = z_n.toInt - 1 := by rw [ev_102]; exact subE rfl (by decide +kernel) (by omega)
          refine ck_l (pc := 98) (ws' := (fun (u : Unit) => (WZ_PVO cI cJ mv mr (upd mi 8 nwants_7) (va_up (va_up (va_up (va_up mf 6 ghops_16) 7 gwanted_8) 49 gpmeasured_17) 50 gpmeasuredIn_18) (va_up mg 4 g_26)))) [false, false, false, false, false, false, false, false, false, false, false, false, false, false, false, false, false, false, false, false, false, false, false, false, false, false, false, false, false, false, false, false, false, false, false, false, false, false, false, false, false, false, false, false, false, false, false, false, false, false, false, false, false, false, false, false, false] hw35 rfl (fun hC_ => (rn_S (As := [.int v_102]) (rest := []) E hw35 (t_power l D cI cJ _ mr (upd mi 8 nwants_7) (va_up (va_up (va_up (va_up mf 6 ghops_16) 7 gwanted_8) 49 gpmeasured_17) 50 gpmeasuredIn_18) (va_up mg 4 g_26) v_102 (by show 0 ≤ v_102.toInt ∧ v_102.toInt ≤ 9; omega)) (gdS q_1208 q_1209 q_170 q_1210) hdV_X6_power ⟨rfl, rfl⟩ ⟨(Nat.le_of_ble_eq_true rfl), (Nat.le_of_ble_eq_true rfl)⟩ ⟨(Nat.le_of_ble_eq_true rfl), (Nat.le_of_ble_eq_true rfl)⟩ xT_b xT_at _ hC_ (nd_T _ 0) rfl hl29.1 rfl (Nat.le_of_ble_eq_true rfl) dX6_search_98)) rfl (fun _ => rfl) (fun _ => rfl) (fun r_104 u_103 H1 locs hp hw105 => ?_)
          generalize H1 = H at hw105 ⊢
          have hw106 : WD D A s.heap (WZ_PVO cI cJ mv mr (upd mi 8 nwants_7) (va_up (va_up (va_up (va_up mf 6 ghops_16) 7 gwanted_8) 49 gpmeasured_17) 50 gpmeasuredIn_18) (va_up mg 4 g_26)) H locs := hw105
          have hp_107 := hp
          have hp_107 : ¬ r_104 = 0 := hp_107
          refine lv_lstore (pc := 101) (lv' := [(5, .long r_104), (4, .int v_21), (3, .int (mi 40)), (0, .ref (mr 0)), (1, .ref (mr 11)), (2, .int z_n)]) E.1 E.2.1 dX6_search_101 hl29 (by decide) rfl (fun ls hl108 => ?_)
          refine lv_iconst (pc := 103) (v := 0) E.1 E.2.1 dX6_search_103 (by decide +kernel) ?_
          refine lv_istore (pc := 104) (lv' := [(7, .int 0), (5, .long r_104), (4, .int v_21), (3, .int (mi 40)), (0, .ref (mr 0)), (1, .ref (mr 11)), (2, .int z_n)]) E.1 E.2.1 dX6_search_104 hl108 (by decide) rfl (fun ls hl109 => ?_)
          have loop_110 : ∀ (k : Nat) (x_111 : Int32) (w_112 : Int64) (g_113 : Nat → Int64) (g_114 : Nat → Int64) (g_115 : Nat → Int32) (g_116 : Nat → Int32) (H : Heap) (locs : List Loc) (ls : Array Slot), (0 ≤ x_111.toInt) ∧ (x_111.toInt ≤ z_n.toInt) ∧ s1k g_115 ∧ s1k g_116 → z_n.toInt - x_111.toInt < (k : Int) → WD D A s.heap (WZ_PVO cI cJ mv mr (upd mi 8 nwants_7) (va_up (va_up (va_up (va_up (va_up (va_up mf 6 ghops_16) 7 gwanted_8) 9 g_115) 10 g_116) 49 gpmeasured_17) 50 gpmeasuredIn_18) (va_up (va_up mg 4 g_113) 5 g_114)) H locs → lv_has ls 8 [(7, .int x_111), (5, .long w_112), (4, .int v_21), (3, .int (mi 40)), (0, .ref (mr 0)), (1, .ref (mr 11)), (2, .int z_n)] → W p l e ({ frames := 5, cells := 0, slots := 0, locals := 139 } : Room) s m ([.ref (mr 0), .ref (mr 11), .int z_n] : List Value).toArray below meth c H locs 0 0 (MQ below (va_Qv (fun (u : Int32 × (Nat → Int32) × (Nat → Int32) × (Nat → Int64) × (Nat → Int64) × (Nat → Int32) × (Nat → Int32) × Int32 × (Nat → Int64) × Int32 × (Nat → Int32) × (Nat → Int32)) => (u.2.2.2.2.2.2.2.2.2.1.toInt = z_n.toInt) ∧ (0 ≤ u.1.toInt) ∧ (u.1.toInt ≤ 10) ∧ (s1k u.2.2.2.2.2.1) ∧ (s1k u.2.2.2.2.2.2.1) ∧ (w9 u.2.1)) (fun u => QW D cI cJ A ((fun (u : Int32 × (Nat → Int32) × (Nat → Int32) × (Nat → Int64) × (Nat → Int64) × (Nat → Int32) × (Nat → Int32) × Int32 × (Nat → Int64) × Int32 × (Nat → Int32) × (Nat → Int32)) => (WZ_PVO cI cJ mv mr (upd (upd (upd mi 8 u.1) 2 u.2.2.2.2.2.2.2.1) 1 u.2.2.2.2.2.2.2.2.2.1) (va_up (va_up (va_up (va_up (va_up (va_up mf 7 u.2.1) 6 u.2.2.1) 9 u.2.2.2.2.2.1) 10 u.2.2.2.2.2.2.1) 49 u.2.2.2.2.2.2.2.2.2.2.1) 50 u.2.2.2.2.2.2.2.2.2.2.2) (va_up (va_up (va_up mg 4 u.2.2.2.1) 5 u.2.2.2.2.1) 3 u.2.2.2.2.2.2.2.2.1))) u)) A) ([.ref (mr 0), .ref (mr 11), .int z_n] : List Value).toArray s 0 0 A) (F0 m 106 ls []) := by
            intro k
            induction k with
            | zero =>
              intro x_111 w_112 g_113 g_114 g_115 g_116 _ _ _ hinv hm
              obtain ⟨hi_116_0, hi_116_1, hi_116_2, hi_116_3⟩ := hinv
              exact absurd hm (by omega)
            | succ k ih_117 =>
              intro x_111 w_112 g_113 g_114 g_115 g_116 H locs ls hinv hm hw118 hl119
              obtain ⟨hi_116_0, hi_116_1, hi_116_2, hi_116_3⟩ := hinv
              refine lv_iload (pc := 106) E.1 E.2.1 dX6_search_106 (lv_at hl119 0 rfl) ?_
              refine lv_iload_n (pc := 108) E.1 E.2.1 dX6_search_108 rfl (lv_at hl119 6 rfl) ?_
              refine lv_icmp_ge (pc := 109) (tgt := 155) E.1 E.2.1 dX6_search_109 (by decide) (fun c_120 => ?_) (fun c_120 => ?_)
              · skip
                have hc_120 := leE (a := z_n.toInt) (b := x_111.toInt) rfl rfl c_120
                refine lv_aload_n (pc := 155) E.1 E.2.1 dX6_search_155 rfl (lv_at hl119 4 rfl) ?_
                refine lv_aload_n (pc := 156) E.1 E.2.1 dX6_search_156 rfl (lv_at hl119 5 rfl) ?_
                refine lv_iload_n (pc := 157) E.1 E.2.1 dX6_search_157 rfl (lv_at hl119 3 rfl) ?_
                refine lv_iload (pc := 158) E.1 E.2.1 dX6_search_158 (lv_at hl119 2 rfl) ?_
                refine ck_v (pc := 160) (ws' := (fun (u : Int32 × (Nat → Int64)) => (WZ_PVO cI cJ mv mr (upd (upd mi 2 u.1) 8 nwants_7) (va_up (va_up (va_up (va_up (va_up (va_up mf 6 ghops_16) 7 gwanted_8) 9 g_115) 10 g_116) 49 gpmeasured_17) 50 gpmeasuredIn_18) (va_up (va_up (va_up mg 3 u.2) 4 g_113) 5 g_114)))) [true, true, true, true, true, true, true, true, true, true, true, true, true, true, true, true, true, true, true, true, true, true, true, true, true, true, true, true, true, true, true, true, true, true, true, true, true, true, true, true, true, true, true, true, true, true, true, true, true, true, true, true, true, true, true, true, true] hw118 rfl (fun hC_ => (rn_V (As := [.ref (mr 11), .int (mi 40), .int v_21]) (rest := []) E hw118 (t_choose l D cI cJ _ mr (upd mi 8 nwants_7) (va_up (va_up (va_up (va_up (va_up (va_up mf 6 ghops_16) 7 gwanted_8) 9 g_115) 10 g_116) 49 gpmeasured_17) 50 gpmeasuredIn_18) (va_up (va_up mg 4 g_113) 5 g_114) (mi 40) v_21 (vl [mv 0]) h0 h1 h2 ⟨hp_10, hp_11⟩ h0 (by show 1 ≤ v_21.toInt ∧ v_21.toInt ≤ 1024; omega) hp_12) (gdV q_1230 q_1232 q_37 q_170 q_1233) hdV_X6_choose ⟨rfl, rfl⟩ ⟨(Nat.le_of_ble_eq_true rfl), (Nat.le_of_ble_eq_true rfl)⟩ ⟨(Nat.le_of_ble_eq_true rfl), (Nat.le_of_ble_eq_true rfl)⟩ xT_b xT_at 0 6 rfl rfl rfl _ hC_ (nd_T _ 0) rfl hl119.1 rfl (Nat.le_of_ble_eq_true rfl) dX6_search_160)) rfl (fun _ => rfl) (fun _ => rfl) (fun u_121 H1 locs hp hw123 => ?_)
                obtain ⟨nmostWorth_124, gleastCost_125⟩ := u_121
                generalize H1 = H at hw123 ⊢
                have hw126 : WD D A s.heap (WZ_PVO cI cJ mv mr (upd (upd mi 2 nmostWorth_124) 8 nwants_7) (va_up (va_up (va_up (va_up (va_up (va_up mf 6 ghops_16) 7 gwanted_8) 9 g_115) 10 g_116) 49 gpmeasured_17) 50 gpmeasuredIn_18) (va_up (va_up (va_up mg 3 gleastCost_125) 4 g_113) 5 g_114)) H locs := hw123
                refine lv_aload_n (pc := 163) E.1 E.2.1 dX6_search_163 rfl (lv_at hl119 4 rfl) ?_
                refine lv_iload_n (pc := 164) E.1 E.2.1 dX6_search_164 rfl (lv_at hl119 6 rfl) ?_
                refine x_put (pc := 165) (T := TX6) (N := 10) (ci := 6) (ws' := (WZ_PVO cI cJ mv mr (upd (upd (upd mi 1 z_n) 2 nmostWorth_124) 8 nwants_7) (va_up (va_up (va_up (va_up (va_up (va_up mf 6 ghops_16) 7 gwanted_8) 9 g_115) 10 g_116) 49 gpmeasured_17) 50 gpmeasuredIn_18) (va_up (va_up (va_up mg 3 gleastCost_125) 4 g_113) 5 g_114))) E hw126 inX6 tyX6_ok nmX6 0 0 q_1160 rfl rfl (by decide) rfl rfl rfl rfl (Nat.le_of_ble_eq_true rfl) rfl dX6_search_165 (fun H locs hw127 => ?_)
                exact em_v (w1 := (fun (u : Int32 × (Nat → Int32) × (Nat → Int32) × (Nat → Int64) × (Nat → Int64) × (Nat → Int32) × (Nat → Int32) × Int32 × (Nat → Int64) × Int32 × (Nat → Int32) × (Nat → Int32)) => (WZ_PVO cI cJ mv mr (upd (upd (upd mi 8 u.1) 2 u.2.2.2.2.2.2.2.1) 1 u.2.2.2.2.2.2.2.2.2.1) (va_up (va_up (va_up (va_up (va_up (va_up mf 7 u.2.1) 6 u.2.2.1) 9 u.2.2.2.2.2.1) 10 u.2.2.2.2.2.2.1) 49 u.2.2.2.2.2.2.2.2.2.2.1) 50 u.2.2.2.2.2.2.2.2.2.2.2) (va_up (va_up (va_up mg 4 u.2.2.2.1) 5 u.2.2.2.2.1) 3 u.2.2.2.2.2.2.2.2.1)))) E hr hlk (nwants_7, gwanted_8, ghops_16, g_113, g_114, g_115, g_116, nmostWorth_124, gleastCost_125, z_n, gpmeasured_17, gpmeasuredIn_18) hw127 ⟨rfl, hp_10, hp_11, hi_116_2, hi_116_3, hp_12⟩ (Nat.le_of_ble_eq_true rfl) (Nat.le_of_ble_eq_true rfl) dX6_search_168
              · skip
                have hc_120 := nleE (a := z_n.toInt) (b := x_111.toInt) rfl rfl c_120
                refine lv_aload_n (pc := 112) E.1 E.2.1 dX6_search_112 rfl (lv_at hl119 4 rfl) ?_
                refine lv_aload_n (pc := 113) E.1 E.2.1 dX6_search_113 rfl (lv_at hl119 5 rfl) ?_
                refine lv_iload (pc := 114) E.1 E.2.1 dX6_search_114 (lv_at hl119 0 rfl) ?_
                refine ck_v (pc := 116) (ws' := (fun (u : (Nat → Int32) × (Nat → Int32)) => (WZ_PVO cI cJ mv mr (upd mi 8 nwants_7) (va_up (va_up (va_up (va_up (va_up (va_up mf 6 ghops_16) 7 gwanted_8) 9 u.1) 10 u.2) 49 gpmeasured_17) 50 gpmeasuredIn_18) (va_up (va_up mg 4 g_113) 5 g_114)))) [true, true, true, true, true, true, true, true, true, true, true, true, true, true, true, true, true, true, true, true, true, true, true, true, true, true, true, true, true, true, true, true, true, true, true, true, true, true, true, true, true, true, true, true, true, true, true, true, true, true, true, true, true, true, true, true, true] hw118 rfl (fun hC_ => (rn_V (As := [.ref (mr 11), .int x_111]) (rest := []) E hw118 (t_gatherServed l D cI cJ _ mr (upd mi 8 nwants_7) (va_up (va_up (va_up (va_up (va_up (va_up mf 6 ghops_16) 7 gwanted_8) 9 g_115) 10 g_116) 49 gpmeasured_17) 50 gpmeasuredIn_18) (va_up (va_up mg 4 g_113) 5 g_114) x_111 (vl [mv 0]) h0 h1 h2 ⟨hp_10, hp_11⟩ hi_116_2 hi_116_3 hp_12) (gdV q_1212 q_1214 q_33 q_170 q_1215) hdV_X6_gatherServed ⟨rfl, rfl⟩ ⟨(Nat.le_of_ble_eq_true rfl), (Nat.le_of_ble_eq_true rfl)⟩ ⟨(Nat.le_of_ble_eq_true rfl), (Nat.le_of_ble_eq_true rfl)⟩ xT_b xT_at 0 6 rfl rfl rfl _ hC_ (nd_T _ 0) rfl hl119.1 rfl (Nat.le_of_ble_eq_true rfl) dX6_search_116)) rfl (fun _ => rfl) (fun _ => rfl) (fun u_128 H1 locs hp hw130 => ?_)
                obtain ⟨gserved_131, gwed_132⟩ := u_128
                generalize H1 = H at hw130 ⊢
                have hw133 : WD D A s.heap (WZ_PVO cI cJ mv mr (upd mi 8 nwants_7) (va_up (va_up (va_up (va_up (va_up (va_up mf 6 ghops_16) 7 gwanted_8) 9 gserved_131) 10 gwed_132) 49 gpmeasured_17) 50 gpmeasuredIn_18) (va_up (va_up mg 4 g_113) 5 g_114)) H locs := hw130
                obtain ⟨hp_134, hp_135⟩ := hp
                refine lv_aload_n (pc := 119) E.1 E.2.1 dX6_search_119 rfl (lv_at hl119 4 rfl) ?_
                refine lv_iload_n (pc := 120) E.1 E.2.1 dX6_search_120 rfl (lv_at hl119 3 rfl) ?_
                refine lv_iload (pc := 121) E.1 E.2.1 dX6_search_121 (lv_at hl119 2 rfl) ?_
                refine lv_iload (pc := 123) E.1 E.2.1 dX6_search_123 (lv_at hl119 0 rfl) ?_
                refine lv_if_ne (pc := 125) (tgt := 135) E.1 E.2.1 dX6_search_125 (by decide) (fun c_136 => ?_) (fun c_136 => ?_)
                · skip
                  have hc_136 := neE (a := x_111.toInt) (b := 0) rfl (by decide +kernel) c_136
                  refine lv_null (pc := 135) E.1 E.2.1 dX6_search_135 ?_
                  refine lv_lload (pc := 136) E.1 E.2.1 dX6_search_136 (lv_at hl119 1 rfl) ?_
                  refine ck_v (pc := 138) (ws' := (fun (u : (Nat → Int64) × (Nat → Int64)) => (WZ_PVO cI cJ mv mr (upd mi 8 nwants_7) (va_up (va_up (va_up (va_up (va_up (va_up mf 6 ghops_16) 7 gwanted_8) 9 gserved_131) 10 gwed_132) 49 gpmeasured_17) 50 gpmeasuredIn_18) (va_up (va_up mg 4 u.1) 5 u.2)))) [true, true, true, true, true, true, true, false, false, false, false, false, false, false, false, false, false, false, false, false, false, false, false, false, false, false, false, false, false, false, false, false, false, false, false, false, false, false, false, false, false, false, false, false, false, false, false, false, false, false, false, false, false, false, false, false, false] hw133 rfl (fun hC_ => (rn_V (As := [.int (mi 40), .int v_21, .null, .long w_112]) (rest := []) E hw133 (t_spreadNight_n l D cI cJ _ mr (upd mi 8 nwants_7) (va_up (va_up (va_up (va_up (va_up (va_up mf 6 ghops_16) 7 gwanted_8) 9 gserved_131) 10 gwed_132) 49 gpmeasured_17) 50 gpmeasuredIn_18) (va_up (va_up mg 4 g_113) 5 g_114) (mi 40) v_21 w_112 h0 (by show 1 ≤ v_21.toInt ∧ v_21.toInt ≤ 1024; omega) hp_134 hp_135) (gdV q_1216 q_1218 q_34 q_170 q_1219) hdV_X6_spreadNight ⟨rfl, rfl⟩ ⟨(Nat.le_of_ble_eq_true rfl), (Nat.le_of_ble_eq_true rfl)⟩ ⟨(Nat.le_of_ble_eq_true rfl), (Nat.le_of_ble_eq_true rfl)⟩ xT_b xT_at 0 6 rfl rfl rfl _ hC_ (nd_T _ 0) rfl hl119.1 rfl (Nat.le_of_ble_eq_true rfl) dX6_search_138)) rfl (fun _ => rfl) (fun _ => rfl) (fun u_137 H1 locs hp hw139 => ?_)
                  obtain ⟨gcosts_140, glifted_141⟩ := u_137
                  generalize H1 = H at hw139 ⊢
                  have hw142 : WD D A s.heap (WZ_PVO cI cJ mv mr (upd mi 8 nwants_7) (va_up (va_up (va_up (va_up (va_up (va_up mf 6 ghops_16) 7 gwanted_8) 9 gserved_131) 10 gwed_132) 49 gpmeasured_17) 50 gpmeasuredIn_18) (va_up (va_up mg 4 gcosts_140) 5 glifted_141)) H locs := hw139
                  refine lv_lload (pc := 141) E.1 E.2.1 dX6_search_141 (lv_at hl119 1 rfl) ?_
                  refine lv_ldc2 (pc := 143) (v := 10) E.1 E.2.1 E.2.2.2.1 (E.2.2.2.2.1 _ q_1211) dX6_search_143 ?_
                  refine lv_ldiv (pc := 146) E.1 E.2.1 dX6_search_146 (by decide +kernel) ?_
                  refine lv_topl (fun w_143 ew_143 => ?_)
                  refine lv_lstore (pc := 147) (lv' := [(5, .long w_143), (7, .int x_111), (4, .int v_21), (3, .int (mi 40)), (0, .ref (mr 0)), (1, .ref (mr 11)), (2, .int z_n)]) E.1 E.2.1 dX6_search_147 hl119 (by decide) rfl (fun ls hl144 => ?_)
                  obtain ⟨v_145, ev_145⟩ : ∃ z : Int32, x_111 + Int32.ofInt (1) = z := ⟨_, rfl⟩
                  have hv_145 : v_145.toInt = x_111.toInt + (1) := by rw [← ev_145]; exact incE rfl (by decide) (by omega)
                  refine lv_iinc (pc := 149) (v := v_145) (lv' := [(7, .int v_145), (5, .long w_143), (4, .int v_21), (3, .int (mi 40)), (0, .ref (mr 0)), (1, .ref (mr 11)), (2, .int z_n)]) E.1 E.2.1 dX6_search_149 hl144 (k := 1) rfl ev_145 (by decide) rfl (fun ls hl146 => ?_)
                  refine lv_goto (pc := 152) (tgt := 106) E.1 E.2.1 dX6_search_152 (by decide) ?_
                  exact ih_117 v_145 w_143 gcosts_140 glifted_141 gserved_131 gwed_132 _ _ _ ⟨(by show 0 ≤ v_145.toInt; omega), (by show v_145.toInt ≤ z_n.toInt; omega), hp_134, hp_135⟩ (by omega) hw142 (lv_sub hl146 [0, 1, 2, 3, 4, 5, 6] rfl)
                · skip
                  have hc_136 := eqE (a := x_111.toInt) (b := 0) rfl (by decide +kernel) c_136
                  refine lv_aload_n (pc := 128) E.1 E.2.1 dX6_search_128 rfl (lv_at hl119 5 rfl) ?_
                  refine x_get (pc := 129) (T := TX10) (N := 17) (ci := 10) (v := .ref (mr 21)) E hw133 inX10 7 0 q_459 rfl rfl (by decide) rfl rfl dX6_search_129 ?_
                  refine lv_goto (pc := 132) (tgt := 136) E.1 E.2.1 dX6_search_132 (by decide) ?_
                  refine lv_lload (pc := 136) E.1 E.2.1 dX6_search_136 (lv_at hl119 1 rfl) ?_
                  refine ck_v (pc := 138) (ws' := (fun (u : (Nat → Int64) × (Nat → Int64)) => (WZ_PVO cI cJ mv mr (upd mi 8 nwants_7) (va_up (va_up (va_up (va_up (va_up (va_up mf 6 ghops_16) 7 gwanted_8) 9 gserved_131) 10 gwed_132) 49 gpmeasured_17) 50 gpmeasuredIn_18) (va_up (va_up mg 4 u.1) 5 u.2)))) [true, true, true, true, true, true, true, false, false, false, false, false, false, true, true, true, true, true, true, false, false, false, false, false, false, false, false, false, false, false, false, false, false, false, false, false, false, false, false, false, false, false, false, false, false, false, false, false, false, false, false, false, false, false, false, false, false] hw133 rfl (fun hC_ => (rn_V (As := [.int (mi 40), .int v_21, .ref (mr 21), .long w_112]) (rest := []) E hw133 (t_spreadNight_s l D cI cJ _ (shg 11 0 10 mr) (shg 11 0 10 (upd mi 8 nwants_7)) (shg 11 0 10 (va_up (va_up (va_up (va_up (va_up (va_up mf 6 ghops_16) 7 gwanted_8) 9 gserved_131) 10 gwed_132) 49 gpmeasured_17) 50 gpmeasuredIn_18)) (shg 11 0 10 (va_up (va_up mg 4 g_113) 5 g_114)) (mi 40) v_21 w_112 h0 (by show 1 ≤ v_21.toInt ∧ v_21.toInt ≤ 1024; omega) hp_134 hp_135) (gdV q_1216 q_1218 q_34 q_170 q_1219) hdV_X6_spreadNight ⟨rfl, rfl⟩ ⟨(Nat.le_of_ble_eq_true rfl), (Nat.le_of_ble_eq_true rfl)⟩ ⟨(Nat.le_of_ble_eq_true rfl), (Nat.le_of_ble_eq_true rfl)⟩ xT_b xT_at 0 6 rfl rfl rfl _ hC_ (nd_T _ 0) rfl hl119.1 rfl (Nat.le_of_ble_eq_true rfl) dX6_search_138)) rfl (fun _ => rfl) (fun _ => rfl) (fun u_147 H1 locs hp hw149 => ?_)
                  obtain ⟨gcosts_150, glifted_151⟩ := u_147
                  generalize H1 = H at hw149 ⊢
                  have hw152 : WD D A s.heap (WZ_PVO cI cJ mv mr (upd mi 8 nwants_7) (va_up (va_up (va_up (va_up (va_up (va_up mf 6 ghops_16) 7 gwanted_8) 9 gserved_131) 10 gwed_132) 49 gpmeasured_17) 50 gpmeasuredIn_18) (va_up (va_up mg 4 gcosts_150) 5 glifted_151)) H locs := hw149
                  refine lv_lload (pc := 141) E.1 E.2.1 dX6_search_141 (lv_at hl119 1 rfl) ?_
                  refine lv_ldc2 (pc := 143) (v := 10) E.1 E.2.1 E.2.2.2.1 (E.2.2.2.2.1 _ q_1211) dX6_search_143 ?_
                  refine lv_ldiv (pc := 146) E.1 E.2.1 dX6_search_146 (by decide +kernel) ?_
                  refine lv_topl (fun w_153 ew_153 => ?_)
                  refine lv_lstore (pc := 147) (lv' := [(5, .long w_153), (7, .int x_111), (4, .int v_21), (3, .int (mi 40)), (0, .ref (mr 0)), (1, .ref (mr 11)), (2, .int z_n)]) E.1 E.2.1 dX6_search_147 hl119 (by decide) rfl (fun ls hl154 => ?_)
                  obtain ⟨v_155, ev_155⟩ : ∃ z : Int32, x_111 + Int32.ofInt (1) = z := ⟨_, rfl⟩
                  have hv_155 : v_155.toInt = x_111.toInt + (1) := by rw [← ev_155]; exact incE rfl (by decide) (by omega)
                  refine lv_iinc (pc := 149) (v := v_155) (lv' := [(7, .int v_155), (5, .long w_153), (4, .int v_21), (3, .int (mi 40)), (0, .ref (mr 0)), (1, .ref (mr 11)), (2, .int z_n)]) E.1 E.2.1 dX6_search_149 hl154 (k := 1) rfl ev_155 (by decide) rfl (fun ls hl156 => ?_)
                  refine lv_goto (pc := 152) (tgt := 106) E.1 E.2.1 dX6_search_152 (by decide) ?_
                  exact ih_117 v_155 w_153 gcosts_150 glifted_151 gserved_131 gwed_132 _ _ _ ⟨(by show 0 ≤ v_155.toInt; omega), (by show v_155.toInt ≤ z_n.toInt; omega), hp_134, hp_135⟩ (by omega) hw152 (lv_sub hl156 [0, 1, 2, 3, 4, 5, 6] rfl)
          exact loop_110 (Int.toNat (z_n.toInt - 0) + 1) 0 r_104 g_26 (mg 5) (mf 9) (mf 10) _ _ _ ⟨(by show 0 ≤ (0 : Int32).toInt; have k_0 : (0 : Int32).toInt = 0 := (by decide +kernel); omega), (by show (0 : Int32).toInt ≤ z_n.toInt; have k_0 : (0 : Int32).toInt = 0 := (by decide +kernel); omega), a_served, a_wed⟩ (by have k_0 : (0 : Int32).toInt = 0 := (by decide +kernel); omega) hw106 (lv_sub hl109 [0, 1, 2, 3, 4, 5, 6] rfl)
        · skip
          have ha_41 : (mi 40).toInt ≤ (mi 28).toInt := ha_41
          refine lv_if_eq (pc := 79) (tgt := 95) E.1 E.2.1 dX6_search_79 (by decide) (fun _ => ?_) (fun c_157 => absurd (meqE (a := 0) (b := 0) (by decide +kernel) (by decide +kernel) (by omega)) c_157)
          refine lv_iload_n (pc := 95) E.1 E.2.1 dX6_search_95 rfl (lv_at hl29 5 rfl) ?_
          refine lv_iconst (pc := 96) (v := 1) E.1 E.2.1 dX6_search_96 (by decide +kernel) ?_
          refine lv_isub (pc := 97) E.1 E.2.1 dX6_search_97 ?_
          refine lv_topi (fun v_158 ev_158 => ?_)
          have hv_158 : v_158.toInt = z_n.toInt - 1 := by rw [ev_158]; exact subE rfl (by decide +kernel) (by omega)
          refine ck_l (pc := 98) (ws' := (fun (u : Unit) => (WZ_PVO cI cJ mv mr (upd mi 8 nwants_7) (va_up (va_up (va_up (va_up mf 6 ghops_16) 7 gwanted_8) 49 gpmeasured_17) 50 gpmeasuredIn_18) (va_up mg 4 g_26)))) [false, false, false, false, false, false, false, false, false, false, false, false, false, false, false, false, false, false, false, false, false, false, false, false, false, false, false, false, false, false, false, false, false, false, false, false, false, false, false, false, false, false, false, false, false, false, false, false, false, false, false, false, false, false, false, false, false] hw35 rfl (fun hC_ => (rn_S (As := [.int v_158]) (rest := []) E hw35 (t_power l D cI cJ _ mr (upd mi 8 nwants_7) (va_up (va_up (va_up (va_up mf 6 ghops_16) 7 gwanted_8) 49 gpmeasured_17) 50 gpmeasuredIn_18) (va_up mg 4 g_26) v_158 (by show 0 ≤ v_158.toInt ∧ v_158.toInt ≤ 9; omega)) (gdS q_1208 q_1209 q_170 q_1210) hdV_X6_power ⟨rfl, rfl⟩ ⟨(Nat.le_of_ble_eq_true rfl), (Nat.le_of_ble_eq_true rfl)⟩ ⟨(Nat.le_of_ble_eq_true rfl), (Nat.le_of_ble_eq_true rfl)⟩ xT_b xT_at _ hC_ (nd_T _ 0) rfl hl29.1 rfl (Nat.le_of_ble_eq_true rfl) dX6_search_98)) rfl (fun _ => rfl) (fun _ => rfl) (fun r_160 u_159 H1 locs hp hw161 => ?_)
          generalize H1 = H at hw161 ⊢
          have hw162 : WD D A s.heap (WZ_PVO cI cJ mv mr (upd mi 8 nwants_7) (va_up (va_up (va_up (va_up mf 6 ghops_16) 7 gwanted_8) 49 gpmeasured_17) 50 gpmeasuredIn_18) (va_up mg 4 g_26)) H locs := hw161
          have hp_163 := hp
          have hp_163 : ¬ r_160 = 0 := hp_163
          refine lv_lstore (pc := 101) (lv' := [(5, .long r_160), (4, .int v_21), (3, .int (mi 40)), (0, .ref (mr 0)), (1, .ref (mr 11)), (2, .int z_n)]) E.1 E.2.1 dX6_search_101 hl29 (by decide) rfl (fun ls hl164 => ?_)
          refine lv_iconst (pc := 103) (v := 0) E.1 E.2.1 dX6_search_103 (by decide +kernel) ?_
          refine lv_istore (pc := 104) (lv' := [(7, .int 0), (5, .long r_160), (4, .int v_21), (3, .int (mi 40)), (0, .ref (mr 0)), (1, .ref (mr 11)), (2, .int z_n)]) E.1 E.2.1 dX6_search_104 hl164 (by decide) rfl (fun ls hl165 => ?_)
          have loop_166 : ∀ (k : Nat) (x_167 : Int32) (w_168 : Int64) (g_169 : Nat → Int64) (g_170 : Nat → Int64) (g_171 : Nat → Int32) (g_172 : Nat → Int32) (H : Heap) (locs : List Loc) (ls : Array Slot), (0 ≤ x_167.toInt) ∧ (x_167.toInt ≤ z_n.toInt) ∧ s1k g_171 ∧ s1k g_172 → z_n.toInt - x_167.toInt < (k : Int) → WD D A s.heap (WZ_PVO cI cJ mv mr (upd mi 8 nwants_7) (va_up (va_up (va_up (va_up (va_up (va_up mf 6 ghops_16) 7 gwanted_8) 9 g_171) 10 g_172) 49 gpmeasured_17) 50 gpmeasuredIn_18) (va_up (va_up mg 4 g_169) 5 g_170)) H locs → lv_has ls 8 [(7, .int x_167), (5, .long w_168), (4, .int v_21), (3, .int (mi 40)), (0, .ref (mr 0)), (1, .ref (mr 11)), (2, .int z_n)] → W p l e ({ frames := 5, cells := 0, slots := 0, locals := 139 } : Room) s m ([.ref (mr 0), .ref (mr 11), .int z_n] : List Value).toArray below meth c H locs 0 0 (MQ below (va_Qv (fun (u : Int32 × (Nat → Int32) × (Nat → Int32) × (Nat → Int64) × (Nat → Int64) × (Nat → Int32) × (Nat → Int32) × Int32 × (Nat → Int64) × Int32 × (Nat → Int32) × (Nat → Int32)) => (u.2.2.2.2.2.2.2.2.2.1.toInt = z_n.toInt) ∧ (0 ≤ u.1.toInt) ∧ (u.1.toInt ≤ 10) ∧ (s1k u.2.2.2.2.2.1) ∧ (s1k u.2.2.2.2.2.2.1) ∧ (w9 u.2.1)) (fun u => QW D cI cJ A ((fun (u : Int32 × (Nat → Int32) × (Nat → Int32) × (Nat → Int64) × (Nat → Int64) × (Nat → Int32) × (Nat → Int32) × Int32 × (Nat → Int64) × Int32 × (Nat → Int32) × (Nat → Int32)) => (WZ_PVO cI cJ mv mr (upd (upd (upd mi 8 u.1) 2 u.2.2.2.2.2.2.2.1) 1 u.2.2.2.2.2.2.2.2.2.1) (va_up (va_up (va_up (va_up (va_up (va_up mf 7 u.2.1) 6 u.2.2.1) 9 u.2.2.2.2.2.1) 10 u.2.2.2.2.2.2.1) 49 u.2.2.2.2.2.2.2.2.2.2.1) 50 u.2.2.2.2.2.2.2.2.2.2.2) (va_up (va_up (va_up mg 4 u.2.2.2.1) 5 u.2.2.2.2.1) 3 u.2.2.2.2.2.2.2.2.1))) u)) A) ([.ref (mr 0), .ref (mr 11), .int z_n] : List Value).toArray s 0 0 A) (F0 m 106 ls []) := by
            intro k
            induction k with
            | zero =>
              intro x_167 w_168 g_169 g_170 g_171 g_172 _ _ _ hinv hm
              obtain ⟨hi_172_0, hi_172_1, hi_172_2, hi_172_3⟩ := hinv
              exact absurd hm (by omega)
            | succ k ih_173 =>
              intro x_167 w_168 g_169 g_170 g_171 g_172 H locs ls hinv hm hw174 hl175
              obtain ⟨hi_172_0, hi_172_1, hi_172_2, hi_172_3⟩ := hinv
              refine lv_iload (pc := 106) E.1 E.2.1 dX6_search_106 (lv_at hl175 0 rfl) ?_
              refine lv_iload_n (pc := 108) E.1 E.2.1 dX6_search_108 rfl (lv_at hl175 6 rfl) ?_
              refine lv_icmp_ge (pc := 109) (tgt := 155) E.1 E.2.1 dX6_search_109 (by decide) (fun c_176 => ?_) (fun c_176 => ?_)
              · skip
                have hc_176 := leE (a := z_n.toInt) (b := x_167.toInt) rfl rfl c_176
                refine lv_aload_n (pc := 155) E.1 E.2.1 dX6_search_155 rfl (lv_at hl175 4 rfl) ?_
                refine lv_aload_n (pc := 156) E.1 E.2.1 dX6_search_156 rfl (lv_at hl175 5 rfl) ?_
                refine lv_iload_n (pc := 157) E.1 E.2.1 dX6_search_157 rfl (lv_at hl175 3 rfl) ?_
                refine lv_iload (pc := 158) E.1 E.2.1 dX6_search_158 (lv_at hl175 2 rfl) ?_
                refine ck_v (pc := 160) (ws' := (fun (u : Int32 × (Nat → Int64)) => (WZ_PVO cI cJ mv mr (upd (upd mi 2 u.1) 8 nwants_7) (va_up (va_up (va_up (va_up (va_up (va_up mf 6 ghops_16) 7 gwanted_8) 9 g_171) 10 g_172) 49 gpmeasured_17) 50 gpmeasuredIn_18) (va_up (va_up (va_up mg 3 u.2) 4 g_169) 5 g_170)))) [true, true, true, true, true, true, true, true, true, true, true, true, true, true, true, true, true, true, true, true, true, true, true, true, true, true, true, true, true, true, true, true, true, true, true, true, true, true, true, true, true, true, true, true, true, true, true, true, true, true, true, true, true, true, true, true, true] hw174 rfl (fun hC_ => (rn_V (As := [.ref (mr 11), .int (mi 40), .int v_21]) (rest := []) E hw174 (t_choose l D cI cJ _ mr (upd mi 8 nwants_7) (va_up (va_up (va_up (va_up (va_up (va_up mf 6 ghops_16) 7 gwanted_8) 9 g_171) 10 g_172) 49 gpmeasured_17) 50 gpmeasuredIn_18) (va_up (va_up mg 4 g_169) 5 g_170) (mi 40) v_21 (vl [mv 0]) h0 h1 h2 ⟨hp_10, hp_11⟩ h0 (by show 1 ≤ v_21.toInt ∧ v_21.toInt ≤ 1024; omega) hp_12) (gdV q_1230 q_1232 q_37 q_170 q_1233) hdV_X6_choose ⟨rfl, rfl⟩ ⟨(Nat.le_of_ble_eq_true rfl), (Nat.le_of_ble_eq_true rfl)⟩ ⟨(Nat.le_of_ble_eq_true rfl), (Nat.le_of_ble_eq_true rfl)⟩ xT_b xT_at 0 6 rfl rfl rfl _ hC_ (nd_T _ 0) rfl hl175.1 rfl (Nat.le_of_ble_eq_true rfl) dX6_search_160)) rfl (fun _ => rfl) (fun _ => rfl) (fun u_177 H1 locs hp hw179 => ?_)
                obtain ⟨nmostWorth_180, gleastCost_181⟩ := u_177
                generalize H1 = H at hw179 ⊢
                have hw182 : WD D A s.heap (WZ_PVO cI cJ mv mr (upd (upd mi 2 nmostWorth_180) 8 nwants_7) (va_up (va_up (va_up (va_up (va_up (va_up mf 6 ghops_16) 7 gwanted_8) 9 g_171) 10 g_172) 49 gpmeasured_17) 50 gpmeasuredIn_18) (va_up (va_up (va_up mg 3 gleastCost_181) 4 g_169) 5 g_170)) H locs := hw179
                refine lv_aload_n (pc := 163) E.1 E.2.1 dX6_search_163 rfl (lv_at hl175 4 rfl) ?_
                refine lv_iload_n (pc := 164) E.1 E.2.1 dX6_search_164 rfl (lv_at hl175 6 rfl) ?_
                refine x_put (pc := 165) (T := TX6) (N := 10) (ci := 6) (ws' := (WZ_PVO cI cJ mv mr (upd (upd (upd mi 1 z_n) 2 nmostWorth_180) 8 nwants_7) (va_up (va_up (va_up (va_up (va_up (va_up mf 6 ghops_16) 7 gwanted_8) 9 g_171) 10 g_172) 49 gpmeasured_17) 50 gpmeasuredIn_18) (va_up (va_up (va_up mg 3 gleastCost_181) 4 g_169) 5 g_170))) E hw182 inX6 tyX6_ok nmX6 0 0 q_1160 rfl rfl (by decide) rfl rfl rfl rfl (Nat.le_of_ble_eq_true rfl) rfl dX6_search_165 (fun H locs hw183 => ?_)
                exact em_v (w1 := (fun (u : Int32 × (Nat → Int32) × (Nat → Int32) × (Nat → Int64) × (Nat → Int64) × (Nat → Int32) × (Nat → Int32) × Int32 × (Nat → Int64) × Int32 × (Nat → Int32) × (Nat → Int32)) => (WZ_PVO cI cJ mv mr (upd (upd (upd mi 8 u.1) 2 u.2.2.2.2.2.2.2.1) 1 u.2.2.2.2.2.2.2.2.2.1) (va_up (va_up (va_up (va_up (va_up (va_up mf 7 u.2.1) 6 u.2.2.1) 9 u.2.2.2.2.2.1) 10 u.2.2.2.2.2.2.1) 49 u.2.2.2.2.2.2.2.2.2.2.1) 50 u.2.2.2.2.2.2.2.2.2.2.2) (va_up (va_up (va_up mg 4 u.2.2.2.1) 5 u.2.2.2.2.1) 3 u.2.2.2.2.2.2.2.2.1)))) E hr hlk (nwants_7, gwanted_8, ghops_16, g_169, g_170, g_171, g_172, nmostWorth_180, gleastCost_181, z_n, gpmeasured_17, gpmeasuredIn_18) hw183 ⟨rfl, hp_10, hp_11, hi_172_2, hi_172_3, hp_12⟩ (Nat.le_of_ble_eq_true rfl) (Nat.le_of_ble_eq_true rfl) dX6_search_168
              · skip
                have hc_176 := nleE (a := z_n.toInt) (b := x_167.toInt) rfl rfl c_176
                refine lv_aload_n (pc := 112) E.1 E.2.1 dX6_search_112 rfl (lv_at hl175 4 rfl) ?_
                refine lv_aload_n (pc := 113) E.1 E.2.1 dX6_search_113 rfl (lv_at hl175 5 rfl) ?_
                refine lv_iload (pc := 114) E.1 E.2.1 dX6_search_114 (lv_at hl175 0 rfl) ?_
                refine ck_v (pc := 116) (ws' := (fun (u : (Nat → Int32) × (Nat → Int32)) => (WZ_PVO cI cJ mv mr (upd mi 8 nwants_7) (va_up (va_up (va_up (va_up (va_up (va_up mf 6 ghops_16) 7 gwanted_8) 9 u.1) 10 u.2) 49 gpmeasured_17) 50 gpmeasuredIn_18) (va_up (va_up mg 4 g_169) 5 g_170)))) [true, true, true, true, true, true, true, true, true, true, true, true, true, true, true, true, true, true, true, true, true, true, true, true, true, true, true, true, true, true, true, true, true, true, true, true, true, true, true, true, true, true, true, true, true, true, true, true, true, true, true, true, true, true, true, true, true] hw174 rfl (fun hC_ => (rn_V (As := [.ref (mr 11), .int x_167]) (rest := []) E hw174 (t_gatherServed l D cI cJ _ mr (upd mi 8 nwants_7) (va_up (va_up (va_up (va_up (va_up (va_up mf 6 ghops_16) 7 gwanted_8) 9 g_171) 10 g_172) 49 gpmeasured_17) 50 gpmeasuredIn_18) (va_up (va_up mg 4 g_169) 5 g_170) x_167 (vl [mv 0]) h0 h1 h2 ⟨hp_10, hp_11⟩ hi_172_2 hi_172_3 hp_12) (gdV q_1212 q_1214 q_33 q_170 q_1215) hdV_X6_gatherServed ⟨rfl, rfl⟩ ⟨(Nat.le_of_ble_eq_true rfl), (Nat.le_of_ble_eq_true rfl)⟩ ⟨(Nat.le_of_ble_eq_true rfl), (Nat.le_of_ble_eq_true rfl)⟩ xT_b xT_at 0 6 rfl rfl rfl _ hC_ (nd_T _ 0) rfl hl175.1 rfl (Nat.le_of_ble_eq_true rfl) dX6_search_116)) rfl (fun _ => rfl) (fun _ => rfl) (fun u_184 H1 locs hp hw186 => ?_)
                obtain ⟨gserved_187, gwed_188⟩ := u_184
                generalize H1 = H at hw186 ⊢
                have hw189 : WD D A s.heap (WZ_PVO cI cJ mv mr (upd mi 8 nwants_7) (va_up (va_up (va_up (va_up (va_up (va_up mf 6 ghops_16) 7 gwanted_8) 9 gserved_187) 10 gwed_188) 49 gpmeasured_17) 50 gpmeasuredIn_18) (va_up (va_up mg 4 g_169) 5 g_170)) H locs := hw186
                obtain ⟨hp_190, hp_191⟩ := hp
                refine lv_aload_n (pc := 119) E.1 E.2.1 dX6_search_119 rfl (lv_at hl175 4 rfl) ?_
                refine lv_iload_n (pc := 120) E.1 E.2.1 dX6_search_120 rfl (lv_at hl175 3 rfl) ?_
                refine lv_iload (pc := 121) E.1 E.2.1 dX6_search_121 (lv_at hl175 2 rfl) ?_
                refine lv_iload (pc := 123) E.1 E.2.1 dX6_search_123 (lv_at hl175 0 rfl) ?_
                refine lv_if_ne (pc := 125) (tgt := 135) E.1 E.2.1 dX6_search_125 (by decide) (fun c_192 => ?_) (fun c_192 => ?_)
                · skip
                  have hc_192 := neE (a := x_167.toInt) (b := 0) rfl (by decide +kernel) c_192
                  refine lv_null (pc := 135) E.1 E.2.1 dX6_search_135 ?_
                  refine lv_lload (pc := 136) E.1 E.2.1 dX6_search_136 (lv_at hl175 1 rfl) ?_
                  refine ck_v (pc := 138) (ws' := (fun (u : (Nat → Int64) × (Nat → Int64)) => (WZ_PVO cI cJ mv mr (upd mi 8 nwants_7) (va_up (va_up (va_up (va_up (va_up (va_up mf 6 ghops_16) 7 gwanted_8) 9 gserved_187) 10 gwed_188) 49 gpmeasured_17) 50 gpmeasuredIn_18) (va_up (va_up mg 4 u.1) 5 u.2)))) [true, true, true, true, true, true, true, false, false, false, false, false, false, false, false, false, false, false, false, false, false, false, false, false, false, false, false, false, false, false, false, false, false, false, false, false, false, false, false, false, false, false, false, false, false, false, false, false, false, false, false, false, false, false, false, false, false] hw189 rfl (fun hC_ => (rn_V (As := [.int (mi 40), .int v_21, .null, .long w_168]) (rest := []) E hw189 (t_spreadNight_n l D cI cJ _ mr (upd mi 8 nwants_7) (va_up (va_up (va_up (va_up (va_up (va_up mf 6 ghops_16) 7 gwanted_8) 9 gserved_187) 10 gwed_188) 49 gpmeasured_17) 50 gpmeasuredIn_18) (va_up (va_up mg 4 g_169) 5 g_170) (mi 40) v_21 w_168 h0 (by show 1 ≤ v_21.toInt ∧ v_21.toInt ≤ 1024; omega) hp_190 hp_191) (gdV q_1216 q_1218 q_34 q_170 q_1219) hdV_X6_spreadNight ⟨rfl, rfl⟩ ⟨(Nat.le_of_ble_eq_true rfl), (Nat.le_of_ble_eq_true rfl)⟩ ⟨(Nat.le_of_ble_eq_true rfl), (Nat.le_of_ble_eq_true rfl)⟩ xT_b xT_at 0 6 rfl rfl rfl _ hC_ (nd_T _ 0) rfl hl175.1 rfl (Nat.le_of_ble_eq_true rfl) dX6_search_138)) rfl (fun _ => rfl) (fun _ => rfl) (fun u_193 H1 locs hp hw195 => ?_)
                  obtain ⟨gcosts_196, glifted_197⟩ := u_193
                  generalize H1 = H at hw195 ⊢
                  have hw198 : WD D A s.heap (WZ_PVO cI cJ mv mr (upd mi 8 nwants_7) (va_up (va_up (va_up (va_up (va_up (va_up mf 6 ghops_16) 7 gwanted_8) 9 gserved_187) 10 gwed_188) 49 gpmeasured_17) 50 gpmeasuredIn_18) (va_up (va_up mg 4 gcosts_196) 5 glifted_197)) H locs := hw195
                  refine lv_lload (pc := 141) E.1 E.2.1 dX6_search_141 (lv_at hl175 1 rfl) ?_
                  refine lv_ldc2 (pc := 143) (v := 10) E.1 E.2.1 E.2.2.2.1 (E.2.2.2.2.1 _ q_1211) dX6_search_143 ?_
                  refine lv_ldiv (pc := 146) E.1 E.2.1 dX6_search_146 (by decide +kernel) ?_
                  refine lv_topl (fun w_199 ew_199 => ?_)
                  refine lv_lstore (pc := 147) (lv' := [(5, .long w_199), (7, .int x_167), (4, .int v_21), (3, .int (mi 40)), (0, .ref (mr 0)), (1, .ref (mr 11)), (2, .int z_n)]) E.1 E.2.1 dX6_search_147 hl175 (by decide) rfl (fun ls hl200 => ?_)
                  obtain ⟨v_201, ev_201⟩ : ∃ z : Int32, x_167 + Int32.ofInt (1) = z := ⟨_, rfl⟩
                  have hv_201 : v_201.toInt = x_167.toInt + (1) := by rw [← ev_201]; exact incE rfl (by decide) (by omega)
                  refine lv_iinc (pc := 149) (v := v_201) (lv' := [(7, .int v_201), (5, .long w_199), (4, .int v_21), (3, .int (mi 40)), (0, .ref (mr 0)), (1, .ref (mr 11)), (2, .int z_n)]) E.1 E.2.1 dX6_search_149 hl200 (k := 1) rfl ev_201 (by decide) rfl (fun ls hl202 => ?_)
                  refine lv_goto (pc := 152) (tgt := 106) E.1 E.2.1 dX6_search_152 (by decide) ?_
                  exact ih_173 v_201 w_199 gcosts_196 glifted_197 gserved_187 gwed_188 _ _ _ ⟨(by show 0 ≤ v_201.toInt; omega), (by show v_201.toInt ≤ z_n.toInt; omega), hp_190, hp_191⟩ (by omega) hw198 (lv_sub hl202 [0, 1, 2, 3, 4, 5, 6] rfl)
                · skip
                  have hc_192 := eqE (a := x_167.toInt) (b := 0) rfl (by decide +kernel) c_192
                  refine lv_aload_n (pc := 128) E.1 E.2.1 dX6_search_128 rfl (lv_at hl175 5 rfl) ?_
                  refine x_get (pc := 129) (T := TX10) (N := 17) (ci := 10) (v := .ref (mr 21)) E hw189 inX10 7 0 q_459 rfl rfl (by decide) rfl rfl dX6_search_129 ?_
                  refine lv_goto (pc := 132) (tgt := 136) E.1 E.2.1 dX6_search_132 (by decide) ?_
                  refine lv_lload (pc := 136) E.1 E.2.1 dX6_search_136 (lv_at hl175 1 rfl) ?_
                  refine ck_v (pc := 138) (ws' := (fun (u : (Nat → Int64) × (Nat → Int64)) => (WZ_PVO cI cJ mv mr (upd mi 8 nwants_7) (va_up (va_up (va_up (va_up (va_up (va_up mf 6 ghops_16) 7 gwanted_8) 9 gserved_187) 10 gwed_188) 49 gpmeasured_17) 50 gpmeasuredIn_18) (va_up (va_up mg 4 u.1) 5 u.2)))) [true, true, true, true, true, true, true, false, false, false, false, false, false, true, true, true, true, true, true, false, false, false, false, false, false, false, false, false, false, false, false, false, false, false, false, false, false, false, false, false, false, false, false, false, false, false, false, false, false, false, false, false, false, false, false, false, false] hw189 rfl (fun hC_ => (rn_V (As := [.int (mi 40), .int v_21, .ref (mr 21), .long w_168]) (rest := []) E hw189 (t_spreadNight_s l D cI cJ _ (shg 11 0 10 mr) (shg 11 0 10 (upd mi 8 nwants_7)) (shg 11 0 10 (va_up (va_up (va_up (va_up (va_up (va_up mf 6 ghops_16) 7 gwanted_8) 9 gserved_187) 10 gwed_188) 49 gpmeasured_17) 50 gpmeasuredIn_18)) (shg 11 0 10 (va_up (va_up mg 4 g_169) 5 g_170)) (mi 40) v_21 w_168 h0 (by show 1 ≤ v_21.toInt ∧ v_21.toInt ≤ 1024; omega) hp_190 hp_191) (gdV q_1216 q_1218 q_34 q_170 q_1219) hdV_X6_spreadNight ⟨rfl, rfl⟩ ⟨(Nat.le_of_ble_eq_true rfl), (Nat.le_of_ble_eq_true rfl)⟩ ⟨(Nat.le_of_ble_eq_true rfl), (Nat.le_of_ble_eq_true rfl)⟩ xT_b xT_at 0 6 rfl rfl rfl _ hC_ (nd_T _ 0) rfl hl175.1 rfl (Nat.le_of_ble_eq_true rfl) dX6_search_138)) rfl (fun _ => rfl) (fun _ => rfl) (fun u_203 H1 locs hp hw205 => ?_)
                  obtain ⟨gcosts_206, glifted_207⟩ := u_203
                  generalize H1 = H at hw205 ⊢
                  have hw208 : WD D A s.heap (WZ_PVO cI cJ mv mr (upd mi 8 nwants_7) (va_up (va_up (va_up (va_up (va_up (va_up mf 6 ghops_16) 7 gwanted_8) 9 gserved_187) 10 gwed_188) 49 gpmeasured_17) 50 gpmeasuredIn_18) (va_up (va_up mg 4 gcosts_206) 5 glifted_207)) H locs := hw205
                  refine lv_lload (pc := 141) E.1 E.2.1 dX6_search_141 (lv_at hl175 1 rfl) ?_
                  refine lv_ldc2 (pc := 143) (v := 10) E.1 E.2.1 E.2.2.2.1 (E.2.2.2.2.1 _ q_1211) dX6_search_143 ?_
                  refine lv_ldiv (pc := 146) E.1 E.2.1 dX6_search_146 (by decide +kernel) ?_
                  refine lv_topl (fun w_209 ew_209 => ?_)
                  refine lv_lstore (pc := 147) (lv' := [(5, .long w_209), (7, .int x_167), (4, .int v_21), (3, .int (mi 40)), (0, .ref (mr 0)), (1, .ref (mr 11)), (2, .int z_n)]) E.1 E.2.1 dX6_search_147 hl175 (by decide) rfl (fun ls hl210 => ?_)
                  obtain ⟨v_211, ev_211⟩ : ∃ z : Int32, x_167 + Int32.ofInt (1) = z := ⟨_, rfl⟩
                  have hv_211 : v_211.toInt = x_167.toInt + (1) := by rw [← ev_211]; exact incE rfl (by decide) (by omega)
                  refine lv_iinc (pc := 149) (v := v_211) (lv' := [(7, .int v_211), (5, .long w_209), (4, .int v_21), (3, .int (mi 40)), (0, .ref (mr 0)), (1, .ref (mr 11)), (2, .int z_n)]) E.1 E.2.1 dX6_search_149 hl210 (k := 1) rfl ev_211 (by decide) rfl (fun ls hl212 => ?_)
                  refine lv_goto (pc := 152) (tgt := 106) E.1 E.2.1 dX6_search_152 (by decide) ?_
                  exact ih_173 v_211 w_209 gcosts_206 glifted_207 gserved_187 gwed_188 _ _ _ ⟨(by show 0 ≤ v_211.toInt; omega), (by show v_211.toInt ≤ z_n.toInt; omega), hp_190, hp_191⟩ (by omega) hw208 (lv_sub hl212 [0, 1, 2, 3, 4, 5, 6] rfl)
          exact loop_166 (Int.toNat (z_n.toInt - 0) + 1) 0 r_160 g_26 (mg 5) (mf 9) (mf 10) _ _ _ ⟨(by show 0 ≤ (0 : Int32).toInt; have k_0 : (0 : Int32).toInt = 0 := (by decide +kernel); omega), (by show (0 : Int32).toInt ≤ z_n.toInt; have k_0 : (0 : Int32).toInt = 0 := (by decide +kernel); omega), a_served, a_wed⟩ (by have k_0 : (0 : Int32).toInt = 0 := (by decide +kernel); omega) hw162 (lv_sub hl165 [0, 1, 2, 3, 4, 5, 6] rfl)
        · skip
          have ha_42 : 10 ≤ (mi 28).toInt := ha_42
          refine lv_if_eq (pc := 79) (tgt := 95) E.1 E.2.1 dX6_search_79 (by decide) (fun _ => ?_) (fun c_213 => absurd (meqE (a := 0) (b := 0) (by decide +kernel) (by decide +kernel) (by omega)) c_213)
          refine lv_iload_n (pc := 95) E.1 E.2.1 dX6_search_95 rfl (lv_at hl29 5 rfl) ?_
          refine lv_iconst (pc := 96) (v := 1) E.1 E.2.1 dX6_search_96 (by decide +kernel) ?_
          refine lv_isub (pc := 97) E.1 E.2.1 dX6_search_97 ?_
          refine lv_topi (fun v_214 ev_214 => ?_)
          have hv_214 : v_214.toInt = z_n.toInt - 1 := by rw [ev_214]; exact subE rfl (by decide +kernel) (by omega)
          refine ck_l (pc := 98) (ws' := (fun (u : Unit) => (WZ_PVO cI cJ mv mr (upd mi 8 nwants_7) (va_up (va_up (va_up (va_up mf 6 ghops_16) 7 gwanted_8) 49 gpmeasured_17) 50 gpmeasuredIn_18) (va_up mg 4 g_26)))) [false, false, false, false, false, false, false, false, false, false, false, false, false, false, false, false, false, false, false, false, false, false, false, false, false, false, false, false, false, false, false, false, false, false, false, false, false, false, false, false, false, false, false, false, false, false, false, false, false, false, false, false, false, false, false, false, false] hw35 rfl (fun hC_ => (rn_S (As := [.int v_214]) (rest := []) E hw35 (t_power l D cI cJ _ mr (upd mi 8 nwants_7) (va_up (va_up (va_up (va_up mf 6 ghops_16) 7 gwanted_8) 49 gpmeasured_17) 50 gpmeasuredIn_18) (va_up mg 4 g_26) v_214 (by show 0 ≤ v_214.toInt ∧ v_214.toInt ≤ 9; omega)) (gdS q_1208 q_1209 q_170 q_1210) hdV_X6_power ⟨rfl, rfl⟩ ⟨(Nat.le_of_ble_eq_true rfl), (Nat.le_of_ble_eq_true rfl)⟩ ⟨(Nat.le_of_ble_eq_true rfl), (Nat.le_of_ble_eq_true rfl)⟩ xT_b xT_at _ hC_ (nd_T _ 0) rfl hl29.1 rfl (Nat.le_of_ble_eq_true rfl) dX6_search_98)) rfl (fun _ => rfl) (fun _ => rfl) (fun r_216 u_215 H1 locs hp hw217 => ?_)
          generalize H1 = H at hw217 ⊢
          have hw218 : WD D A s.heap (WZ_PVO cI cJ mv mr (upd mi 8 nwants_7) (va_up (va_up (va_up (va_up mf 6 ghops_16) 7 gwanted_8) 49 gpmeasured_17) 50 gpmeasuredIn_18) (va_up mg 4 g_26)) H locs := hw217
          have hp_219 := hp
          have hp_219 : ¬ r_216 = 0 := hp_219
          refine lv_lstore (pc := 101) (lv' := [(5, .long r_216), (4, .int v_21), (3, .int (mi 40)), (0, .ref (mr 0)), (1, .ref (mr 11)), (2, .int z_n)]) E.1 E.2.1 dX6_search_101 hl29 (by decide) rfl (fun ls hl220 => ?_)
          refine lv_iconst (pc := 103) (v := 0) E.1 E.2.1 dX6_search_103 (by decide +kernel) ?_
          refine lv_istore (pc := 104) (lv' := [(7, .int 0), (5, .long r_216), (4, .int v_21), (3, .int (mi 40)), (0, .ref (mr 0)), (1, .ref (mr 11)), (2, .int z_n)]) E.1 E.2.1 dX6_search_104 hl220 (by decide) rfl (fun ls hl221 => ?_)
          have loop_222 : ∀ (k : Nat) (x_223 : Int32) (w_224 : Int64) (g_225 : Nat → Int64) (g_226 : Nat → Int64) (g_227 : Nat → Int32) (g_228 : Nat → Int32) (H : Heap) (locs : List Loc) (ls : Array Slot), (0 ≤ x_223.toInt) ∧ (x_223.toInt ≤ z_n.toInt) ∧ s1k g_227 ∧ s1k g_228 → z_n.toInt - x_223.toInt < (k : Int) → WD D A s.heap (WZ_PVO cI cJ mv mr (upd mi 8 nwants_7) (va_up (va_up (va_up (va_up (va_up (va_up mf 6 ghops_16) 7 gwanted_8) 9 g_227) 10 g_228) 49 gpmeasured_17) 50 gpmeasuredIn_18) (va_up (va_up mg 4 g_225) 5 g_226)) H locs → lv_has ls 8 [(7, .int x_223), (5, .long w_224), (4, .int v_21), (3, .int (mi 40)), (0, .ref (mr 0)), (1, .ref (mr 11)), (2, .int z_n)] → W p l e ({ frames := 5, cells := 0, slots := 0, locals := 139 } : Room) s m ([.ref (mr 0), .ref (mr 11), .int z_n] : List Value).toArray below meth c H locs 0 0 (MQ below (va_Qv (fun (u : Int32 × (Nat → Int32) × (Nat → Int32) × (Nat → Int64) × (Nat → Int64) × (Nat → Int32) × (Nat → Int32) × Int32 × (Nat → Int64) × Int32 × (Nat → Int32) × (Nat → Int32)) => (u.2.2.2.2.2.2.2.2.2.1.toInt = z_n.toInt) ∧ (0 ≤ u.1.toInt) ∧ (u.1.toInt ≤ 10) ∧ (s1k u.2.2.2.2.2.1) ∧ (s1k u.2.2.2.2.2.2.1) ∧ (w9 u.2.1)) (fun u => QW D cI cJ A ((fun (u : Int32 × (Nat → Int32) × (Nat → Int32) × (Nat → Int64) × (Nat → Int64) × (Nat → Int32) × (Nat → Int32) × Int32 × (Nat → Int64) × Int32 × (Nat → Int32) × (Nat → Int32)) => (WZ_PVO cI cJ mv mr (upd (upd (upd mi 8 u.1) 2 u.2.2.2.2.2.2.2.1) 1 u.2.2.2.2.2.2.2.2.2.1) (va_up (va_up (va_up (va_up (va_up (va_up mf 7 u.2.1) 6 u.2.2.1) 9 u.2.2.2.2.2.1) 10 u.2.2.2.2.2.2.1) 49 u.2.2.2.2.2.2.2.2.2.2.1) 50 u.2.2.2.2.2.2.2.2.2.2.2) (va_up (va_up (va_up mg 4 u.2.2.2.1) 5 u.2.2.2.2.1) 3 u.2.2.2.2.2.2.2.2.1))) u)) A) ([.ref (mr 0), .ref (mr 11), .int z_n] : List Value).toArray s 0 0 A) (F0 m 106 ls []) := by
            intro k
            induction k with
            | zero =>
              intro x_223 w_224 g_225 g_226 g_227 g_228 _ _ _ hinv hm
              obtain ⟨hi_228_0, hi_228_1, hi_228_2, hi_228_3⟩ := hinv
              exact absurd hm (by omega)
            | succ k ih_229 =>
              intro x_223 w_224 g_225 g_226 g_227 g_228 H locs ls hinv hm hw230 hl231
              obtain ⟨hi_228_0, hi_228_1, hi_228_2, hi_228_3⟩ := hinv
              refine lv_iload (pc := 106) E.1 E.2.1 dX6_search_106 (lv_at hl231 0 rfl) ?_
              refine lv_iload_n (pc := 108) E.1 E.2.1 dX6_search_108 rfl (lv_at hl231 6 rfl) ?_
              refine lv_icmp_ge (pc := 109) (tgt := 155) E.1 E.2.1 dX6_search_109 (by decide) (fun c_232 => ?_) (fun c_232 => ?_)
              · skip
                have hc_232 := leE (a := z_n.toInt) (b := x_223.toInt) rfl rfl c_232
                refine lv_aload_n (pc := 155) E.1 E.2.1 dX6_search_155 rfl (lv_at hl231 4 rfl) ?_
                refine lv_aload_n (pc := 156) E.1 E.2.1 dX6_search_156 rfl (lv_at hl231 5 rfl) ?_
                refine lv_iload_n (pc := 157) E.1 E.2.1 dX6_search_157 rfl (lv_at hl231 3 rfl) ?_
                refine lv_iload (pc := 158) E.1 E.2.1 dX6_search_158 (lv_at hl231 2 rfl) ?_
                refine ck_v (pc := 160) (ws' := (fun (u : Int32 × (Nat → Int64)) => (WZ_PVO cI cJ mv mr (upd (upd mi 2 u.1) 8 nwants_7) (va_up (va_up (va_up (va_up (va_up (va_up mf 6 ghops_16) 7 gwanted_8) 9 g_227) 10 g_228) 49 gpmeasured_17) 50 gpmeasuredIn_18) (va_up (va_up (va_up mg 3 u.2) 4 g_225) 5 g_226)))) [true, true, true, true, true, true, true, true, true, true, true, true, true, true, true, true, true, true, true, true, true, true, true, true, true, true, true, true, true, true, true, true, true, true, true, true, true, true, true, true, true, true, true, true, true, true, true, true, true, true, true, true, true, true, true, true, true] hw230 rfl (fun hC_ => (rn_V (As := [.ref (mr 11), .int (mi 40), .int v_21]) (rest := []) E hw230 (t_choose l D cI cJ _ mr (upd mi 8 nwants_7) (va_up (va_up (va_up (va_up (va_up (va_up mf 6 ghops_16) 7 gwanted_8) 9 g_227) 10 g_228) 49 gpmeasured_17) 50 gpmeasuredIn_18) (va_up (va_up mg 4 g_225) 5 g_226) (mi 40) v_21 (vl [mv 0]) h0 h1 h2 ⟨hp_10, hp_11⟩ h0 (by show 1 ≤ v_21.toInt ∧ v_21.toInt ≤ 1024; omega) hp_12) (gdV q_1230 q_1232 q_37 q_170 q_1233) hdV_X6_choose ⟨rfl, rfl⟩ ⟨(Nat.le_of_ble_eq_true rfl), (Nat.le_of_ble_eq_true rfl)⟩ ⟨(Nat.le_of_ble_eq_true rfl), (Nat.le_of_ble_eq_true rfl)⟩ xT_b xT_at 0 6 rfl rfl rfl _ hC_ (nd_T _ 0) rfl hl231.1 rfl (Nat.le_of_ble_eq_true rfl) dX6_search_160)) rfl (fun _ => rfl) (fun _ => rfl) (fun u_233 H1 locs hp hw235 => ?_)
                obtain ⟨nmostWorth_236, gleastCost_237⟩ := u_233
                generalize H1 = H at hw235 ⊢
                have hw238 : WD D A s.heap (WZ_PVO cI cJ mv mr (upd (upd mi 2 nmostWorth_236) 8 nwants_7) (va_up (va_up (va_up (va_up (va_up (va_up mf 6 ghops_16) 7 gwanted_8) 9 g_227) 10 g_228) 49 gpmeasured_17) 50 gpmeasuredIn_18) (va_up (va_up (va_up mg 3 gleastCost_237) 4 g_225) 5 g_226)) H locs := hw235
                refine lv_aload_n (pc := 163) E.1 E.2.1 dX6_search_163 rfl (lv_at hl231 4 rfl) ?_
                refine lv_iload_n (pc := 164) E.1 E.2.1 dX6_search_164 rfl (lv_at hl231 6 rfl) ?_
                refine x_put (pc := 165) (T := TX6) (N := 10) (ci := 6) (ws' := (WZ_PVO cI cJ mv mr (upd (upd (upd mi 1 z_n) 2 nmostWorth_236) 8 nwants_7) (va_up (va_up (va_up (va_up (va_up (va_up mf 6 ghops_16) 7 gwanted_8) 9 g_227) 10 g_228) 49 gpmeasured_17) 50 gpmeasuredIn_18) (va_up (va_up (va_up mg 3 gleastCost_237) 4 g_225) 5 g_226))) E hw238 inX6 tyX6_ok nmX6 0 0 q_1160 rfl rfl (by decide) rfl rfl rfl rfl (Nat.le_of_ble_eq_true rfl) rfl dX6_search_165 (fun H locs hw239 => ?_)
                exact em_v (w1 := (fun (u : Int32 × (Nat → Int32) × (Nat → Int32) × (Nat → Int64) × (Nat → Int64) × (Nat → Int32) × (Nat → Int32) × Int32 × (Nat → Int64) × Int32 × (Nat → Int32) × (Nat → Int32)) => (WZ_PVO cI cJ mv mr (upd (upd (upd mi 8 u.1) 2 u.2.2.2.2.2.2.2.1) 1 u.2.2.2.2.2.2.2.2.2.1) (va_up (va_up (va_up (va_up (va_up (va_up mf 7 u.2.1) 6 u.2.2.1) 9 u.2.2.2.2.2.1) 10 u.2.2.2.2.2.2.1) 49 u.2.2.2.2.2.2.2.2.2.2.1) 50 u.2.2.2.2.2.2.2.2.2.2.2) (va_up (va_up (va_up mg 4 u.2.2.2.1) 5 u.2.2.2.2.1) 3 u.2.2.2.2.2.2.2.2.1)))) E hr hlk (nwants_7, gwanted_8, ghops_16, g_225, g_226, g_227, g_228, nmostWorth_236, gleastCost_237, z_n, gpmeasured_17, gpmeasuredIn_18) hw239 ⟨rfl, hp_10, hp_11, hi_228_2, hi_228_3, hp_12⟩ (Nat.le_of_ble_eq_true rfl) (Nat.le_of_ble_eq_true rfl) dX6_search_168
              · skip
                have hc_232 := nleE (a := z_n.toInt) (b := x_223.toInt) rfl rfl c_232
                refine lv_aload_n (pc := 112) E.1 E.2.1 dX6_search_112 rfl (lv_at hl231 4 rfl) ?_
                refine lv_aload_n (pc := 113) E.1 E.2.1 dX6_search_113 rfl (lv_at hl231 5 rfl) ?_
                refine lv_iload (pc := 114) E.1 E.2.1 dX6_search_114 (lv_at hl231 0 rfl) ?_
                refine ck_v (pc := 116) (ws' := (fun (u : (Nat → Int32) × (Nat → Int32)) => (WZ_PVO cI cJ mv mr (upd mi 8 nwants_7) (va_up (va_up (va_up (va_up (va_up (va_up mf 6 ghops_16) 7 gwanted_8) 9 u.1) 10 u.2) 49 gpmeasured_17) 50 gpmeasuredIn_18) (va_up (va_up mg 4 g_225) 5 g_226)))) [true, true, true, true, true, true, true, true, true, true, true, true, true, true, true, true, true, true, true, true, true, true, true, true, true, true, true, true, true, true, true, true, true, true, true, true, true, true, true, true, true, true, true, true, true, true, true, true, true, true, true, true, true, true, true, true, true] hw230 rfl (fun hC_ => (rn_V (As := [.ref (mr 11), .int x_223]) (rest := []) E hw230 (t_gatherServed l D cI cJ _ mr (upd mi 8 nwants_7) (va_up (va_up (va_up (va_up (va_up (va_up mf 6 ghops_16) 7 gwanted_8) 9 g_227) 10 g_228) 49 gpmeasured_17) 50 gpmeasuredIn_18) (va_up (va_up mg 4 g_225) 5 g_226) x_223 (vl [mv 0]) h0 h1 h2 ⟨hp_10, hp_11⟩ hi_228_2 hi_228_3 hp_12) (gdV q_1212 q_1214 q_33 q_170 q_1215) hdV_X6_gatherServed ⟨rfl, rfl⟩ ⟨(Nat.le_of_ble_eq_true rfl), (Nat.le_of_ble_eq_true rfl)⟩ ⟨(Nat.le_of_ble_eq_true rfl), (Nat.le_of_ble_eq_true rfl)⟩ xT_b xT_at 0 6 rfl rfl rfl _ hC_ (nd_T _ 0) rfl hl231.1 rfl (Nat.le_of_ble_eq_true rfl) dX6_search_116)) rfl (fun _ => rfl) (fun _ => rfl) (fun u_240 H1 locs hp hw242 => ?_)
                obtain ⟨gserved_243, gwed_244⟩ := u_240
                generalize H1 = H at hw242 ⊢
                have hw245 : WD D A s.heap (WZ_PVO cI cJ mv mr (upd mi 8 nwants_7) (va_up (va_up (va_up (va_up (va_up (va_up mf 6 ghops_16) 7 gwanted_8) 9 gserved_243) 10 gwed_244) 49 gpmeasured_17) 50 gpmeasuredIn_18) (va_up (va_up mg 4 g_225) 5 g_226)) H locs := hw242
                obtain ⟨hp_246, hp_247⟩ := hp
                refine lv_aload_n (pc := 119) E.1 E.2.1 dX6_search_119 rfl (lv_at hl231 4 rfl) ?_
                refine lv_iload_n (pc := 120) E.1 E.2.1 dX6_search_120 rfl (lv_at hl231 3 rfl) ?_
                refine lv_iload (pc := 121) E.1 E.2.1 dX6_search_121 (lv_at hl231 2 rfl) ?_
                refine lv_iload (pc := 123) E.1 E.2.1 dX6_search_123 (lv_at hl231 0 rfl) ?_
                refine lv_if_ne (pc := 125) (tgt := 135) E.1 E.2.1 dX6_search_125 (by decide) (fun c_248 => ?_) (fun c_248 => ?_)
                · skip
                  have hc_248 := neE (a := x_223.toInt) (b := 0) rfl (by decide +kernel) c_248
                  refine lv_null (pc := 135) E.1 E.2.1 dX6_search_135 ?_
                  refine lv_lload (pc := 136) E.1 E.2.1 dX6_search_136 (lv_at hl231 1 rfl) ?_
                  refine ck_v (pc := 138) (ws' := (fun (u : (Nat → Int64) × (Nat → Int64)) => (WZ_PVO cI cJ mv mr (upd mi 8 nwants_7) (va_up (va_up (va_up (va_up (va_up (va_up mf 6 ghops_16) 7 gwanted_8) 9 gserved_243) 10 gwed_244) 49 gpmeasured_17) 50 gpmeasuredIn_18) (va_up (va_up mg 4 u.1) 5 u.2)))) [true, true, true, true, true, true, true, false, false, false, false, false, false, false, false, false, false, false, false, false, false, false, false, false, false, false, false, false, false, false, false, false, false, false, false, false, false, false, false, false, false, false, false, false, false, false, false, false, false, false, false, false, false, false, false, false, false] hw245 rfl (fun hC_ => (rn_V (As := [.int (mi 40), .int v_21, .null, .long w_224]) (rest := []) E hw245 (t_spreadNight_n l D cI cJ _ mr (upd mi 8 nwants_7) (va_up (va_up (va_up (va_up (va_up (va_up mf 6 ghops_16) 7 gwanted_8) 9 gserved_243) 10 gwed_244) 49 gpmeasured_17) 50 gpmeasuredIn_18) (va_up (va_up mg 4 g_225) 5 g_226) (mi 40) v_21 w_224 h0 (by show 1 ≤ v_21.toInt ∧ v_21.toInt ≤ 1024; omega) hp_246 hp_247) (gdV q_1216 q_1218 q_34 q_170 q_1219) hdV_X6_spreadNight ⟨rfl, rfl⟩ ⟨(Nat.le_of_ble_eq_true rfl), (Nat.le_of_ble_eq_true rfl)⟩ ⟨(Nat.le_of_ble_eq_true rfl), (Nat.le_of_ble_eq_true rfl)⟩ xT_b xT_at 0 6 rfl rfl rfl _ hC_ (nd_T _ 0) rfl hl231.1 rfl (Nat.le_of_ble_eq_true rfl) dX6_search_138)) rfl (fun _ => rfl) (fun _ => rfl) (fun u_249 H1 locs hp hw251 => ?_)
                  obtain ⟨gcosts_252, glifted_253⟩ := u_249
                  generalize H1 = H at hw251 ⊢
                  have hw254 : WD D A s.heap (WZ_PVO cI cJ mv mr (upd mi 8 nwants_7) (va_up (va_up (va_up (va_up (va_up (va_up mf 6 ghops_16) 7 gwanted_8) 9 gserved_243) 10 gwed_244) 49 gpmeasured_17) 50 gpmeasuredIn_18) (va_up (va_up mg 4 gcosts_252) 5 glifted_253)) H locs := hw251
                  refine lv_lload (pc := 141) E.1 E.2.1 dX6_search_141 (lv_at hl231 1 rfl) ?_
                  refine lv_ldc2 (pc := 143) (v := 10) E.1 E.2.1 E.2.2.2.1 (E.2.2.2.2.1 _ q_1211) dX6_search_143 ?_
                  refine lv_ldiv (pc := 146) E.1 E.2.1 dX6_search_146 (by decide +kernel) ?_
                  refine lv_topl (fun w_255 ew_255 => ?_)
                  refine lv_lstore (pc := 147) (lv' := [(5, .long w_255), (7, .int x_223), (4, .int v_21), (3, .int (mi 40)), (0, .ref (mr 0)), (1, .ref (mr 11)), (2, .int z_n)]) E.1 E.2.1 dX6_search_147 hl231 (by decide) rfl (fun ls hl256 => ?_)
                  obtain ⟨v_257, ev_257⟩ : ∃ z : Int32, x_223 + Int32.ofInt (1) = z := ⟨_, rfl⟩
                  have hv_257 : v_257.toInt = x_223.toInt + (1) := by rw [← ev_257]; exact incE rfl (by decide) (by omega)
                  refine lv_iinc (pc := 149) (v := v_257) (lv' := [(7, .int v_257), (5, .long w_255), (4, .int v_21), (3, .int (mi 40)), (0, .ref (mr 0)), (1, .ref (mr 11)), (2, .int z_n)]) E.1 E.2.1 dX6_search_149 hl256 (k := 1) rfl ev_257 (by decide) rfl (fun ls hl258 => ?_)
                  refine lv_goto (pc := 152) (tgt := 106) E.1 E.2.1 dX6_search_152 (by decide) ?_
                  exact ih_229 v_257 w_255 gcosts_252 glifted_253 gserved_243 gwed_244 _ _ _ ⟨(by show 0 ≤ v_257.toInt; omega), (by show v_257.toInt ≤ z_n.toInt; omega), hp_246, hp_247⟩ (by omega) hw254 (lv_sub hl258 [0, 1, 2, 3, 4, 5, 6] rfl)
                · skip
                  have hc_248 := eqE (a := x_223.toInt) (b := 0) rfl (by decide +kernel) c_248
                  refine lv_aload_n (pc := 128) E.1 E.2.1 dX6_search_128 rfl (lv_at hl231 5 rfl) ?_
                  refine x_get (pc := 129) (T := TX10) (N := 17) (ci := 10) (v := .ref (mr 21)) E hw245 inX10 7 0 q_459 rfl rfl (by decide) rfl rfl dX6_search_129 ?_
                  refine lv_goto (pc := 132) (tgt := 136) E.1 E.2.1 dX6_search_132 (by decide) ?_
                  refine lv_lload (pc := 136) E.1 E.2.1 dX6_search_136 (lv_at hl231 1 rfl) ?_
                  refine ck_v (pc := 138) (ws' := (fun (u : (Nat → Int64) × (Nat → Int64)) => (WZ_PVO cI cJ mv mr (upd mi 8 nwants_7) (va_up (va_up (va_up (va_up (va_up (va_up mf 6 ghops_16) 7 gwanted_8) 9 gserved_243) 10 gwed_244) 49 gpmeasured_17) 50 gpmeasuredIn_18) (va_up (va_up mg 4 u.1) 5 u.2)))) [true, true, true, true, true, true, true, false, false, false, false, false, false, true, true, true, true, true, true, false, false, false, false, false, false, false, false, false, false, false, false, false, false, false, false, false, false, false, false, false, false, false, false, false, false, false, false, false, false, false, false, false, false, false, false, false, false] hw245 rfl (fun hC_ => (rn_V (As := [.int (mi 40), .int v_21, .ref (mr 21), .long w_224]) (rest := []) E hw245 (t_spreadNight_s l D cI cJ _ (shg 11 0 10 mr) (shg 11 0 10 (upd mi 8 nwants_7)) (shg 11 0 10 (va_up (va_up (va_up (va_up (va_up (va_up mf 6 ghops_16) 7 gwanted_8) 9 gserved_243) 10 gwed_244) 49 gpmeasured_17) 50 gpmeasuredIn_18)) (shg 11 0 10 (va_up (va_up mg 4 g_225) 5 g_226)) (mi 40) v_21 w_224 h0 (by show 1 ≤ v_21.toInt ∧ v_21.toInt ≤ 1024; omega) hp_246 hp_247) (gdV q_1216 q_1218 q_34 q_170 q_1219) hdV_X6_spreadNight ⟨rfl, rfl⟩ ⟨(Nat.le_of_ble_eq_true rfl), (Nat.le_of_ble_eq_true rfl)⟩ ⟨(Nat.le_of_ble_eq_true rfl), (Nat.le_of_ble_eq_true rfl)⟩ xT_b xT_at 0 6 rfl rfl rfl _ hC_ (nd_T _ 0) rfl hl231.1 rfl (Nat.le_of_ble_eq_true rfl) dX6_search_138)) rfl (fun _ => rfl) (fun _ => rfl) (fun u_259 H1 locs hp hw261 => ?_)
                  obtain ⟨gcosts_262, glifted_263⟩ := u_259
                  generalize H1 = H at hw261 ⊢
                  have hw264 : WD D A s.heap (WZ_PVO cI cJ mv mr (upd mi 8 nwants_7) (va_up (va_up (va_up (va_up (va_up (va_up mf 6 ghops_16) 7 gwanted_8) 9 gserved_243) 10 gwed_244) 49 gpmeasured_17) 50 gpmeasuredIn_18) (va_up (va_up mg 4 gcosts_262) 5 glifted_263)) H locs := hw261
                  refine lv_lload (pc := 141) E.1 E.2.1 dX6_search_141 (lv_at hl231 1 rfl) ?_
                  refine lv_ldc2 (pc := 143) (v := 10) E.1 E.2.1 E.2.2.2.1 (E.2.2.2.2.1 _ q_1211) dX6_search_143 ?_
                  refine lv_ldiv (pc := 146) E.1 E.2.1 dX6_search_146 (by decide +kernel) ?_
                  refine lv_topl (fun w_265 ew_265 => ?_)
                  refine lv_lstore (pc := 147) (lv' := [(5, .long w_265), (7, .int x_223), (4, .int v_21), (3, .int (mi 40)), (0, .ref (mr 0)), (1, .ref (mr 11)), (2, .int z_n)]) E.1 E.2.1 dX6_search_147 hl231 (by decide) rfl (fun ls hl266 => ?_)
                  obtain ⟨v_267, ev_267⟩ : ∃ z : Int32, x_223 + Int32.ofInt (1) = z := ⟨_, rfl⟩
                  have hv_267 : v_267.toInt = x_223.toInt + (1) := by rw [← ev_267]; exact incE rfl (by decide) (by omega)
                  refine lv_iinc (pc := 149) (v := v_267) (lv' := [(7, .int v_267), (5, .long w_265), (4, .int v_21), (3, .int (mi 40)), (0, .ref (mr 0)), (1, .ref (mr 11)), (2, .int z_n)]) E.1 E.2.1 dX6_search_149 hl266 (k := 1) rfl ev_267 (by decide) rfl (fun ls hl268 => ?_)
                  refine lv_goto (pc := 152) (tgt := 106) E.1 E.2.1 dX6_search_152 (by decide) ?_
                  exact ih_229 v_267 w_265 gcosts_262 glifted_263 gserved_243 gwed_244 _ _ _ ⟨(by show 0 ≤ v_267.toInt; omega), (by show v_267.toInt ≤ z_n.toInt; omega), hp_246, hp_247⟩ (by omega) hw264 (lv_sub hl268 [0, 1, 2, 3, 4, 5, 6] rfl)
          exact loop_222 (Int.toNat (z_n.toInt - 0) + 1) 0 r_216 g_26 (mg 5) (mf 9) (mf 10) _ _ _ ⟨(by show 0 ≤ (0 : Int32).toInt; have k_0 : (0 : Int32).toInt = 0 := (by decide +kernel); omega), (by show (0 : Int32).toInt ≤ z_n.toInt; have k_0 : (0 : Int32).toInt = 0 := (by decide +kernel); omega), a_served, a_wed⟩ (by have k_0 : (0 : Int32).toInt = 0 := (by decide +kernel); omega) hw218 (lv_sub hl221 [0, 1, 2, 3, 4, 5, 6] rfl)
      · skip
        have hc_31 := nleE (a := v_30.toInt) (b := x_25.toInt) rfl rfl c_31
        refine lv_iload (pc := 39) E.1 E.2.1 dX6_search_39 (lv_at hl29 0 rfl) ?_
        refine lv_aload_n (pc := 41) E.1 E.2.1 dX6_search_41 rfl (lv_at hl29 3 rfl) ?_
        refine x_get (pc := 42) (T := TX6) (N := 10) (ci := 6) (v := .ref (mr 4)) E hw28 inX6 0 3 q_1165 rfl rfl (by decide) rfl rfl dX6_search_42 ?_
        refine va_alen (pc := 45) E.1 E.2.1 E.2.2.2.2.2 hw28.1 1 1 rfl rfl (v := 10240) (show Int32.ofNat 10240 = 10240 from by decide +kernel) dX6_search_45 ?_
        refine lv_icmp_ge (pc := 46) (tgt := 65) E.1 E.2.1 dX6_search_46 (by decide) (fun c_269 => absurd c_269 (mnleE (a := 10240) (b := x_25.toInt) (by decide +kernel) rfl (by omega))) (fun _ => ?_)
        refine lv_aload_n (pc := 49) E.1 E.2.1 dX6_search_49 rfl (lv_at hl29 3 rfl) ?_
        refine x_get (pc := 50) (T := TX6) (N := 10) (ci := 6) (v := .ref (mr 4)) E hw28 inX6 0 3 q_1165 rfl rfl (by decide) rfl rfl dX6_search_50 ?_
        refine lv_iload (pc := 53) E.1 E.2.1 dX6_search_53 (lv_at hl29 0 rfl) ?_
        refine lv_ldc2 (pc := 55) (v := (-1)) E.1 E.2.1 E.2.2.2.1 (E.2.2.2.2.1 _ q_1206) dX6_search_55 ?_
        refine x_lastO (pc := 58) (f := g_26) (wf := fun g => (WZ_PVO cI cJ mv mr (upd mi 8 nwants_7) (va_up (va_up (va_up (va_up mf 6 ghops_16) 7 gwanted_8) 49 gpmeasured_17) 50 gpmeasuredIn_18) (va_up mg 4 g))) E hw28 1 rfl (inbE (a := x_25.toInt) rfl (by omega)) (fun _ => rfl) dX6_search_58 (fun g_270 H locs hw271 => ?_)
        obtain ⟨v_272, ev_272⟩ : ∃ z : Int32, x_25 + Int32.ofInt (1) = z := ⟨_, rfl⟩
        have hv_272 : v_272.toInt = x_25.toInt + (1) := by rw [← ev_272]; exact incE rfl (by decide) (by omega)
        refine lv_iinc (pc := 59) (v := v_272) (lv' := [(5, .int v_272), (4, .int v_21), (3, .int (mi 40)), (0, .ref (mr 0)), (1, .ref (mr 11)), (2, .int z_n)]) E.1 E.2.1 dX6_search_59 hl29 (k := 0) rfl ev_272 (by decide) rfl (fun ls hl273 => ?_)
        refine lv_goto (pc := 62) (tgt := 30) E.1 E.2.1 dX6_search_62 (by decide) ?_
        exact ih_27 v_272 g_270 _ _ _ ⟨(by show 0 ≤ v_272.toInt; omega), (by show v_272.toInt ≤ 10240; omega)⟩ (by omega) hw271 (lv_sub hl273 [0, 1, 2, 3, 4, 5] rfl)
  exact loop_24 (Int.toNat (10240 - 0) + 1) 0 (mg 4) _ _ _ ⟨(by show 0 ≤ (0 : Int32).toInt; have k_0 : (0 : Int32).toInt = 0 := (by decide +kernel); omega), (by show (0 : Int32).toInt ≤ 10240; have k_0 : (0 : Int32).toInt = 0 := (by decide +kernel); omega)⟩ (by have k_0 : (0 : Int32).toInt = 0 := (by decide +kernel); omega) hw19 (lv_sub hl23 [0, 1, 2, 3, 4, 5] rfl)
