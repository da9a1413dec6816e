set_option maxHeartbeats 4000000 in
set_option maxRecDepth 100000 in
theorem t_gatherHops (l : Launch) (D : va_G) (cI cJ : ClassId) (sz : Nat) (mr : Nat → Nat) (mi : Nat → Int32) (mf : Nat → Nat → Int32) (mg : Nat → Nat → Int64)  (mv : Nat → Value) (h0 : 0 ≤ (mi 40).toInt ∧ (mi 40).toInt ≤ 10) (h1 : 0 ≤ (mi 48).toInt ∧ (mi 48).toInt ≤ 40) (h2 : 0 ≤ (mi 57).toInt ∧ (mi 57).toInt ≤ 10) (a_p_from : p9 (mf 44)) (a_p_to : p9 (mf 45)) : Met l yX6_gatherHops (Cond.code yX6_gatherHops cX6_gatherHops 5 none :: GW) ({ frames := 4, cells := 0, slots := 0, locals := 115 } : Room) (va_Pc [.ref (mr 0), .ref (mr 11)] (PW D cI cJ sz (WZ_PVO cI cJ mv mr mi mf mg) xT)) (va_Qv (fun (u : (Nat → Int32) × (Nat → Int32) × (Nat → Int32)) => True) (fun u => QW D cI cJ (va_A (WZ_PVO cI cJ mv mr mi mf mg) sz) ((fun (u : (Nat → Int32) × (Nat → Int32) × (Nat → Int32)) => (WZ_PVO cI cJ mv mr mi (va_up (va_up (va_up mf 6 u.1) 49 u.2.1) 50 u.2.2) mg)) u)) (va_A (WZ_PVO cI cJ mv mr mi mf mg) sz)) 0 0 (va_A (WZ_PVO cI cJ mv mr mi mf mg) sz) := by
  refine mk_met (y := yX6_gatherHops) (bytes := cX6_gatherHops) (maxL := 5) (avs := [.ref (mr 0), .ref (mr 11)]) (WS := (WZ_PVO cI cJ mv mr mi mf mg)) (Qf := fun A => va_Qv (fun (u : (Nat → Int32) × (Nat → Int32) × (Nat → Int32)) => True) (fun u => QW D cI cJ A ((fun (u : (Nat → Int32) × (Nat → Int32) × (Nat → Int32)) => (WZ_PVO cI cJ mv mr mi (va_up (va_up (va_up mf 6 u.1) 49 u.2.1) 50 u.2.2) mg)) u)) A) (by decide) (Nat.le_of_ble_eq_true rfl) ?_
  intro p e s m below meth c A ls E hr hlk hnm hX hw1 hl2
  have hl3 : lv_has ls 5 [(0, .ref (mr 0)), (1, .ref (mr 11))] := hl2
  refine lv_iconst (pc := 0) (v := 0) E.1 E.2.1 dX6_gatherHops_0 (by decide +kernel) ?_
  refine lv_istore_n (pc := 1) (lv' := [(2, .int 0), (0, .ref (mr 0)), (1, .ref (mr 11))]) E.1 E.2.1 dX6_gatherHops_1 rfl hl3 (by decide) rfl (fun ls hl4 => ?_)
  have loop_5 : ∀ (k : Nat) (x_6 : Int32) (g_7 : Nat → Int32) (g_8 : Nat → Int32) (g_9 : Nat → Int32) (H : Heap) (locs : List Loc) (ls : Array Slot), (0 ≤ x_6.toInt) ∧ (x_6.toInt ≤ (mi 40).toInt) → (mi 40).toInt - x_6.toInt < (k : Int) → WD D A s.heap (WZ_PVO cI cJ mv mr mi (va_up (va_up (va_up mf 6 g_7) 49 g_8) 50 g_9) mg) H locs → lv_has ls 5 [(2, .int x_6), (0, .ref (mr 0)), (1, .ref (mr 11))] → W p l e ({ frames := 4, cells := 0, slots := 0, locals := 115 } : Room) s m ([.ref (mr 0), .ref (mr 11)] : List Value).toArray below meth c H locs 0 0 (MQ below (va_Qv (fun (u : (Nat → Int32) × (Nat → Int32) × (Nat → Int32)) => True) (fun u => QW D cI cJ A ((fun (u : (Nat → Int32) × (Nat → Int32) × (Nat → Int32)) => (WZ_PVO cI cJ mv mr mi (va_up (va_up (va_up mf 6 u.1) 49 u.2.1) 50 u.2.2) mg)) u)) A) ([.ref (mr 0), .ref (mr 11)] : List Value).toArray s 0 0 A) (F0 m 2 ls []) := by
    intro k
    induction k with
    | zero =>
      intro x_6 g_7 g_8 g_9 _ _ _ hinv hm
      obtain ⟨hi_9_0, hi_9_1⟩ := hinv
      exact absurd hm (by omega)
    | succ k ih_10 =>
      intro x_6 g_7 g_8 g_9 H locs ls hinv hm hw11 hl12
      obtain ⟨hi_9_0, hi_9_1⟩ := hinv
      refine lv_iload_n (pc := 2) E.1 E.2.1 dX6_gatherHops_2 rfl (lv_at hl12 0 rfl) ?_
      refine lv_aload_n (pc := 3) E.1 E.2.1 dX6_gatherHops_3 rfl (lv_at hl12 2 rfl) ?_
      refine x_get (pc := 4) (T := TX10) (N := 17) (ci := 10) (v := .ref (mr 34)) E hw11 inX10 7 1 q_462 rfl rfl (by decide) rfl rfl dX6_gatherHops_4 ?_
      refine x_get (pc := 7) (T := TX1) (N := 9) (ci := 1) (v := .int (mi 40)) E hw11 inX1 19 5 q_280 rfl rfl (by decide) rfl rfl dX6_gatherHops_7 ?_
      refine lv_icmp_ge (pc := 10) (tgt := 82) E.1 E.2.1 dX6_gatherHops_10 (by decide) (fun c_13 => ?_) (fun c_13 => ?_)
      · skip
        have hc_13 := leE (a := (mi 40).toInt) (b := x_6.toInt) rfl rfl c_13
        exact em_v (w1 := (fun (u : (Nat → Int32) × (Nat → Int32) × (Nat → Int32)) => (WZ_PVO cI cJ mv mr mi (va_up (va_up (va_up mf 6 u.1) 49 u.2.1) 50 u.2.2) mg))) E hr hlk (g_7, g_8, g_9) hw11 trivial (Nat.le_of_ble_eq_true rfl) (Nat.le_of_ble_eq_true rfl) dX6_gatherHops_82
      · skip
        have hc_13 := nleE (a := (mi 40).toInt) (b := x_6.toInt) rfl rfl c_13
        refine lv_iconst (pc := 13) (v := 0) E.1 E.2.1 dX6_gatherHops_13 (by decide +kernel) ?_
        refine lv_istore_n (pc := 14) (lv' := [(3, .int 0), (2, .int x_6), (0, .ref (mr 0)), (1, .ref (mr 11))]) E.1 E.2.1 dX6_gatherHops_14 rfl hl12 (by decide) rfl (fun ls hl14 => ?_)
        have loop_15 : ∀ (k : Nat) (x_16 : Int32) (g_17 : Nat → Int32) (g_18 : Nat → Int32) (g_19 : Nat → Int32) (H : Heap) (locs : List Loc) (ls : Array Slot), (0 ≤ x_16.toInt) ∧ (x_16.toInt ≤ (mi 40).toInt) → (mi 40).toInt - x_16.toInt < (k : Int) → WD D A s.heap (WZ_PVO cI cJ mv mr mi (va_up (va_up (va_up mf 6 g_17) 49 g_18) 50 g_19) mg) H locs → lv_has ls 5 [(3, .int x_16), (2, .int x_6), (0, .ref (mr 0)), (1, .ref (mr 11))] → W p l e ({ frames := 4, cells := 0, slots := 0, locals := 115 } : Room) s m ([.ref (mr 0), .ref (mr 11)] : List Value).toArray below meth c H locs 0 0 (MQ below (va_Qv (fun (u : (Nat → Int32) × (Nat → Int32) × (Nat → Int32)) => True) (fun u => QW D cI cJ A ((fun (u : (Nat → Int32) × (Nat → Int32) × (Nat → Int32)) => (WZ_PVO cI cJ mv mr mi (va_up (va_up (va_up mf 6 u.1) 49 u.2.1) 50 u.2.2) mg)) u)) A) ([.ref (mr 0), .ref (mr 11)] : List Value).toArray s 0 0 A) (F0 m 15 ls []) := by
          intro k
          induction k with
          | zero =>
            intro x_16 g_17 g_18 g_19 _ _ _ hinv hm
            obtain ⟨hi_19_0, hi_19_1⟩ := hinv
            exact absurd hm (by omega)
          | succ k ih_20 =>
            intro x_16 g_17 g_18 g_19 H locs ls hinv hm hw21 hl22
            obtain ⟨hi_19_0, hi_19_1⟩ := hinv
            refine lv_iload_n (pc := 15) E.1 E.2.1 dX6_gatherHops_15 rfl (lv_at hl22 0 rfl) ?_
            refine lv_aload_n (pc := 16) E.1 E.2.1 dX6_gatherHops_16 rfl (lv_at hl22 3 rfl) ?_
            refine x_get (pc := 17) (T := TX10) (N := 17) (ci := 10) (v := .ref (mr 34)) E hw21 inX10 7 1 q_462 rfl rfl (by decide) rfl rfl dX6_gatherHops_17 ?_
            refine x_get (pc := 20) (T := TX1) (N := 9) (ci := 1) (v := .int (mi 40)) E hw21 inX1 19 5 q_280 rfl rfl (by decide) rfl rfl dX6_gatherHops_20 ?_
            refine lv_icmp_ge (pc := 23) (tgt := 76) E.1 E.2.1 dX6_gatherHops_23 (by decide) (fun c_23 => ?_) (fun c_23 => ?_)
            · skip
              have hc_23 := leE (a := (mi 40).toInt) (b := x_16.toInt) rfl rfl c_23
              obtain ⟨v_24, ev_24⟩ : ∃ z : Int32, x_6 + Int32.ofInt (1) = z := ⟨_, rfl⟩
              have hv_24 : v_24.toInt = x_6.toInt + (1) := by rw [← ev_24]; exact incE rfl (by decide) (by omega)
              refine lv_iinc (pc := 76) (v := v_24) (lv' := [(2, .int v_24), (3, .int x_16), (0, .ref (mr 0)), (1, .ref (mr 11))]) E.1 E.2.1 dX6_gatherHops_76 hl22 (k := 1) rfl ev_24 (by decide) rfl (fun ls hl25 => ?_)
              refine lv_goto (pc := 79) (tgt := 2) E.1 E.2.1 dX6_gatherHops_79 (by decide) ?_
              exact ih_10 v_24 g_17 g_18 g_19 _ _ _ ⟨(by show 0 ≤ v_24.toInt; omega), (by show v_24.toInt ≤ (mi 40).toInt; omega)⟩ (by omega) hw21 (lv_sub hl25 [0, 2, 3] rfl)
            · skip
              have hc_23 := nleE (a := (mi 40).toInt) (b := x_16.toInt) rfl rfl c_23
              refine lv_aload_n (pc := 26) E.1 E.2.1 dX6_gatherHops_26 rfl (lv_at hl22 3 rfl) ?_
              refine x_get (pc := 27) (T := TX10) (N := 17) (ci := 10) (v := .ref (mr 43)) E hw21 inX10 7 2 q_465 rfl rfl (by decide) rfl rfl dX6_gatherHops_27 ?_
              refine lv_iload_n (pc := 30) E.1 E.2.1 dX6_gatherHops_30 rfl (lv_at hl22 1 rfl) ?_
              refine lv_iload_n (pc := 31) E.1 E.2.1 dX6_gatherHops_31 rfl (lv_at hl22 0 rfl) ?_
              refine lv_aload_n (pc := 32) E.1 E.2.1 dX6_gatherHops_32 rfl (lv_at hl22 3 rfl) ?_
              refine x_get (pc := 33) (T := TX10) (N := 17) (ci := 10) (v := .ref (mr 21)) E hw21 inX10 7 0 q_459 rfl rfl (by decide) rfl rfl dX6_gatherHops_33 ?_
              refine x_get (pc := 36) (T := TX4) (N := 12) (ci := 4) (v := .int (mi 30)) E hw21 inX4 13 8 q_224 rfl rfl (by decide) rfl rfl dX6_gatherHops_36 ?_
              refine ck_i (pc := 39) (ws' := (fun (u : (Nat → Int32) × (Nat → Int32)) => (WZ_PVO cI cJ mv mr mi (va_up (va_up (va_up mf 6 g_17) 49 u.1) 50 u.2) mg))) [false, false, false, false, false, false, false, false, false, false, false, false, false, false, false, false, false, false, false, false, false, false, false, false, false, false, false, true, true, true, true, true, true, true, false, false, false, false, false, false, false, false, false, false, false, false, false, false, false, false, false, false, false, false, false, false, false] hw21 rfl (fun hC_ => (rn_V (As := [.int x_6, .int x_16, .int (mi 30)]) (rest := []) E hw21 (t_apart l D cI cJ _ (shf 43 mr) (shf 43 mi) (shf 43 (va_up (va_up (va_up mf 6 g_17) 49 g_18) 50 g_19)) (shf 43 mg) x_6 x_16 (mi 30) h1 a_p_from a_p_to) (gdV q_1205 q_1017 q_1018 q_155 q_1019) hdV_X5_apart ⟨rfl, rfl⟩ ⟨(Nat.le_of_ble_eq_true rfl), (Nat.le_of_ble_eq_true rfl)⟩ ⟨(Nat.le_of_ble_eq_true rfl), (Nat.le_of_ble_eq_true rfl)⟩ xT_b xT_at 27 5 rfl rfl rfl _ hC_ (nd_T _ 0) rfl hl22.1 rfl (Nat.le_of_ble_eq_true rfl) dX6_gatherHops_39)) rfl (fun _ => rfl) (fun _ => rfl) (fun r_27 u_26 H1 locs hp hw28 => ?_)
              obtain ⟨gmeasured_29, gmeasuredIn_30⟩ := u_26
              generalize H1 = H at hw28 ⊢
              have hw31 : WD D A s.heap (WZ_PVO cI cJ mv mr mi (va_up (va_up (va_up mf 6 g_17) 49 gmeasured_29) 50 gmeasuredIn_30) mg) H locs := hw28
              refine lv_istore (pc := 42) (lv' := [(4, .int r_27), (3, .int x_16), (2, .int x_6), (0, .ref (mr 0)), (1, .ref (mr 11))]) E.1 E.2.1 dX6_gatherHops_42 hl22 (by decide) rfl (fun ls hl32 => ?_)
              refine lv_aload_n (pc := 44) E.1 E.2.1 dX6_gatherHops_44 rfl (lv_at hl32 3 rfl) ?_
              refine x_get (pc := 45) (T := TX6) (N := 10) (ci := 6) (v := .ref (mr 6)) E hw31 inX6 0 5 q_1167 rfl rfl (by decide) rfl rfl dX6_gatherHops_45 ?_
              refine lv_iload_n (pc := 48) E.1 E.2.1 dX6_gatherHops_48 rfl (lv_at hl32 2 rfl) ?_
              refine lv_bipush (pc := 49) (v := 10) E.1 E.2.1 dX6_gatherHops_49 (by decide +kernel) ?_
              refine lv_imul (pc := 51) E.1 E.2.1 dX6_gatherHops_51 ?_
              refine lv_topi (fun v_33 ev_33 => ?_)
              have hv_33 : v_33.toInt = x_6.toInt * 10 := by rw [ev_33]; exact mulE rfl (by decide +kernel) (by omega)
              refine lv_iload_n (pc := 52) E.1 E.2.1 dX6_gatherHops_52 rfl (lv_at hl32 1 rfl) ?_
              refine lv_iadd (pc := 53) E.1 E.2.1 dX6_gatherHops_53 ?_
              refine lv_topi (fun v_34 ev_34 => ?_)
              have hv_34 : v_34.toInt = v_33.toInt + x_16.toInt := by rw [ev_34]; exact addE rfl rfl (by omega)
              refine lv_iload (pc := 54) E.1 E.2.1 dX6_gatherHops_54 (lv_at hl32 0 rfl) ?_
              refine lv_aload_n (pc := 56) E.1 E.2.1 dX6_gatherHops_56 rfl (lv_at hl32 4 rfl) ?_
              refine x_get (pc := 57) (T := TX10) (N := 17) (ci := 10) (v := .int (mi 15)) E hw31 inX10 7 11 q_486 rfl rfl (by decide) rfl rfl dX6_gatherHops_57 ?_
              refine lv_icmp_gt (pc := 60) (tgt := 68) E.1 E.2.1 dX6_gatherHops_60 (by decide) (fun c_35 => ?_) (fun c_35 => ?_)
              · skip
                have hc_35 := ltE (a := (mi 15).toInt) (b := r_27.toInt) rfl rfl c_35
                refine lv_iconst (pc := 68) (v := (-1)) E.1 E.2.1 dX6_gatherHops_68 (by decide +kernel) ?_
                refine x_iastG (pc := 69) (f := g_17) (wf := fun g => (WZ_PVO cI cJ mv mr mi (va_up (va_up (va_up mf 6 g) 49 gmeasured_29) 50 gmeasuredIn_30) mg)) E hw31 3 rfl (inbE (a := v_34.toInt) rfl (by omega)) (fun _ => rfl) dX6_gatherHops_69 (fun g_36 H locs eg_36 hw37 => ?_)
                obtain ⟨v_38, ev_38⟩ : ∃ z : Int32, x_16 + Int32.ofInt (1) = z := ⟨_, rfl⟩
                have hv_38 : v_38.toInt = x_16.toInt + (1) := by rw [← ev_38]; exact incE rfl (by decide) (by omega)
                refine lv_iinc (pc := 70) (v := v_38) (lv' := [(3, .int v_38), (4, .int r_27), (2, .int x_6), (0, .ref (mr 0)), (1, .ref (mr 11))]) E.1 E.2.1 dX6_gatherHops_70 hl32 (k := 1) rfl ev_38 (by decide) rfl (fun ls hl39 => ?_)
                refine lv_goto (pc := 73) (tgt := 15) E.1 E.2.1 dX6_gatherHops_73 (by decide) ?_
                exact ih_20 v_38 g_36 gmeasured_29 gmeasuredIn_30 _ _ _ ⟨(by show 0 ≤ v_38.toInt; omega), (by show v_38.toInt ≤ (mi 40).toInt; omega)⟩ (by omega) hw37 (lv_sub hl39 [0, 2, 3, 4] rfl)
              · skip
                have hc_35 := nltE (a := (mi 15).toInt) (b := r_27.toInt) rfl rfl c_35
                refine lv_iload (pc := 63) E.1 E.2.1 dX6_gatherHops_63 (lv_at hl32 0 rfl) ?_
                refine lv_goto (pc := 65) (tgt := 69) E.1 E.2.1 dX6_gatherHops_65 (by decide) ?_
                refine x_iastG (pc := 69) (f := g_17) (wf := fun g => (WZ_PVO cI cJ mv mr mi (va_up (va_up (va_up mf 6 g) 49 gmeasured_29) 50 gmeasuredIn_30) mg)) E hw31 3 rfl (inbE (a := v_34.toInt) rfl (by omega)) (fun _ => rfl) dX6_gatherHops_69 (fun g_40 H locs eg_40 hw41 => ?_)
                obtain ⟨v_42, ev_42⟩ : ∃ z : Int32, x_16 + Int32.ofInt (1) = z := ⟨_, rfl⟩
                have hv_42 : v_42.toInt = x_16.toInt + (1) := by rw [← ev_42]; exact incE rfl (by decide) (by omega)
                refine lv_iinc (pc := 70) (v := v_42) (lv' := [(3, .int v_42), (4, .int r_27), (2, .int x_6), (0, .ref (mr 0)), (1, .ref (mr 11))]) E.1 E.2.1 dX6_gatherHops_70 hl32 (k := 1) rfl ev_42 (by decide) rfl (fun ls hl43 => ?_)
                refine lv_goto (pc := 73) (tgt := 15) E.1 E.2.1 dX6_gatherHops_73 (by decide) ?_
                exact ih_20 v_42 g_40 gmeasured_29 gmeasuredIn_30 _ _ _ ⟨(by show 0 ≤ v_42.toInt; omega), (by show v_42.toInt ≤ (mi 40).toInt; omega)⟩ (by omega) hw41 (lv_sub hl43 [0, 2, 3, 4] rfl)
        exact loop_15 (Int.toNat ((mi 40).toInt - 0) + 1) 0 g_7 g_8 g_9 _ _ _ ⟨(by show 0 ≤ (0 : Int32).toInt; have k_0 : (0 : Int32).toInt = 0 := (by decide +kernel); omega), (by show (0 : Int32).toInt ≤ (mi 40).toInt; have k_0 : (0 : Int32).toInt = 0 := (by decide +kernel); omega)⟩ (by have k_0 : (0 : Int32).toInt = 0 := (by decide +kernel); omega) hw11 (lv_sub hl14 [0, 1, 2, 3] rfl)
  exact loop_5 (Int.toNat ((mi 40).toInt - 0) + 1) 0 (mf 6) (mf 49) (mf 50) _ _ _ ⟨(by show 0 ≤ (0 : Int32).toInt; have k_0 : (0 : Int32).toInt = 0 := (by decide +kernel); omega), (by show (0 : Int32).toInt ≤ (mi 40).toInt; have k_0 : (0 : Int32).toInt = 0 := (by decide +kernel); omega)⟩ (by have k_0 : (0 : Int32).toInt = 0 := (by decide +kernel); omega) hw1 (lv_sub hl4 [0, 1, 2] rfl)
set_option maxHeartbeats 4000000 in
set_option maxRecDepth 100000 in
theorem t_gatherServed (l : Launch) (D : va_G) (cI cJ : ClassId) (sz : Nat) (mr : Nat → Nat) (mi : Nat → Int32) (mf : Nat → Nat → Int32) (mg : Nat → Nat → Int64) (z_k : Int32) (mv : Nat → Value) (h0 : 0 ≤ (mi 40).toInt ∧ (mi 40).toInt ≤ 10) (h1 : 0 ≤ (mi 48).toInt ∧ (mi 48).toInt ≤ 40) (h2 : 0 ≤ (mi 57).toInt ∧ (mi 57).toInt ≤ 10) (h3 : 0 ≤ (mi 8).toInt ∧ (mi 8).toInt ≤ 10) (a_served : s1k (mf 9)) (a_wed : s1k (mf 10)) (a_wanted : w9 (mf 7)) : Met l yX6_gatherServed (Cond.code yX6_gatherServed cX6_gatherServed 7 none :: GW) ({ frames := 1, cells := 0, slots := 0, locals := 40 } : Room) (va_Pc [.ref (mr 0), .ref (mr 11), .int z_k] (PW D cI cJ sz (WZ_PVO cI cJ mv mr mi mf mg) xT)) (va_Qv (fun (u : (Nat → Int32) × (Nat → Int32)) => (s1k u.1) ∧ (s1k u.2)) (fun u => QW D cI cJ (va_A (WZ_PVO cI cJ mv mr mi mf mg) sz) ((fun (u : (Nat → Int32) × (Nat → Int32)) => (WZ_PVO cI cJ mv mr mi (va_up (va_up mf 9 u.1) 10 u.2) mg)) u)) (va_A (WZ_PVO cI cJ mv mr mi mf mg) sz)) 0 0 (va_A (WZ_PVO cI cJ mv mr mi mf mg) sz) := by
  refine mk_met (y := yX6_gatherServed) (bytes := cX6_gatherServed) (maxL := 7) (avs := [.ref (mr 0), .ref (mr 11), .int z_k]) (WS := (WZ_PVO cI cJ mv mr mi mf mg)) (Qf := fun A => va_Qv (fun (u : (Nat → Int32) × (Nat → Int32)) => (s1k u.1) ∧ (s1k u.2)) (fun u => QW D cI cJ A ((fun (u : (Nat → Int32) × (Nat → Int32)) => (WZ_PVO cI cJ mv mr mi (va_up (va_up mf 9 u.1) 10 u.2) mg)) u)) A) (by decide) (Nat.le_of_ble_eq_true rfl) ?_
  intro p e s m below meth c A ls E hr hlk hnm hX hw1 hl2
  have hl3 : lv_has ls 7 [(0, .ref (mr 0)), (1, .ref (mr 11)), (2, .int z_k)] := hl2
  refine lv_aload_n (pc := 0) E.1 E.2.1 dX6_gatherServed_0 rfl (lv_at hl3 1 rfl) ?_
  refine x_get (pc := 1) (T := TX10) (N := 17) (ci := 10) (v := .ref (mr 21)) E hw1 inX10 7 0 q_459 rfl rfl (by decide) rfl rfl dX6_gatherServed_1 ?_
  refine x_get (pc := 4) (T := TX4) (N := 12) (ci := 4) (v := .int (mi 29)) E hw1 inX4 13 7 q_218 rfl rfl (by decide) rfl rfl dX6_gatherServed_4 ?_
  refine lv_iload_n (pc := 7) E.1 E.2.1 dX6_gatherServed_7 rfl (lv_at hl3 2 rfl) ?_
  refine lv_iadd (pc := 8) E.1 E.2.1 dX6_gatherServed_8 ?_
  refine lv_topi (fun v_4 ev_4 => ?_)
  refine lv_istore_n (pc := 9) (lv' := [(3, .int v_4), (0, .ref (mr 0)), (1, .ref (mr 11)), (2, .int z_k)]) E.1 E.2.1 dX6_gatherServed_9 rfl hl3 (by decide) rfl (fun ls hl5 => ?_)
  refine lv_iconst (pc := 10) (v := 0) E.1 E.2.1 dX6_gatherServed_10 (by decide +kernel) ?_
  refine lv_istore (pc := 11) (lv' := [(4, .int 0), (3, .int v_4), (0, .ref (mr 0)), (1, .ref (mr 11)), (2, .int z_k)]) E.1 E.2.1 dX6_gatherServed_11 hl5 (by decide) rfl (fun ls hl6 => ?_)
  have loop_7 : ∀ (k : Nat) (x_8 : Int32) (g_9 : Nat → Int32) (g_10 : Nat → Int32) (H : Heap) (locs : List Loc) (ls : Array Slot), (0 ≤ x_8.toInt) ∧ (x_8.toInt ≤ 10) ∧ s1k g_9 ∧ s1k g_10 → 10 - x_8.toInt < (k : Int) → WD D A s.heap (WZ_PVO cI cJ mv mr mi (va_up (va_up mf 9 g_9) 10 g_10) mg) H locs → lv_has ls 7 [(4, .int x_8), (3, .int v_4), (0, .ref (mr 0)), (1, .ref (mr 11)), (2, .int z_k)] → W p l e ({ frames := 1, cells := 0, slots := 0, locals := 40 } : Room) s m ([.ref (mr 0), .ref (mr 11), .int z_k] : List Value).toArray below meth c H locs 0 0 (MQ below (va_Qv (fun (u : (Nat → Int32) × (Nat → Int32)) => (s1k u.1) ∧ (s1k u.2)) (fun u => QW D cI cJ A ((fun (u : (Nat → Int32) × (Nat → Int32)) => (WZ_PVO cI cJ mv mr mi (va_up (va_up mf 9 u.1) 10 u.2) mg)) u)) A) ([.ref (mr 0), .ref (mr 11), .int z_k] : List Value).toArray s 0 0 A) (F0 m 13 ls []) := by
    intro k
    induction k with
    | zero =>
      intro x_8 g_9 g_10 _ _ _ hinv hm
      obtain ⟨hi_10_0, hi_10_1, hi_10_2, hi_10_3⟩ := hinv
      exact absurd hm (by omega)
    | succ k ih_11 =>
      intro x_8 g_9 g_10 H locs ls hinv hm hw12 hl13
      obtain ⟨hi_10_0, hi_10_1, hi_10_2, hi_10_3⟩ := hinv
      refine lv_iload (pc := 13) E.1 E.2.1 dX6_gatherServed_13 (lv_at hl13 0 rfl) ?_
      refine lv_bipush (pc := 15) (v := 10) E.1 E.2.1 dX6_gatherServed_15 (by decide +kernel) ?_
      refine lv_icmp_ge (pc := 17) (tgt := 42) E.1 E.2.1 dX6_gatherServed_17 (by decide) (fun c_14 => ?_) (fun c_14 => ?_)
      · skip
        have hc_14 := leE (a := 10) (b := x_8.toInt) (by decide +kernel) rfl c_14
        refine lv_iconst (pc := 42) (v := 0) E.1 E.2.1 dX6_gatherServed_42 (by decide +kernel) ?_
        refine lv_istore (pc := 43) (lv' := [(4, .int 0), (3, .int v_4), (0, .ref (mr 0)), (1, .ref (mr 11)), (2, .int z_k)]) E.1 E.2.1 dX6_gatherServed_43 hl13 (by decide) rfl (fun ls hl15 => ?_)
        have loop_16 : ∀ (k : Nat) (x_17 : Int32) (g_18 : Nat → Int32) (g_19 : Nat → Int32) (H : Heap) (locs : List Loc) (ls : Array Slot), (0 ≤ x_17.toInt) ∧ (x_17.toInt ≤ (mi 8).toInt) ∧ s1k g_18 ∧ s1k g_19 → (mi 8).toInt - x_17.toInt < (k : Int) → WD D A s.heap (WZ_PVO cI cJ mv mr mi (va_up (va_up mf 9 g_18) 10 g_19) mg) H locs → lv_has ls 7 [(4, .int x_17), (3, .int v_4), (0, .ref (mr 0)), (1, .ref (mr 11)), (2, .int z_k)] → W p l e ({ frames := 1, cells := 0, slots := 0, locals := 40 } : Room) s m ([.ref (mr 0), .ref (mr 11), .int z_k] : List Value).toArray below meth c H locs 0 0 (MQ below (va_Qv (fun (u : (Nat → Int32) × (Nat → Int32)) => (s1k u.1) ∧ (s1k u.2)) (fun u => QW D cI cJ A ((fun (u : (Nat → Int32) × (Nat → Int32)) => (WZ_PVO cI cJ mv mr mi (va_up (va_up mf 9 u.1) 10 u.2) mg)) u)) A) ([.ref (mr 0), .ref (mr 11), .int z_k] : List Value).toArray s 0 0 A) (F0 m 45 ls []) := by
          intro k
          induction k with
          | zero =>
            intro x_17 g_18 g_19 _ _ _ hinv hm
            obtain ⟨hi_19_0, hi_19_1, hi_19_2, hi_19_3⟩ := hinv
            exact absurd hm (by omega)
          | succ k ih_20 =>
            intro x_17 g_18 g_19 H locs ls hinv hm hw21 hl22
            obtain ⟨hi_19_0, hi_19_1, hi_19_2, hi_19_3⟩ := hinv
            refine lv_iload (pc := 45) E.1 E.2.1 dX6_gatherServed_45 (lv_at hl22 0 rfl) ?_
            refine lv_aload_n (pc := 47) E.1 E.2.1 dX6_gatherServed_47 rfl (lv_at hl22 2 rfl) ?_
            refine x_get (pc := 48) (T := TX6) (N := 10) (ci := 6) (v := .int (mi 8)) E hw21 inX6 0 7 q_1169 rfl rfl (by decide) rfl rfl dX6_gatherServed_48 ?_
            refine lv_icmp_ge (pc := 51) (tgt := 163) E.1 E.2.1 dX6_gatherServed_51 (by decide) (fun c_23 => ?_) (fun c_23 => ?_)
            · skip
              have hc_23 := leE (a := (mi 8).toInt) (b := x_17.toInt) rfl rfl c_23
              exact em_v (w1 := (fun (u : (Nat → Int32) × (Nat → Int32)) => (WZ_PVO cI cJ mv mr mi (va_up (va_up mf 9 u.1) 10 u.2) mg))) E hr hlk (g_18, g_19) hw21 ⟨hi_19_2, hi_19_3⟩ (Nat.le_of_ble_eq_true rfl) (Nat.le_of_ble_eq_true rfl) dX6_gatherServed_163
            · skip
              have hc_23 := nleE (a := (mi 8).toInt) (b := x_17.toInt) rfl rfl c_23
              refine lv_aload_n (pc := 54) E.1 E.2.1 dX6_gatherServed_54 rfl (lv_at hl22 2 rfl) ?_
              refine x_get (pc := 55) (T := TX6) (N := 10) (ci := 6) (v := .ref (mr 7)) E hw21 inX6 0 6 q_1168 rfl rfl (by decide) rfl rfl dX6_gatherServed_55 ?_
              refine lv_iload (pc := 58) E.1 E.2.1 dX6_gatherServed_58 (lv_at hl22 0 rfl) ?_
              refine x_iald (pc := 60) (f := (mf 7)) E hw21 4 rfl (inbE (a := x_17.toInt) rfl (by omega)) dX6_gatherServed_60 ?_
              refine lv_topi (fun v_24 ev_24 => ?_)
              have hbv_24 := allR_at (n := 10) (lo := 0) (hi := 9) a_wanted ev_24 (by show 0 ≤ x_17.toInt ∧ _; omega)
              refine lv_istore (pc := 61) (lv' := [(5, .int v_24), (4, .int x_17), (3, .int v_4), (0, .ref (mr 0)), (1, .ref (mr 11)), (2, .int z_k)]) E.1 E.2.1 dX6_gatherServed_61 hl22 (by decide) rfl (fun ls hl25 => ?_)
              refine lv_aload_n (pc := 63) E.1 E.2.1 dX6_gatherServed_63 rfl (lv_at hl25 4 rfl) ?_
              refine x_get (pc := 64) (T := TX10) (N := 17) (ci := 10) (v := .ref (mr 51)) E hw21 inX10 7 3 q_468 rfl rfl (by decide) rfl rfl dX6_gatherServed_64 ?_
              refine x_get (pc := 67) (T := TX3) (N := 6) (ci := 3) (v := .ref (mr 53)) E hw21 inX3 34 1 q_348 rfl rfl (by decide) rfl rfl dX6_gatherServed_67 ?_
              refine lv_iload (pc := 70) E.1 E.2.1 dX6_gatherServed_70 (lv_at hl25 0 rfl) ?_
              refine x_iald (pc := 72) (f := (mf 53)) E hw21 36 rfl (inbE (a := v_24.toInt) rfl (by omega)) dX6_gatherServed_72 ?_
              refine lv_topi (fun v_26 ev_26 => ?_)
              refine lv_istore (pc := 73) (lv' := [(6, .int v_26), (5, .int v_24), (4, .int x_17), (3, .int v_4), (0, .ref (mr 0)), (1, .ref (mr 11)), (2, .int z_k)]) E.1 E.2.1 dX6_gatherServed_73 hl25 (by decide) rfl (fun ls hl27 => ?_)
              refine lv_iload_n (pc := 75) E.1 E.2.1 dX6_gatherServed_75 rfl (lv_at hl27 3 rfl) ?_
              refine lv_aload_n (pc := 76) E.1 E.2.1 dX6_gatherServed_76 rfl (lv_at hl27 5 rfl) ?_
              refine x_get (pc := 77) (T := TX10) (N := 17) (ci := 10) (v := .ref (mr 51)) E hw21 inX10 7 3 q_468 rfl rfl (by decide) rfl rfl dX6_gatherServed_77 ?_
              refine x_get (pc := 80) (T := TX3) (N := 6) (ci := 3) (v := .ref (mr 54)) E hw21 inX3 34 2 q_352 rfl rfl (by decide) rfl rfl dX6_gatherServed_80 ?_
              refine lv_iload (pc := 83) E.1 E.2.1 dX6_gatherServed_83 (lv_at hl27 1 rfl) ?_
              refine x_iald (pc := 85) (f := (mf 54)) E hw21 37 rfl (inbE (a := v_24.toInt) rfl (by omega)) dX6_gatherServed_85 ?_
              refine lv_topi (fun v_28 ev_28 => ?_)
              refine lv_icmp_lt (pc := 86) (tgt := 157) E.1 E.2.1 dX6_gatherServed_86 (by decide) (fun c_29 => ?_) (fun c_29 => ?_)
              · skip
                have hc_29 := ltE (a := v_4.toInt) (b := v_28.toInt) rfl rfl c_29
                obtain ⟨v_30, ev_30⟩ : ∃ z : Int32, x_17 + Int32.ofInt (1) = z := ⟨_, rfl⟩
                have hv_30 : v_30.toInt = x_17.toInt + (1) := by rw [← ev_30]; exact incE rfl (by decide) (by omega)
                refine lv_iinc (pc := 157) (v := v_30) (lv' := [(4, .int v_30), (6, .int v_26), (5, .int v_24), (3, .int v_4), (0, .ref (mr 0)), (1, .ref (mr 11)), (2, .int z_k)]) E.1 E.2.1 dX6_gatherServed_157 hl27 (k := 2) rfl ev_30 (by decide) rfl (fun ls hl31 => ?_)
                refine lv_goto (pc := 160) (tgt := 45) E.1 E.2.1 dX6_gatherServed_160 (by decide) ?_
                exact ih_20 v_30 g_18 g_19 _ _ _ ⟨(by show 0 ≤ v_30.toInt; omega), (by show v_30.toInt ≤ (mi 8).toInt; omega), hi_19_2, hi_19_3⟩ (by omega) hw21 (lv_sub hl31 [0, 3, 4, 5, 6] rfl)
              · skip
                have hc_29 := nltE (a := v_4.toInt) (b := v_28.toInt) rfl rfl c_29
                refine lv_iload_n (pc := 89) E.1 E.2.1 dX6_gatherServed_89 rfl (lv_at hl27 3 rfl) ?_
                refine lv_aload_n (pc := 90) E.1 E.2.1 dX6_gatherServed_90 rfl (lv_at hl27 5 rfl) ?_
                refine x_get (pc := 91) (T := TX10) (N := 17) (ci := 10) (v := .ref (mr 51)) E hw21 inX10 7 3 q_468 rfl rfl (by decide) rfl rfl dX6_gatherServed_91 ?_
                refine x_get (pc := 94) (T := TX3) (N := 6) (ci := 3) (v := .ref (mr 55)) E hw21 inX3 34 3 q_355 rfl rfl (by decide) rfl rfl dX6_gatherServed_94 ?_
                refine lv_iload (pc := 97) E.1 E.2.1 dX6_gatherServed_97 (lv_at hl27 1 rfl) ?_
                refine x_iald (pc := 99) (f := (mf 55)) E hw21 38 rfl (inbE (a := v_24.toInt) rfl (by omega)) dX6_gatherServed_99 ?_
                refine lv_topi (fun v_32 ev_32 => ?_)
                refine lv_icmp_gt (pc := 100) (tgt := 157) E.1 E.2.1 dX6_gatherServed_100 (by decide) (fun c_33 => ?_) (fun c_33 => ?_)
                · skip
                  have hc_33 := ltE (a := v_32.toInt) (b := v_4.toInt) rfl rfl c_33
                  obtain ⟨v_34, ev_34⟩ : ∃ z : Int32, x_17 + Int32.ofInt (1) = z := ⟨_, rfl⟩
                  have hv_34 : v_34.toInt = x_17.toInt + (1) := by rw [← ev_34]; exact incE rfl (by decide) (by omega)
                  refine lv_iinc (pc := 157) (v := v_34) (lv' := [(4, .int v_34), (6, .int v_26), (5, .int v_24), (3, .int v_4), (0, .ref (mr 0)), (1, .ref (mr 11)), (2, .int z_k)]) E.1 E.2.1 dX6_gatherServed_157 hl27 (k := 2) rfl ev_34 (by decide) rfl (fun ls hl35 => ?_)
                  refine lv_goto (pc := 160) (tgt := 45) E.1 E.2.1 dX6_gatherServed_160 (by decide) ?_
                  exact ih_20 v_34 g_18 g_19 _ _ _ ⟨(by show 0 ≤ v_34.toInt; omega), (by show v_34.toInt ≤ (mi 8).toInt; omega), hi_19_2, hi_19_3⟩ (by omega) hw21 (lv_sub hl35 [0, 3, 4, 5, 6] rfl)
                · skip
                  have hc_33 := nltE (a := v_32.toInt) (b := v_4.toInt) rfl rfl c_33
                  refine lv_iload (pc := 103) E.1 E.2.1 dX6_gatherServed_103 (lv_at hl27 0 rfl) ?_
                  refine lv_if_lt (pc := 105) (tgt := 157) E.1 E.2.1 dX6_gatherServed_105 (by decide) (fun c_36 => ?_) (fun c_36 => ?_)
                  · skip
                    have hc_36 := ltE (a := v_26.toInt) (b := 0) rfl (by decide +kernel) c_36
                    obtain ⟨v_37, ev_37⟩ : ∃ z : Int32, x_17 + Int32.ofInt (1) = z := ⟨_, rfl⟩
                    have hv_37 : v_37.toInt = x_17.toInt + (1) := by rw [← ev_37]; exact incE rfl (by decide) (by omega)
                    refine lv_iinc (pc := 157) (v := v_37) (lv' := [(4, .int v_37), (6, .int v_26), (5, .int v_24), (3, .int v_4), (0, .ref (mr 0)), (1, .ref (mr 11)), (2, .int z_k)]) E.1 E.2.1 dX6_gatherServed_157 hl27 (k := 2) rfl ev_37 (by decide) rfl (fun ls hl38 => ?_)
                    refine lv_goto (pc := 160) (tgt := 45) E.1 E.2.1 dX6_gatherServed_160 (by decide) ?_
                    exact ih_20 v_37 g_18 g_19 _ _ _ ⟨(by show 0 ≤ v_37.toInt; omega), (by show v_37.toInt ≤ (mi 8).toInt; omega), hi_19_2, hi_19_3⟩ (by omega) hw21 (lv_sub hl38 [0, 3, 4, 5, 6] rfl)
                  · skip
                    have hc_36 := nltE (a := v_26.toInt) (b := 0) rfl (by decide +kernel) c_36
                    refine lv_iload (pc := 108) E.1 E.2.1 dX6_gatherServed_108 (lv_at hl27 0 rfl) ?_
                    refine lv_bipush (pc := 110) (v := 10) E.1 E.2.1 dX6_gatherServed_110 (by decide +kernel) ?_
                    refine lv_icmp_ge (pc := 112) (tgt := 157) E.1 E.2.1 dX6_gatherServed_112 (by decide) (fun c_39 => ?_) (fun c_39 => ?_)
                    · skip
                      have hc_39 := leE (a := 10) (b := v_26.toInt) (by decide +kernel) rfl c_39
                      obtain ⟨v_40, ev_40⟩ : ∃ z : Int32, x_17 + Int32.ofInt (1) = z := ⟨_, rfl⟩
                      have hv_40 : v_40.toInt = x_17.toInt + (1) := by rw [← ev_40]; exact incE rfl (by decide) (by omega)
                      refine lv_iinc (pc := 157) (v := v_40) (lv' := [(4, .int v_40), (6, .int v_26), (5, .int v_24), (3, .int v_4), (0, .ref (mr 0)), (1, .ref (mr 11)), (2, .int z_k)]) E.1 E.2.1 dX6_gatherServed_157 hl27 (k := 2) rfl ev_40 (by decide) rfl (fun ls hl41 => ?_)
                      refine lv_goto (pc := 160) (tgt := 45) E.1 E.2.1 dX6_gatherServed_160 (by decide) ?_
                      exact ih_20 v_40 g_18 g_19 _ _ _ ⟨(by show 0 ≤ v_40.toInt; omega), (by show v_40.toInt ≤ (mi 8).toInt; omega), hi_19_2, hi_19_3⟩ (by omega) hw21 (lv_sub hl41 [0, 3, 4, 5, 6] rfl)
                    · skip
                      have hc_39 := nleE (a := 10) (b := v_26.toInt) (by decide +kernel) rfl c_39
                      refine lv_aload_n (pc := 115) E.1 E.2.1 dX6_gatherServed_115 rfl (lv_at hl27 4 rfl) ?_
                      refine x_get (pc := 116) (T := TX6) (N := 10) (ci := 6) (v := .ref (mr 10)) E hw21 inX6 0 9 q_1171 rfl rfl (by decide) rfl rfl dX6_gatherServed_116 ?_
                      refine lv_iload (pc := 119) E.1 E.2.1 dX6_gatherServed_119 (lv_at hl27 0 rfl) ?_
                      refine lv_dup2_11 (pc := 121) E.1 E.2.1 dX6_gatherServed_121 rfl rfl ?_
                      refine x_iald (pc := 122) (f := g_19) E hw21 6 rfl (inbE (a := v_26.toInt) rfl (by omega)) dX6_gatherServed_122 ?_
                      refine lv_topi (fun v_42 ev_42 => ?_)
                      have hbv_42 := allR_at (n := 10) (lo := 0) (hi := 1023) hi_19_3 ev_42 (by show 0 ≤ v_26.toInt ∧ _; omega)
                      refine lv_iconst (pc := 123) (v := 1) E.1 E.2.1 dX6_gatherServed_123 (by decide +kernel) ?_
                      refine lv_iload (pc := 124) E.1 E.2.1 dX6_gatherServed_124 (lv_at hl27 2 rfl) ?_
                      refine lv_ishl (pc := 126) E.1 E.2.1 dX6_gatherServed_126 ?_
                      refine lv_topi (fun v_43 ev_43 => ?_)
                      have hb1v_43 : 1 ≤ v_43.toInt ∧ v_43.toInt ≤ 512 := by rw [ev_43]; exact shl9 (by omega)
                      refine lv_ior (pc := 127) E.1 E.2.1 dX6_gatherServed_127 ?_
                      refine lv_topi (fun v_44 ev_44 => ?_)
                      have hb1v_44 : 0 ≤ v_44.toInt ∧ v_44.toInt ≤ 1023 := by rw [ev_44]; exact or10 (by omega) (by omega)
                      refine x_iastG (pc := 128) (f := g_19) (wf := fun g => (WZ_PVO cI cJ mv mr mi (va_up (va_up mf 9 g_18) 10 g) mg)) E hw21 6 rfl (inbE (a := v_26.toInt) rfl (by omega)) (fun _ => rfl) dX6_gatherServed_128 (fun g_45 H locs eg_45 hw46 => ?_)
                      have ha_47 : allR 10 (0) 1023 g_45 := allR_upd hi_19_3 eg_45 (by omega)
                      refine lv_aload_n (pc := 129) E.1 E.2.1 dX6_gatherServed_129 rfl (lv_at hl27 5 rfl) ?_
                      refine x_get (pc := 130) (T := TX10) (N := 17) (ci := 10) (v := .ref (mr 51)) E hw46 inX10 7 3 q_468 rfl rfl (by decide) rfl rfl dX6_gatherServed_130 ?_
                      refine x_get (pc := 133) (T := TX3) (N := 6) (ci := 3) (v := .ref (mr 52)) E hw46 inX3 34 0 q_344 rfl rfl (by decide) rfl rfl dX6_gatherServed_133 ?_
                      refine lv_iload (pc := 136) E.1 E.2.1 dX6_gatherServed_136 (lv_at hl27 1 rfl) ?_
                      refine x_iald (pc := 138) (f := (mf 52)) E hw46 35 rfl (inbE (a := v_24.toInt) rfl (by omega)) dX6_gatherServed_138 ?_
                      refine lv_topi (fun v_48 ev_48 => ?_)
                      refine lv_iconst (pc := 139) (v := 3) E.1 E.2.1 dX6_gatherServed_139 (by decide +kernel) ?_
                      refine lv_icmp_eq (pc := 140) (tgt := 157) E.1 E.2.1 dX6_gatherServed_140 (by decide) (fun c_49 => ?_) (fun c_49 => ?_)
                      · skip
                        have hc_49 := eqE (a := v_48.toInt) (b := 3) rfl (by decide +kernel) c_49
                        obtain ⟨v_50, ev_50⟩ : ∃ z : Int32, x_17 + Int32.ofInt (1) = z := ⟨_, rfl⟩
                        have hv_50 : v_50.toInt = x_17.toInt + (1) := by rw [← ev_50]; exact incE rfl (by decide) (by omega)
                        refine lv_iinc (pc := 157) (v := v_50) (lv' := [(4, .int v_50), (6, .int v_26), (5, .int v_24), (3, .int v_4), (0, .ref (mr 0)), (1, .ref (mr 11)), (2, .int z_k)]) E.1 E.2.1 dX6_gatherServed_157 hl27 (k := 2) rfl ev_50 (by decide) rfl (fun ls hl51 => ?_)
                        refine lv_goto (pc := 160) (tgt := 45) E.1 E.2.1 dX6_gatherServed_160 (by decide) ?_
                        exact ih_20 v_50 g_18 g_45 _ _ _ ⟨(by show 0 ≤ v_50.toInt; omega), (by show v_50.toInt ≤ (mi 8).toInt; omega), hi_19_2, ha_47⟩ (by omega) hw46 (lv_sub hl51 [0, 3, 4, 5, 6] rfl)
                      · skip
                        have hc_49 := neE (a := v_48.toInt) (b := 3) rfl (by decide +kernel) c_49
                        refine lv_aload_n (pc := 143) E.1 E.2.1 dX6_gatherServed_143 rfl (lv_at hl27 4 rfl) ?_
                        refine x_get (pc := 144) (T := TX6) (N := 10) (ci := 6) (v := .ref (mr 9)) E hw46 inX6 0 8 q_1170 rfl rfl (by decide) rfl rfl dX6_gatherServed_144 ?_
                        refine lv_iload (pc := 147) E.1 E.2.1 dX6_gatherServed_147 (lv_at hl27 0 rfl) ?_
                        refine lv_dup2_11 (pc := 149) E.1 E.2.1 dX6_gatherServed_149 rfl rfl ?_
                        refine x_iald (pc := 150) (f := g_18) E hw46 5 rfl (inbE (a := v_26.toInt) rfl (by omega)) dX6_gatherServed_150 ?_
                        refine lv_topi (fun v_52 ev_52 => ?_)
                        have hbv_52 := allR_at (n := 10) (lo := 0) (hi := 1023) hi_19_2 ev_52 (by show 0 ≤ v_26.toInt ∧ _; omega)
                        refine lv_iconst (pc := 151) (v := 1) E.1 E.2.1 dX6_gatherServed_151 (by decide +kernel) ?_
                        refine lv_iload (pc := 152) E.1 E.2.1 dX6_gatherServed_152 (lv_at hl27 2 rfl) ?_
                        refine lv_ishl (pc := 154) E.1 E.2.1 dX6_gatherServed_154 ?_
                        refine lv_topi (fun v_53 ev_53 => ?_)
                        have hb1v_53 : 1 ≤ v_53.toInt ∧ v_53.toInt ≤ 512 := by rw [ev_53]; exact shl9 (by omega)
                        refine lv_ior (pc := 155) E.1 E.2.1 dX6_gatherServed_155 ?_
                        refine lv_topi (fun v_54 ev_54 => ?_)
                        have hb1v_54 : 0 ≤ v_54.toInt ∧ v_54.toInt ≤ 1023 := by rw [ev_54]; exact or10 (by omega) (by omega)
                        refine x_iastG (pc := 156) (f := g_18) (wf := fun g => (WZ_PVO cI cJ mv mr mi (va_up (va_up mf 9 g) 10 g_45) mg)) E hw46 5 rfl (inbE (a := v_26.toInt) rfl (by omega)) (fun _ => rfl) dX6_gatherServed_156 (fun g_55 H locs eg_55 hw56 => ?_)
                        have ha_57 : allR 10 (0) 1023 g_55 := allR_upd hi_19_2 eg_55 (by omega)
                        obtain ⟨v_58, ev_58⟩ : ∃ z : Int32, x_17 + Int32.ofInt (1) = z := ⟨_, rfl⟩
                        have hv_58 : v_58.toInt = x_17.toInt + (1) := by rw [← ev_58]; exact incE rfl (by decide) (by omega)
                        refine lv_iinc (pc := 157) (v := v_58) (lv' := [(4, .int v_58), (6, .int v_26), (5, .int v_24), (3, .int v_4), (0, .ref (mr 0)), (1, .ref (mr 11)), (2, .int z_k)]) E.1 E.2.1 dX6_gatherServed_157 hl27 (k := 2) rfl ev_58 (by decide) rfl (fun ls hl59 => ?_)
                        refine lv_goto (pc := 160) (tgt := 45) E.1 E.2.1 dX6_gatherServed_160 (by decide) ?_
                        exact ih_20 v_58 g_55 g_45 _ _ _ ⟨(by show 0 ≤ v_58.toInt; omega), (by show v_58.toInt ≤ (mi 8).toInt; omega), ha_57, ha_47⟩ (by omega) hw56 (lv_sub hl59 [0, 3, 4, 5, 6] rfl)
        exact loop_16 (Int.toNat ((mi 8).toInt - 0) + 1) 0 g_9 g_10 _ _ _ ⟨(by show 0 ≤ (0 : Int32).toInt; have k_0 : (0 : Int32).toInt = 0 := (by decide +kernel); omega), (by show (0 : Int32).toInt ≤ (mi 8).toInt; have k_0 : (0 : Int32).toInt = 0 := (by decide +kernel); omega), hi_10_2, hi_10_3⟩ (by have k_0 : (0 : Int32).toInt = 0 := (by decide +kernel); omega) hw12 (lv_sub hl15 [0, 1, 2, 3, 4] rfl)
      · skip
        have hc_14 := nleE (a := 10) (b := x_8.toInt) (by decide +kernel) rfl c_14
        refine lv_aload_n (pc := 20) E.1 E.2.1 dX6_gatherServed_20 rfl (lv_at hl13 2 rfl) ?_
        refine x_get (pc := 21) (T := TX6) (N := 10) (ci := 6) (v := .ref (mr 9)) E hw12 inX6 0 8 q_1170 rfl rfl (by decide) rfl rfl dX6_gatherServed_21 ?_
        refine lv_iload (pc := 24) E.1 E.2.1 dX6_gatherServed_24 (lv_at hl13 0 rfl) ?_
        refine lv_iconst (pc := 26) (v := 0) E.1 E.2.1 dX6_gatherServed_26 (by decide +kernel) ?_
        refine x_iastG (pc := 27) (f := g_9) (wf := fun g => (WZ_PVO cI cJ mv mr mi (va_up (va_up mf 9 g) 10 g_10) mg)) E hw12 5 rfl (inbE (a := x_8.toInt) rfl (by omega)) (fun _ => rfl) dX6_gatherServed_27 (fun g_60 H locs eg_60 hw61 => ?_)
        have ha_62 : allR 10 (0) 1023 g_60 := allR_upd hi_10_2 eg_60 (by decide +kernel)
        refine lv_aload_n (pc := 28) E.1 E.2.1 dX6_gatherServed_28 rfl (lv_at hl13 2 rfl) ?_
        refine x_get (pc := 29) (T := TX6) (N := 10) (ci := 6) (v := .ref (mr 10)) E hw61 inX6 0 9 q_1171 rfl rfl (by decide) rfl rfl dX6_gatherServed_29 ?_
        refine lv_iload (pc := 32) E.1 E.2.1 dX6_gatherServed_32 (lv_at hl13 0 rfl) ?_
        refine lv_iconst (pc := 34) (v := 0) E.1 E.2.1 dX6_gatherServed_34 (by decide +kernel) ?_
        refine x_iastG (pc := 35) (f := g_10) (wf := fun g => (WZ_PVO cI cJ mv mr mi (va_up (va_up mf 9 g_60) 10 g) mg)) E hw61 6 rfl (inbE (a := x_8.toInt) rfl (by omega)) (fun _ => rfl) dX6_gatherServed_35 (fun g_63 H locs eg_63 hw64 => ?_)
        have ha_65 : allR 10 (0) 1023 g_63 := allR_upd hi_10_3 eg_63 (by decide +kernel)
        obtain ⟨v_66, ev_66⟩ : ∃ z : Int32, x_8 + Int32.ofInt (1) = z := ⟨_, rfl⟩
        have hv_66 : v_66.toInt = x_8.toInt + (1) := by rw [← ev_66]; exact incE rfl (by decide) (by omega)
        refine lv_iinc (pc := 36) (v := v_66) (lv' := [(4, .int v_66), (3, .int v_4), (0, .ref (mr 0)), (1, .ref (mr 11)), (2, .int z_k)]) E.1 E.2.1 dX6_gatherServed_36 hl13 (k := 0) rfl ev_66 (by decide) rfl (fun ls hl67 => ?_)
        refine lv_goto (pc := 39) (tgt := 13) E.1 E.2.1 dX6_gatherServed_39 (by decide) ?_
        exact ih_11 v_66 g_60 g_63 _ _ _ ⟨(by show 0 ≤ v_66.toInt; omega), (by show v_66.toInt ≤ 10; omega), ha_62, ha_65⟩ (by omega) hw64 (lv_sub hl67 [0, 1, 2, 3, 4] rfl)
  exact loop_7 (Int.toNat (10 - 0) + 1) 0 (mf 9) (mf 10) _ _ _ ⟨(by show 0 ≤ (0 : Int32).toInt; have k_0 : (0 : Int32).toInt = 0 := (by decide +kernel); omega), (by show (0 : Int32).toInt ≤ 10; have k_0 : (0 : Int32).toInt = 0 := (by decide +kernel); omega), a_served, a_wed⟩ (by have k_0 : (0 : Int32).toInt = 0 := (by decide +kernel); omega) hw1 (lv_sub hl6 [0, 1, 2, 3, 4] rfl)
set_option maxHeartbeats 4000000 in
set_option maxRecDepth 100000 in
theorem t_worthOf (l : Launch) (D : va_G) (cI cJ : ClassId) (sz : Nat) (mr : Nat → Nat) (mi : Nat → Int32) (mf : Nat → Nat → Int32) (mg : Nat → Nat → Int64) (z_set : Int32) (mv : Nat → Value) (h0 : 0 ≤ (mi 40).toInt ∧ (mi 40).toInt ≤ 10) (h1 : 0 ≤ (mi 48).toInt ∧ (mi 48).toInt ≤ 40) (h2 : 0 ≤ (mi 57).toInt ∧ (mi 57).toInt ≤ 10) (h3 : 0 ≤ (mi 8).toInt ∧ (mi 8).toInt ≤ 10) (a_wanted : w9 (mf 7)) : Met l yX6_worthOf (Cond.code yX6_worthOf cX6_worthOf 5 (some .int) :: GW) ({ frames := 1, cells := 0, slots := 0, locals := 40 } : Room) (va_Pc [.ref (mr 0), .ref (mr 11), .int z_set] (PW D cI cJ sz (WZ_PVO cI cJ mv mr mi mf mg) xT)) (va_Qi (fun (r : Int32) (u : Unit) => True) (fun u => QW D cI cJ (va_A (WZ_PVO cI cJ mv mr mi mf mg) sz) ((fun (u : Unit) => (WZ_PVO cI cJ mv mr mi mf mg)) u)) (va_A (WZ_PVO cI cJ mv mr mi mf mg) sz)) 0 0 (va_A (WZ_PVO cI cJ mv mr mi mf mg) sz) := by
  refine mk_met (y := yX6_worthOf) (bytes := cX6_worthOf) (maxL := 5) (avs := [.ref (mr 0), .ref (mr 11), .int z_set]) (WS := (WZ_PVO cI cJ mv mr mi mf mg)) (Qf := fun A => va_Qi (fun (r : Int32) (u : Unit) => True) (fun u => QW D cI cJ A ((fun (u : Unit) => (WZ_PVO cI cJ mv mr mi mf mg)) u)) A) (by decide) (Nat.le_of_ble_eq_true rfl) ?_
  intro p e s m below meth c A ls E hr hlk hnm hX hw1 hl2
  have hl3 : lv_has ls 5 [(0, .ref (mr 0)), (1, .ref (mr 11)), (2, .int z_set)] := hl2
  refine lv_iconst (pc := 0) (v := 0) E.1 E.2.1 dX6_worthOf_0 (by decide +kernel) ?_
  refine lv_istore_n (pc := 1) (lv' := [(3, .int 0), (0, .ref (mr 0)), (1, .ref (mr 11)), (2, .int z_set)]) E.1 E.2.1 dX6_worthOf_1 rfl hl3 (by decide) rfl (fun ls hl4 => ?_)
  refine lv_iconst (pc := 2) (v := 0) E.1 E.2.1 dX6_worthOf_2 (by decide +kernel) ?_
  refine lv_istore (pc := 3) (lv' := [(4, .int 0), (3, .int 0), (0, .ref (mr 0)), (1, .ref (mr 11)), (2, .int z_set)]) E.1 E.2.1 dX6_worthOf_3 hl4 (by decide) rfl (fun ls hl5 => ?_)
  have loop_6 : ∀ (k : Nat) (x_7 : Int32) (x_8 : Int32) (H : Heap) (locs : List Loc) (ls : Array Slot), (0 ≤ x_7.toInt) ∧ (x_7.toInt ≤ (mi 8).toInt) → (mi 8).toInt - x_7.toInt < (k : Int) → WD D A s.heap (WZ_PVO cI cJ mv mr mi mf mg) H locs → lv_has ls 5 [(4, .int x_7), (3, .int x_8), (0, .ref (mr 0)), (1, .ref (mr 11)), (2, .int z_set)] → W p l e ({ frames := 1, cells := 0, slots := 0, locals := 40 } : Room) s m ([.ref (mr 0), .ref (mr 11), .int z_set] : List Value).toArray below meth c H locs 0 0 (MQ below (va_Qi (fun (r : Int32) (u : Unit) => True) (fun u => QW D cI cJ A ((fun (u : Unit) => (WZ_PVO cI cJ mv mr mi mf mg)) u)) A) ([.ref (mr 0), .ref (mr 11), .int z_set] : List Value).toArray s 0 0 A) (F0 m 5 ls []) := by
    intro k
    induction k with
    | zero =>
      intro x_7 x_8 _ _ _ hinv hm
      obtain ⟨hi_8_0, hi_8_1⟩ := hinv
      exact absurd hm (by omega)
    | succ k ih_9 =>
      intro x_7 x_8 H locs ls hinv hm hw10 hl11
      obtain ⟨hi_8_0, hi_8_1⟩ := hinv
      refine lv_iload (pc := 5) E.1 E.2.1 dX6_worthOf_5 (lv_at hl11 0 rfl) ?_
      refine lv_aload_n (pc := 7) E.1 E.2.1 dX6_worthOf_7 rfl (lv_at hl11 2 rfl) ?_
      refine x_get (pc := 8) (T := TX6) (N := 10) (ci := 6) (v := .int (mi 8)) E hw10 inX6 0 7 q_1169 rfl rfl (by decide) rfl rfl dX6_worthOf_8 ?_
      refine lv_icmp_ge (pc := 11) (tgt := 48) E.1 E.2.1 dX6_worthOf_11 (by decide) (fun c_12 => ?_) (fun c_12 => ?_)
      · skip
        have hc_12 := leE (a := (mi 8).toInt) (b := x_7.toInt) rfl rfl c_12
        refine lv_iload_n (pc := 48) E.1 E.2.1 dX6_worthOf_48 rfl (lv_at hl11 1 rfl) ?_
        exact em_i (w1 := (fun (u : Unit) => (WZ_PVO cI cJ mv mr mi mf mg))) E hr hlk () hw10 trivial (Nat.le_of_ble_eq_true rfl) (Nat.le_of_ble_eq_true rfl) dX6_worthOf_49
      · skip
        have hc_12 := nleE (a := (mi 8).toInt) (b := x_7.toInt) rfl rfl c_12
        refine lv_iload_n (pc := 14) E.1 E.2.1 dX6_worthOf_14 rfl (lv_at hl11 4 rfl) ?_
        refine lv_iload (pc := 15) E.1 E.2.1 dX6_worthOf_15 (lv_at hl11 0 rfl) ?_
        refine lv_ishr (pc := 17) E.1 E.2.1 dX6_worthOf_17 ?_
        refine lv_topi (fun v_13 ev_13 => ?_)
        refine lv_iconst (pc := 18) (v := 1) E.1 E.2.1 dX6_worthOf_18 (by decide +kernel) ?_
        refine lv_iand (pc := 19) E.1 E.2.1 dX6_worthOf_19 ?_
        refine lv_topi (fun v_14 ev_14 => ?_)
        refine lv_iconst (pc := 20) (v := 1) E.1 E.2.1 dX6_worthOf_20 (by decide +kernel) ?_
        refine lv_icmp_ne (pc := 21) (tgt := 42) E.1 E.2.1 dX6_worthOf_21 (by decide) (fun c_15 => ?_) (fun c_15 => ?_)
        · skip
          have hc_15 := neE (a := v_14.toInt) (b := 1) rfl (by decide +kernel) c_15
          obtain ⟨v_16, ev_16⟩ : ∃ z : Int32, x_7 + Int32.ofInt (1) = z := ⟨_, rfl⟩
          have hv_16 : v_16.toInt = x_7.toInt + (1) := by rw [← ev_16]; exact incE rfl (by decide) (by omega)
          refine lv_iinc (pc := 42) (v := v_16) (lv' := [(4, .int v_16), (3, .int x_8), (0, .ref (mr 0)), (1, .ref (mr 11)), (2, .int z_set)]) E.1 E.2.1 dX6_worthOf_42 hl11 (k := 0) rfl ev_16 (by decide) rfl (fun ls hl17 => ?_)
          refine lv_goto (pc := 45) (tgt := 5) E.1 E.2.1 dX6_worthOf_45 (by decide) ?_
          exact ih_9 v_16 x_8 _ _ _ ⟨(by show 0 ≤ v_16.toInt; omega), (by show v_16.toInt ≤ (mi 8).toInt; omega)⟩ (by omega) hw10 (lv_sub hl17 [0, 1, 2, 3, 4] rfl)
        · skip
          have hc_15 := eqE (a := v_14.toInt) (b := 1) rfl (by decide +kernel) c_15
          refine lv_iload_n (pc := 24) E.1 E.2.1 dX6_worthOf_24 rfl (lv_at hl11 1 rfl) ?_
          refine lv_aload_n (pc := 25) E.1 E.2.1 dX6_worthOf_25 rfl (lv_at hl11 3 rfl) ?_
          refine x_get (pc := 26) (T := TX10) (N := 17) (ci := 10) (v := .ref (mr 51)) E hw10 inX10 7 3 q_468 rfl rfl (by decide) rfl rfl dX6_worthOf_26 ?_
          refine x_get (pc := 29) (T := TX3) (N := 6) (ci := 3) (v := .ref (mr 56)) E hw10 inX3 34 4 q_359 rfl rfl (by decide) rfl rfl dX6_worthOf_29 ?_
          refine lv_aload_n (pc := 32) E.1 E.2.1 dX6_worthOf_32 rfl (lv_at hl11 2 rfl) ?_
          refine x_get (pc := 33) (T := TX6) (N := 10) (ci := 6) (v := .ref (mr 7)) E hw10 inX6 0 6 q_1168 rfl rfl (by decide) rfl rfl dX6_worthOf_33 ?_
          refine lv_iload (pc := 36) E.1 E.2.1 dX6_worthOf_36 (lv_at hl11 0 rfl) ?_
          refine x_iald (pc := 38) (f := (mf 7)) E hw10 4 rfl (inbE (a := x_7.toInt) rfl (by omega)) dX6_worthOf_38 ?_
          refine lv_topi (fun v_18 ev_18 => ?_)
          have hbv_18 := allR_at (n := 10) (lo := 0) (hi := 9) a_wanted ev_18 (by show 0 ≤ x_7.toInt ∧ _; omega)
          refine x_iald (pc := 39) (f := (mf 56)) E hw10 39 rfl (inbE (a := v_18.toInt) rfl (by omega)) dX6_worthOf_39 ?_
          refine lv_topi (fun v_19 ev_19 => ?_)
          refine lv_iadd (pc := 40) E.1 E.2.1 dX6_worthOf_40 ?_
          refine lv_topi (fun v_20 ev_20 => ?_)
          refine lv_istore_n (pc := 41) (lv' := [(3, .int v_20), (4, .int x_7), (0, .ref (mr 0)), (1, .ref (mr 11)), (2, .int z_set)]) E.1 E.2.1 dX6_worthOf_41 rfl hl11 (by decide) rfl (fun ls hl21 => ?_)
          obtain ⟨v_22, ev_22⟩ : ∃ z : Int32, x_7 + Int32.ofInt (1) = z := ⟨_, rfl⟩
          have hv_22 : v_22.toInt = x_7.toInt + (1) := by rw [← ev_22]; exact incE rfl (by decide) (by omega)
          refine lv_iinc (pc := 42) (v := v_22) (lv' := [(4, .int v_22), (3, .int v_20), (0, .ref (mr 0)), (1, .ref (mr 11)), (2, .int z_set)]) E.1 E.2.1 dX6_worthOf_42 hl21 (k := 1) rfl ev_22 (by decide) rfl (fun ls hl23 => ?_)
          refine lv_goto (pc := 45) (tgt := 5) E.1 E.2.1 dX6_worthOf_45 (by decide) ?_
          exact ih_9 v_22 v_20 _ _ _ ⟨(by show 0 ≤ v_22.toInt; omega), (by show v_22.toInt ≤ (mi 8).toInt; omega)⟩ (by omega) hw10 (lv_sub hl23 [0, 1, 2, 3, 4] rfl)
  exact loop_6 (Int.toNat ((mi 8).toInt - 0) + 1) 0 0 _ _ _ ⟨(by show 0 ≤ (0 : Int32).toInt; have k_0 : (0 : Int32).toInt = 0 := (by decide +kernel); omega), (by show (0 : Int32).toInt ≤ (mi 8).toInt; have k_0 : (0 : Int32).toInt = 0 := (by decide +kernel); omega)⟩ (by have k_0 : (0 : Int32).toInt = 0 := (by decide +kernel); have k_1 : (0 : Int32).toInt = 0 := (by decide +kernel); omega) hw1 (lv_sub hl5 [0, 1, 2, 3, 4] rfl)
set_option maxHeartbeats 4000000 in
set_option maxRecDepth 100000 in
theorem t_choose (l : Launch) (D : va_G) (cI cJ : ClassId) (sz : Nat) (mr : Nat → Nat) (mi : Nat → Int32) (mf : Nat → Nat → Int32) (mg : Nat → Nat → Int64) (z_houses : Int32) (z_sets : Int32) (mv : Nat → Value) (h0 : 0 ≤ (mi 40).toInt ∧ (mi 40).toInt ≤ 10) (h1 : 0 ≤ (mi 48).toInt ∧ (mi 48).toInt ≤ 40) (h2 : 0 ≤ (mi 57).toInt ∧ (mi 57).toInt ≤ 10) (h3 : 0 ≤ (mi 8).toInt ∧ (mi 8).toInt ≤ 10) (h4 : 0 ≤ z_houses.toInt ∧ z_houses.toInt ≤ 10) (h5 : 1 ≤ z_sets.toInt ∧ z_sets.toInt ≤ 1024) (a_wanted : w9 (mf 7)) : Met l yX6_choose (Cond.code yX6_choose cX6_choose 10 none :: GW) ({ frames := 2, cells := 0, slots := 0, locals := 64 } : Room) (va_Pc [.ref (mr 0), .ref (mr 11), .int z_houses, .int z_sets] (PW D cI cJ sz (WZ_PVO cI cJ mv mr mi mf mg) xT)) (va_Qv (fun (u : Int32 × (Nat → Int64)) => True) (fun u => QW D cI cJ (va_A (WZ_PVO cI cJ mv mr mi mf mg) sz) ((fun (u : Int32 × (Nat → Int64)) => (WZ_PVO cI cJ mv mr (upd mi 2 u.1) mf (va_up mg 3 u.2))) u)) (va_A (WZ_PVO cI cJ mv mr mi mf mg) sz)) 0 0 (va_A (WZ_PVO cI cJ mv mr mi mf mg) sz) := by
  refine mk_met (y := yX6_choose) (bytes := cX6_choose) (maxL := 10) (avs := [.ref (mr 0), .ref (mr 11), .int z_houses, .int z_sets]) (WS := (WZ_PVO cI cJ mv mr mi mf mg)) (Qf := fun A => va_Qv (fun (u : Int32 × (Nat → Int64)) => True) (fun u => QW D cI cJ A ((fun (u : Int32 × (Nat → Int64)) => (WZ_PVO cI cJ mv mr (upd mi 2 u.1) mf (va_up mg 3 u.2))) u)) A) (by decide) (Nat.le_of_ble_eq_true rfl) ?_
  intro p e s m below meth c A ls E hr hlk hnm hX hw1 hl2
  have hl3 : lv_has ls 10 [(0, .ref (mr 0)), (1, .ref (mr 11)), (2, .int z_houses), (3, .int z_sets)] := hl2
  refine lv_aload_n (pc := 0) E.1 E.2.1 dX6_choose_0 rfl (lv_at hl3 0 rfl) ?_
  refine lv_iconst (pc := 1) (v := (-1)) E.1 E.2.1 dX6_choose_1 (by decide +kernel) ?_
  refine x_put (pc := 2) (T := TX6) (N := 10) (ci := 6) (ws' := (WZ_PVO cI cJ mv mr (upd mi 2 (-1)) mf mg)) E hw1 inX6 tyX6_ok nmX6 0 1 q_1162 rfl rfl (by decide) rfl rfl rfl rfl (Nat.le_of_ble_eq_true rfl) rfl dX6_choose_2 (fun H locs hw4 => ?_)
  refine lv_aload_n (pc := 5) E.1 E.2.1 dX6_choose_5 rfl (lv_at hl3 0 rfl) ?_
  refine lv_lconst (pc := 6) (v := 0) E.1 E.2.1 dX6_choose_6 (by decide +kernel) ?_
  refine x_put (pc := 7) (T := TX6) (N := 10) (ci := 6) (ws' := (WZ_PVO cI cJ mv mr (upd mi 2 (-1)) mf (va_up mg 3 (fun _ => 0)))) E hw4 inX6 tyX6_ok nmX6 0 2 q_1164 rfl rfl (by decide) rfl rfl rfl rfl (Nat.le_of_ble_eq_true rfl) rfl dX6_choose_7 (fun H locs hw5 => ?_)
  refine lv_iconst (pc := 10) (v := 0) E.1 E.2.1 dX6_choose_10 (by decide +kernel) ?_
  refine lv_istore (pc := 11) (lv' := [(4, .int 0), (0, .ref (mr 0)), (1, .ref (mr 11)), (2, .int z_houses), (3, .int z_sets)]) E.1 E.2.1 dX6_choose_11 hl3 (by decide) rfl (fun ls hl6 => ?_)
  have loop_7 : ∀ (k : Nat) (x_8 : Int32) (x_9 : Int32) (g_10 : Nat → Int64) (H : Heap) (locs : List Loc) (ls : Array Slot), (0 ≤ x_8.toInt) ∧ (x_8.toInt ≤ z_sets.toInt) → z_sets.toInt - x_8.toInt < (k : Int) → WD D A s.heap (WZ_PVO cI cJ mv mr (upd mi 2 x_9) mf (va_up mg 3 g_10)) H locs → lv_has ls 10 [(4, .int x_8), (0, .ref (mr 0)), (1, .ref (mr 11)), (2, .int z_houses), (3, .int z_sets)] → W p l e ({ frames := 2, cells := 0, slots := 0, locals := 64 } : Room) s m ([.ref (mr 0), .ref (mr 11), .int z_houses, .int z_sets] : List Value).toArray below meth c H locs 0 0 (MQ below (va_Qv (fun (u : Int32 × (Nat → Int64)) => True) (fun u => QW D cI cJ A ((fun (u : Int32 × (Nat → Int64)) => (WZ_PVO cI cJ mv mr (upd mi 2 u.1) mf (va_up mg 3 u.2))) u)) A) ([.ref (mr 0), .ref (mr 11), .int z_houses, .int z_sets] : List Value).toArray s 0 0 A) (F0 m 13 ls []) := by
    intro k
    induction k with
    | zero =>
      intro x_8 x_9 g_10 _ _ _ hinv hm
      obtain ⟨hi_10_0, hi_10_1⟩ := hinv
      exact absurd hm (by omega)
    | succ k ih_11 =>
      intro x_8 x_9 g_10 H locs ls hinv hm hw12 hl13
      obtain ⟨hi_10_0, hi_10_1⟩ := hinv
      refine lv_iload (pc := 13) E.1 E.2.1 dX6_choose_13 (lv_at hl13 0 rfl) ?_
      refine lv_iload_n (pc := 15) E.1 E.2.1 dX6_choose_15 rfl (lv_at hl13 4 rfl) ?_
      refine lv_icmp_ge (pc := 16) (tgt := 124) E.1 E.2.1 dX6_choose_16 (by decide) (fun c_14 => ?_) (fun c_14 => ?_)
      · skip
        have hc_14 := leE (a := z_sets.toInt) (b := x_8.toInt) rfl rfl c_14
        exact em_v (w1 := (fun (u : Int32 × (Nat → Int64)) => (WZ_PVO cI cJ mv mr (upd mi 2 u.1) mf (va_up mg 3 u.2)))) E hr hlk (x_9, g_10) hw12 trivial (Nat.le_of_ble_eq_true rfl) (Nat.le_of_ble_eq_true rfl) dX6_choose_124
      · skip
        have hc_14 := nleE (a := z_sets.toInt) (b := x_8.toInt) rfl rfl c_14
        refine lv_aload_n (pc := 19) E.1 E.2.1 dX6_choose_19 rfl (lv_at hl13 1 rfl) ?_
        refine lv_aload_n (pc := 20) E.1 E.2.1 dX6_choose_20 rfl (lv_at hl13 2 rfl) ?_
        refine lv_iload (pc := 21) E.1 E.2.1 dX6_choose_21 (lv_at hl13 0 rfl) ?_
        refine ck_i (pc := 23) (ws' := (fun (u : Unit) => (WZ_PVO cI cJ mv mr (upd mi 2 x_9) mf (va_up mg 3 g_10)))) [true, true, true, true, true, true, true, true, true, true, true, true, true, true, true, true, true, true, true, true, true, true, true, true, true, true, true, true, true, true, true, true, true, true, true, true, true, true, true, true, true, true, true, true, true, true, true, true, true, true, true, true, true, true, true, true, true] hw12 rfl (fun hC_ => (rn_V (As := [.ref (mr 11), .int x_8]) (rest := []) E hw12 (t_worthOf l D cI cJ _ mr (upd mi 2 x_9) mf (va_up mg 3 g_10) x_8 (vl [mv 0]) h0 h1 h2 h3 a_wanted) (gdV q_1234 q_1236 q_38 q_170 q_1237) hdV_X6_worthOf ⟨rfl, rfl⟩ ⟨(Nat.le_of_ble_eq_true rfl), (Nat.le_of_ble_eq_true rfl)⟩ ⟨(Nat.le_of_ble_eq_true rfl), (Nat.le_of_ble_eq_true rfl)⟩ xT_b xT_at 0 6 rfl rfl rfl _ hC_ (nd_T _ 0) rfl hl13.1 rfl (Nat.le_of_ble_eq_true rfl) dX6_choose_23)) rfl (fun _ => rfl) (fun _ => rfl) (fun r_16 u_15 H1 locs hp hw17 => ?_)
        generalize H1 = H at hw17 ⊢
        have hw18 : WD D A s.heap (WZ_PVO cI cJ mv mr (upd mi 2 x_9) mf (va_up mg 3 g_10)) H locs := hw17
        refine lv_istore (pc := 26) (lv' := [(5, .int r_16), (4, .int x_8), (0, .ref (mr 0)), (1, .ref (mr 11)), (2, .int z_houses), (3, .int z_sets)]) E.1 E.2.1 dX6_choose_26 hl13 (by decide) rfl (fun ls hl19 => ?_)
        refine lv_iconst (pc := 28) (v := 0) E.1 E.2.1 dX6_choose_28 (by decide +kernel) ?_
        refine lv_istore (pc := 29) (lv' := [(6, .int 0), (5, .int r_16), (4, .int x_8), (0, .ref (mr 0)), (1, .ref (mr 11)), (2, .int z_houses), (3, .int z_sets)]) E.1 E.2.1 dX6_choose_29 hl19 (by decide) rfl (fun ls hl20 => ?_)
        have loop_21 : ∀ (k : Nat) (x_22 : Int32) (x_23 : Int32) (g_24 : Nat → Int64) (H : Heap) (locs : List Loc) (ls : Array Slot), (0 ≤ x_22.toInt) ∧ (x_22.toInt ≤ z_houses.toInt) → z_houses.toInt - x_22.toInt < (k : Int) → WD D A s.heap (WZ_PVO cI cJ mv mr (upd mi 2 x_23) mf (va_up mg 3 g_24)) H locs → lv_has ls 10 [(6, .int x_22), (5, .int r_16), (4, .int x_8), (0, .ref (mr 0)), (1, .ref (mr 11)), (2, .int z_houses), (3, .int z_sets)] → W p l e ({ frames := 2, cells := 0, slots := 0, locals := 64 } : Room) s m ([.ref (mr 0), .ref (mr 11), .int z_houses, .int z_sets] : List Value).toArray below meth c H locs 0 0 (MQ below (va_Qv (fun (u : Int32 × (Nat → Int64)) => True) (fun u => QW D cI cJ A ((fun (u : Int32 × (Nat → Int64)) => (WZ_PVO cI cJ mv mr (upd mi 2 u.1) mf (va_up mg 3 u.2))) u)) A) ([.ref (mr 0), .ref (mr 11), .int z_houses, .int z_sets] : List Value).toArray s 0 0 A) (F0 m 31 ls []) := by
          intro k
          induction k with
          | zero =>
            intro x_22 x_23 g_24 _ _ _ hinv hm
            obtain ⟨hi_24_0, hi_24_1⟩ := hinv
            exact absurd hm (by omega)
          | succ k ih_25 =>
            intro x_22 x_23 g_24 H locs ls hinv hm hw26 hl27
            obtain ⟨hi_24_0, hi_24_1⟩ := hinv
            refine lv_iload (pc := 31) E.1 E.2.1 dX6_choose_31 (lv_at hl27 0 rfl) ?_
            refine lv_iload_n (pc := 33) E.1 E.2.1 dX6_choose_33 rfl (lv_at hl27 5 rfl) ?_
            refine lv_icmp_ge (pc := 34) (tgt := 118) E.1 E.2.1 dX6_choose_34 (by decide) (fun c_28 => ?_) (fun c_28 => ?_)
            · skip
              have hc_28 := leE (a := z_houses.toInt) (b := x_22.toInt) rfl rfl c_28
              obtain ⟨v_29, ev_29⟩ : ∃ z : Int32, x_8 + Int32.ofInt (1) = z := ⟨_, rfl⟩
              have hv_29 : v_29.toInt = x_8.toInt + (1) := by rw [← ev_29]; exact incE rfl (by decide) (by omega)
              refine lv_iinc (pc := 118) (v := v_29) (lv' := [(4, .int v_29), (6, .int x_22), (5, .int r_16), (0, .ref (mr 0)), (1, .ref (mr 11)), (2, .int z_houses), (3, .int z_sets)]) E.1 E.2.1 dX6_choose_118 hl27 (k := 2) rfl ev_29 (by decide) rfl (fun ls hl30 => ?_)
              refine lv_goto (pc := 121) (tgt := 13) E.1 E.2.1 dX6_choose_121 (by decide) ?_
              exact ih_11 v_29 x_23 g_24 _ _ _ ⟨(by show 0 ≤ v_29.toInt; omega), (by show v_29.toInt ≤ z_sets.toInt; omega)⟩ (by omega) hw26 (lv_sub hl30 [0, 3, 4, 5, 6] rfl)
            · skip
              have hc_28 := nleE (a := z_houses.toInt) (b := x_22.toInt) rfl rfl c_28
              refine lv_aload_n (pc := 37) E.1 E.2.1 dX6_choose_37 rfl (lv_at hl27 3 rfl) ?_
              refine x_get (pc := 38) (T := TX6) (N := 10) (ci := 6) (v := .ref (mr 4)) E hw26 inX6 0 3 q_1165 rfl rfl (by decide) rfl rfl dX6_choose_38 ?_
              refine lv_iload (pc := 41) E.1 E.2.1 dX6_choose_41 (lv_at hl27 2 rfl) ?_
              refine lv_iload_n (pc := 43) E.1 E.2.1 dX6_choose_43 rfl (lv_at hl27 5 rfl) ?_
              refine lv_imul (pc := 44) E.1 E.2.1 dX6_choose_44 ?_
              refine lv_topi (fun v_31 ev_31 => ?_)
              have hbv_31 : 0 ≤ v_31.toInt ∧ v_31.toInt ≤ 10230 := by rw [ev_31]; exact mulB (a := 1023) (b := 10) (by omega) (by omega) (by decide)
              refine lv_iload (pc := 45) E.1 E.2.1 dX6_choose_45 (lv_at hl27 0 rfl) ?_
              refine lv_iadd (pc := 47) E.1 E.2.1 dX6_choose_47 ?_
              refine lv_topi (fun v_32 ev_32 => ?_)
              have hv_32 : v_32.toInt = v_31.toInt + x_22.toInt := by rw [ev_32]; exact addE rfl rfl (by omega)
              refine x_lald (pc := 48) (f := (mg 4)) E hw26 1 rfl (inbE (a := v_32.toInt) rfl (by omega)) dX6_choose_48 (fun w_33 => ?_)
              refine lv_lstore (pc := 49) (lv' := [(7, .long w_33), (6, .int x_22), (5, .int r_16), (4, .int x_8), (0, .ref (mr 0)), (1, .ref (mr 11)), (2, .int z_houses), (3, .int z_sets)]) E.1 E.2.1 dX6_choose_49 hl27 (by decide) rfl (fun ls hl34 => ?_)
              refine lv_iload (pc := 51) E.1 E.2.1 dX6_choose_51 (lv_at hl34 2 rfl) ?_
              refine lv_aload_n (pc := 53) E.1 E.2.1 dX6_choose_53 rfl (lv_at hl34 4 rfl) ?_
              refine x_get (pc := 54) (T := TX6) (N := 10) (ci := 6) (v := .int x_23) E hw26 inX6 0 1 q_1162 rfl rfl (by decide) rfl rfl dX6_choose_54 ?_
              refine lv_icmp_gt (pc := 57) (tgt := 79) E.1 E.2.1 dX6_choose_57 (by decide) (fun c_35 => ?_) (fun c_35 => ?_)
              · skip
                have hc_35 := ltE (a := x_23.toInt) (b := r_16.toInt) rfl rfl c_35
                refine lv_iconst (pc := 79) (v := 1) E.1 E.2.1 dX6_choose_79 (by decide +kernel) ?_
                refine lv_goto (pc := 80) (tgt := 84) E.1 E.2.1 dX6_choose_80 (by decide) ?_
                refine lv_istore (pc := 84) (lv' := [(9, .int 1), (7, .long w_33), (6, .int x_22), (5, .int r_16), (4, .int x_8), (0, .ref (mr 0)), (1, .ref (mr 11)), (2, .int z_houses), (3, .int z_sets)]) E.1 E.2.1 dX6_choose_84 hl34 (by decide) rfl (fun ls hl36 => ?_)
                refine lv_lload (pc := 86) E.1 E.2.1 dX6_choose_86 (lv_at hl36 1 rfl) ?_
                refine lv_ldc2 (pc := 88) (v := (-1)) E.1 E.2.1 E.2.2.2.1 (E.2.2.2.2.1 _ q_1206) dX6_choose_88 ?_
                refine W.lcmp (pc := 91) E.1 E.2.1 dX6_choose_91 ?_
                refine lv_topi (fun v_37 ev_37 => ?_)
                refine lv_if_eq (pc := 92) (tgt := 112) E.1 E.2.1 dX6_choose_92 (by decide) (fun c_38 => ?_) (fun c_38 => ?_)
                · skip
                  have hc_38 := eqE (a := v_37.toInt) (b := 0) rfl (by decide +kernel) c_38
                  obtain ⟨v_39, ev_39⟩ : ∃ z : Int32, x_22 + Int32.ofInt (1) = z := ⟨_, rfl⟩
                  have hv_39 : v_39.toInt = x_22.toInt + (1) := by rw [← ev_39]; exact incE rfl (by decide) (by omega)
                  refine lv_iinc (pc := 112) (v := v_39) (lv' := [(6, .int v_39), (9, .int 1), (7, .long w_33), (5, .int r_16), (4, .int x_8), (0, .ref (mr 0)), (1, .ref (mr 11)), (2, .int z_houses), (3, .int z_sets)]) E.1 E.2.1 dX6_choose_112 hl36 (k := 2) rfl ev_39 (by decide) rfl (fun ls hl40 => ?_)
                  refine lv_goto (pc := 115) (tgt := 31) E.1 E.2.1 dX6_choose_115 (by decide) ?_
                  exact ih_25 v_39 x_23 g_24 _ _ _ ⟨(by show 0 ≤ v_39.toInt; omega), (by show v_39.toInt ≤ z_houses.toInt; omega)⟩ (by omega) hw26 (lv_sub hl40 [0, 3, 4, 5, 6, 7, 8] rfl)
                · skip
                  have hc_38 := neE (a := v_37.toInt) (b := 0) rfl (by decide +kernel) c_38
                  refine lv_iload (pc := 95) E.1 E.2.1 dX6_choose_95 (lv_at hl36 0 rfl) ?_
                  refine lv_if_eq (pc := 97) (tgt := 112) E.1 E.2.1 dX6_choose_97 (by decide) (fun c_41 => absurd c_41 (mneE (a := 1) (b := 0) (by decide +kernel) (by decide +kernel) (by omega))) (fun _ => ?_)
                  refine lv_aload_n (pc := 100) E.1 E.2.1 dX6_choose_100 rfl (lv_at hl36 5 rfl) ?_
                  refine lv_iload (pc := 101) E.1 E.2.1 dX6_choose_101 (lv_at hl36 3 rfl) ?_
                  refine x_put (pc := 103) (T := TX6) (N := 10) (ci := 6) (ws' := (WZ_PVO cI cJ mv mr (upd mi 2 r_16) mf (va_up mg 3 g_24))) E hw26 inX6 tyX6_ok nmX6 0 1 q_1162 rfl rfl (by decide) rfl rfl rfl rfl (Nat.le_of_ble_eq_true rfl) rfl dX6_choose_103 (fun H locs hw42 => ?_)
                  refine lv_aload_n (pc := 106) E.1 E.2.1 dX6_choose_106 rfl (lv_at hl36 5 rfl) ?_
                  refine lv_lload (pc := 107) E.1 E.2.1 dX6_choose_107 (lv_at hl36 1 rfl) ?_
                  refine x_put (pc := 109) (T := TX6) (N := 10) (ci := 6) (ws' := (WZ_PVO cI cJ mv mr (upd mi 2 r_16) mf (va_up mg 3 (fun _ => w_33)))) E hw42 inX6 tyX6_ok nmX6 0 2 q_1164 rfl rfl (by decide) rfl rfl rfl rfl (Nat.le_of_ble_eq_true rfl) rfl dX6_choose_109 (fun H locs hw43 => ?_)
                  obtain ⟨v_44, ev_44⟩ : ∃ z : Int32, x_22 + Int32.ofInt (1) = z := ⟨_, rfl⟩
                  have hv_44 : v_44.toInt = x_22.toInt + (1) := by rw [← ev_44]; exact incE rfl (by decide) (by omega)
                  refine lv_iinc (pc := 112) (v := v_44) (lv' := [(6, .int v_44), (9, .int 1), (7, .long w_33), (5, .int r_16), (4, .int x_8), (0, .ref (mr 0)), (1, .ref (mr 11)), (2, .int z_houses), (3, .int z_sets)]) E.1 E.2.1 dX6_choose_112 hl36 (k := 2) rfl ev_44 (by decide) rfl (fun ls hl45 => ?_)
                  refine lv_goto (pc := 115) (tgt := 31) E.1 E.2.1 dX6_choose_115 (by decide) ?_
                  exact ih_25 v_44 r_16 (fun _ => w_33) _ _ _ ⟨(by show 0 ≤ v_44.toInt; omega), (by show v_44.toInt ≤ z_houses.toInt; omega)⟩ (by omega) hw43 (lv_sub hl45 [0, 3, 4, 5, 6, 7, 8] rfl)
              · skip
                have hc_35 := nltE (a := x_23.toInt) (b := r_16.toInt) rfl rfl c_35
                refine lv_iload (pc := 60) E.1 E.2.1 dX6_choose_60 (lv_at hl34 2 rfl) ?_
                refine lv_aload_n (pc := 62) E.1 E.2.1 dX6_choose_62 rfl (lv_at hl34 4 rfl) ?_
                refine x_get (pc := 63) (T := TX6) (N := 10) (ci := 6) (v := .int x_23) E hw26 inX6 0 1 q_1162 rfl rfl (by decide) rfl rfl dX6_choose_63 ?_
                refine lv_icmp_ne (pc := 66) (tgt := 83) E.1 E.2.1 dX6_choose_66 (by decide) (fun c_46 => ?_) (fun c_46 => ?_)
                · skip
                  have hc_46 := neE (a := r_16.toInt) (b := x_23.toInt) rfl rfl c_46
                  refine lv_iconst (pc := 83) (v := 0) E.1 E.2.1 dX6_choose_83 (by decide +kernel) ?_
                  refine lv_istore (pc := 84) (lv' := [(9, .int 0), (7, .long w_33), (6, .int x_22), (5, .int r_16), (4, .int x_8), (0, .ref (mr 0)), (1, .ref (mr 11)), (2, .int z_houses), (3, .int z_sets)]) E.1 E.2.1 dX6_choose_84 hl34 (by decide) rfl (fun ls hl47 => ?_)
                  refine lv_lload (pc := 86) E.1 E.2.1 dX6_choose_86 (lv_at hl47 1 rfl) ?_
                  refine lv_ldc2 (pc := 88) (v := (-1)) E.1 E.2.1 E.2.2.2.1 (E.2.2.2.2.1 _ q_1206) dX6_choose_88 ?_
                  refine W.lcmp (pc := 91) E.1 E.2.1 dX6_choose_91 ?_
                  refine lv_topi (fun v_48 ev_48 => ?_)
                  refine lv_if_eq (pc := 92) (tgt := 112) E.1 E.2.1 dX6_choose_92 (by decide) (fun c_49 => ?_) (fun c_49 => ?_)
                  · skip
                    have hc_49 := eqE (a := v_48.toInt) (b := 0) rfl (by decide +kernel) c_49
                    obtain ⟨v_50, ev_50⟩ : ∃ z : Int32, x_22 + Int32.ofInt (1) = z := ⟨_, rfl⟩
                    have hv_50 : v_50.toInt = x_22.toInt + (1) := by rw [← ev_50]; exact incE rfl (by decide) (by omega)
                    refine lv_iinc (pc := 112) (v := v_50) (lv' := [(6, .int v_50), (9, .int 0), (7, .long w_33), (5, .int r_16), (4, .int x_8), (0, .ref (mr 0)), (1, .ref (mr 11)), (2, .int z_houses), (3, .int z_sets)]) E.1 E.2.1 dX6_choose_112 hl47 (k := 2) rfl ev_50 (by decide) rfl (fun ls hl51 => ?_)
                    refine lv_goto (pc := 115) (tgt := 31) E.1 E.2.1 dX6_choose_115 (by decide) ?_
                    exact ih_25 v_50 x_23 g_24 _ _ _ ⟨(by show 0 ≤ v_50.toInt; omega), (by show v_50.toInt ≤ z_houses.toInt; omega)⟩ (by omega) hw26 (lv_sub hl51 [0, 3, 4, 5, 6, 7, 8] rfl)
                  · skip
                    have hc_49 := neE (a := v_48.toInt) (b := 0) rfl (by decide +kernel) c_49
                    refine lv_iload (pc := 95) E.1 E.2.1 dX6_choose_95 (lv_at hl47 0 rfl) ?_
                    refine lv_if_eq (pc := 97) (tgt := 112) E.1 E.2.1 dX6_choose_97 (by decide) (fun _ => ?_) (fun c_52 => absurd (meqE (a := 0) (b := 0) (by decide +kernel) (by decide +kernel) (by omega)) c_52)
                    obtain ⟨v_53, ev_53⟩ : ∃ z : Int32, x_22 + Int32.ofInt (1) = z := ⟨_, rfl⟩
                    have hv_53 : v_53.toInt = x_22.toInt + (1) := by rw [← ev_53]; exact incE rfl (by decide) (by omega)
                    refine lv_iinc (pc := 112) (v := v_53) (lv' := [(6, .int v_53), (9, .int 0), (7, .long w_33), (5, .int r_16), (4, .int x_8), (0, .ref (mr 0)), (1, .ref (mr 11)), (2, .int z_houses), (3, .int z_sets)]) E.1 E.2.1 dX6_choose_112 hl47 (k := 2) rfl ev_53 (by decide) rfl (fun ls hl54 => ?_)
                    refine lv_goto (pc := 115) (tgt := 31) E.1 E.2.1 dX6_choose_115 (by decide) ?_
                    exact ih_25 v_53 x_23 g_24 _ _ _ ⟨(by show 0 ≤ v_53.toInt; omega), (by show v_53.toInt ≤ z_houses.toInt; omega)⟩ (by omega) hw26 (lv_sub hl54 [0, 3, 4, 5, 6, 7, 8] rfl)
                · skip
                  have hc_46 := eqE (a := r_16.toInt) (b := x_23.toInt) rfl rfl c_46
                  refine lv_lload (pc := 69) E.1 E.2.1 dX6_choose_69 (lv_at hl34 0 rfl) ?_
                  refine lv_aload_n (pc := 71) E.1 E.2.1 dX6_choose_71 rfl (lv_at hl34 4 rfl) ?_
                  refine x_get (pc := 72) (T := TX6) (N := 10) (ci := 6) (v := .long (g_24 0)) E hw26 inX6 0 2 q_1164 rfl rfl (by decide) rfl rfl dX6_choose_72 ?_
                  refine W.lcmp (pc := 75) E.1 E.2.1 dX6_choose_75 ?_
                  refine lv_topi (fun v_55 ev_55 => ?_)
                  refine lv_if_ge (pc := 76) (tgt := 83) E.1 E.2.1 dX6_choose_76 (by decide) (fun c_56 => ?_) (fun c_56 => ?_)
                  · skip
                    have hc_56 := leE (a := 0) (b := v_55.toInt) (by decide +kernel) rfl c_56
                    refine lv_iconst (pc := 83) (v := 0) E.1 E.2.1 dX6_choose_83 (by decide +kernel) ?_
                    refine lv_istore (pc := 84) (lv' := [(9, .int 0), (7, .long w_33), (6, .int x_22), (5, .int r_16), (4, .int x_8), (0, .ref (mr 0)), (1, .ref (mr 11)), (2, .int z_houses), (3, .int z_sets)]) E.1 E.2.1 dX6_choose_84 hl34 (by decide) rfl (fun ls hl57 => ?_)
                    refine lv_lload (pc := 86) E.1 E.2.1 dX6_choose_86 (lv_at hl57 1 rfl) ?_
                    refine lv_ldc2 (pc := 88) (v := (-1)) E.1 E.2.1 E.2.2.2.1 (E.2.2.2.2.1 _ q_1206) dX6_choose_88 ?_
                    refine W.lcmp (pc := 91) E.1 E.2.1 dX6_choose_91 ?_
                    refine lv_topi (fun v_58 ev_58 => ?_)
                    refine lv_if_eq (pc := 92) (tgt := 112) E.1 E.2.1 dX6_choose_92 (by decide) (fun c_59 => ?_) (fun c_59 => ?_)
                    · skip
                      have hc_59 := eqE (a := v_58.toInt) (b := 0) rfl (by decide +kernel) c_59
                      obtain ⟨v_60, ev_60⟩ : ∃ z : Int32, x_22 + Int32.ofInt (1) = z := ⟨_, rfl⟩
                      have hv_60 : v_60.toInt = x_22.toInt + (1) := by rw [← ev_60]; exact incE rfl (by decide) (by omega)
                      refine lv_iinc (pc := 112) (v := v_60) (lv' := [(6, .int v_60), (9, .int 0), (7, .long w_33), (5, .int r_16), (4, .int x_8), (0, .ref (mr 0)), (1, .ref (mr 11)), (2, .int z_houses), (3, .int z_sets)]) E.1 E.2.1 dX6_choose_112 hl57 (k := 2) rfl ev_60 (by decide) rfl (fun ls hl61 => ?_)
                      refine lv_goto (pc := 115) (tgt := 31) E.1 E.2.1 dX6_choose_115 (by decide) ?_
                      exact ih_25 v_60 x_23 g_24 _ _ _ ⟨(by show 0 ≤ v_60.toInt; omega), (by show v_60.toInt ≤ z_houses.toInt; omega)⟩ (by omega) hw26 (lv_sub hl61 [0, 3, 4, 5, 6, 7, 8] rfl)
                    · skip
                      have hc_59 := neE (a := v_58.toInt) (b := 0) rfl (by decide +kernel) c_59
                      refine lv_iload (pc := 95) E.1 E.2.1 dX6_choose_95 (lv_at hl57 0 rfl) ?_
                      refine lv_if_eq (pc := 97) (tgt := 112) E.1 E.2.1 dX6_choose_97 (by decide) (fun _ => ?_) (fun c_62 => absurd (meqE (a := 0) (b := 0) (by decide +kernel) (by decide +kernel) (by omega)) c_62)
                      obtain ⟨v_63, ev_63⟩ : ∃ z : Int32, x_22 + Int32.ofInt (1) = z := ⟨_, rfl⟩
                      have hv_63 : v_63.toInt = x_22.toInt + (1) := by rw [← ev_63]; exact incE rfl (by decide) (by omega)
                      refine lv_iinc (pc := 112) (v := v_63) (lv' := [(6, .int v_63), (9, .int 0), (7, .long w_33), (5, .int r_16), (4, .int x_8), (0, .ref (mr 0)), (1, .ref (mr 11)), (2, .int z_houses), (3, .int z_sets)]) E.1 E.2.1 dX6_choose_112 hl57 (k := 2) rfl ev_63 (by decide) rfl (fun ls hl64 => ?_)
                      refine lv_goto (pc := 115) (tgt := 31) E.1 E.2.1 dX6_choose_115 (by decide) ?_
                      exact ih_25 v_63 x_23 g_24 _ _ _ ⟨(by show 0 ≤ v_63.toInt; omega), (by show v_63.toInt ≤ z_houses.toInt; omega)⟩ (by omega) hw26 (lv_sub hl64 [0, 3, 4, 5, 6, 7, 8] rfl)
                  · skip
                    have hc_56 := nleE (a := 0) (b := v_55.toInt) (by decide +kernel) rfl c_56
                    refine lv_iconst (pc := 79) (v := 1) E.1 E.2.1 dX6_choose_79 (by decide +kernel) ?_
                    refine lv_goto (pc := 80) (tgt := 84) E.1 E.2.1 dX6_choose_80 (by decide) ?_
                    refine lv_istore (pc := 84) (lv' := [(9, .int 1), (7, .long w_33), (6, .int x_22), (5, .int r_16), (4, .int x_8), (0, .ref (mr 0)), (1, .ref (mr 11)), (2, .int z_houses), (3, .int z_sets)]) E.1 E.2.1 dX6_choose_84 hl34 (by decide) rfl (fun ls hl65 => ?_)
                    refine lv_lload (pc := 86) E.1 E.2.1 dX6_choose_86 (lv_at hl65 1 rfl) ?_
                    refine lv_ldc2 (pc := 88) (v := (-1)) E.1 E.2.1 E.2.2.2.1 (E.2.2.2.2.1 _ q_1206) dX6_choose_88 ?_
                    refine W.lcmp (pc := 91) E.1 E.2.1 dX6_choose_91 ?_
                    refine lv_topi (fun v_66 ev_66 => ?_)
                    refine lv_if_eq (pc := 92) (tgt := 112) E.1 E.2.1 dX6_choose_92 (by decide) (fun c_67 => ?_) (fun c_67 => ?_)
                    · skip
                      have hc_67 := eqE (a := v_66.toInt) (b := 0) rfl (by decide +kernel) c_67
                      obtain ⟨v_68, ev_68⟩ : ∃ z : Int32, x_22 + Int32.ofInt (1) = z := ⟨_, rfl⟩
                      have hv_68 : v_68.toInt = x_22.toInt + (1) := by rw [← ev_68]; exact incE rfl (by decide) (by omega)
                      refine lv_iinc (pc := 112) (v := v_68) (lv' := [(6, .int v_68), (9, .int 1), (7, .long w_33), (5, .int r_16), (4, .int x_8), (0, .ref (mr 0)), (1, .ref (mr 11)), (2, .int z_houses), (3, .int z_sets)]) E.1 E.2.1 dX6_choose_112 hl65 (k := 2) rfl ev_68 (by decide) rfl (fun ls hl69 => ?_)
                      refine lv_goto (pc := 115) (tgt := 31) E.1 E.2.1 dX6_choose_115 (by decide) ?_
                      exact ih_25 v_68 x_23 g_24 _ _ _ ⟨(by show 0 ≤ v_68.toInt; omega), (by show v_68.toInt ≤ z_houses.toInt; omega)⟩ (by omega) hw26 (lv_sub hl69 [0, 3, 4, 5, 6, 7, 8] rfl)
                    · skip
                      have hc_67 := neE (a := v_66.toInt) (b := 0) rfl (by decide +kernel) c_67
                      refine lv_iload (pc := 95) E.1 E.2.1 dX6_choose_95 (lv_at hl65 0 rfl) ?_
                      refine lv_if_eq (pc := 97) (tgt := 112) E.1 E.2.1 dX6_choose_97 (by decide) (fun c_70 => absurd c_70 (mneE (a := 1) (b := 0) (by decide +kernel) (by decide +kernel) (by omega))) (fun _ => ?_)
                      refine lv_aload_n (pc := 100) E.1 E.2.1 dX6_choose_100 rfl (lv_at hl65 5 rfl) ?_
                      refine lv_iload (pc := 101) E.1 E.2.1 dX6_choose_101 (lv_at hl65 3 rfl) ?_
                      refine x_put (pc := 103) (T := TX6) (N := 10) (ci := 6) (ws' := (WZ_PVO cI cJ mv mr (upd mi 2 r_16) mf (va_up mg 3 g_24))) E hw26 inX6 tyX6_ok nmX6 0 1 q_1162 rfl rfl (by decide) rfl rfl rfl rfl (Nat.le_of_ble_eq_true rfl) rfl dX6_choose_103 (fun H locs hw71 => ?_)
                      refine lv_aload_n (pc := 106) E.1 E.2.1 dX6_choose_106 rfl (lv_at hl65 5 rfl) ?_
                      refine lv_lload (pc := 107) E.1 E.2.1 dX6_choose_107 (lv_at hl65 1 rfl) ?_
                      refine x_put (pc := 109) (T := TX6) (N := 10) (ci := 6) (ws' := (WZ_PVO cI cJ mv mr (upd mi 2 r_16) mf (va_up mg 3 (fun _ => w_33)))) E hw71 inX6 tyX6_ok nmX6 0 2 q_1164 rfl rfl (by decide) rfl rfl rfl rfl (Nat.le_of_ble_eq_true rfl) rfl dX6_choose_109 (fun H locs hw72 => ?_)
                      obtain ⟨v_73, ev_73⟩ : ∃ z : Int32, x_22 + Int32.ofInt (1) = z := ⟨_, rfl⟩
                      have hv_73 : v_73.toInt = x_22.toInt + (1) := by rw [← ev_73]; exact incE rfl (by decide) (by omega)
                      refine lv_iinc (pc := 112) (v := v_73) (lv' := [(6, .int v_73), (9, .int 1), (7, .long w_33), (5, .int r_16), (4, .int x_8), (0, .ref (mr 0)), (1, .ref (mr 11)), (2, .int z_houses), (3, .int z_sets)]) E.1 E.2.1 dX6_choose_112 hl65 (k := 2) rfl ev_73 (by decide) rfl (fun ls hl74 => ?_)
                      refine lv_goto (pc := 115) (tgt := 31) E.1 E.2.1 dX6_choose_115 (by decide) ?_
                      exact ih_25 v_73 r_16 (fun _ => w_33) _ _ _ ⟨(by show 0 ≤ v_73.toInt; omega), (by show v_73.toInt ≤ z_houses.toInt; omega)⟩ (by omega) hw72 (lv_sub hl74 [0, 3, 4, 5, 6, 7, 8] rfl)
        exact loop_21 (Int.toNat (z_houses.toInt - 0) + 1) 0 x_9 g_10 _ _ _ ⟨(by show 0 ≤ (0 : Int32).toInt; have k_0 : (0 : Int32).toInt = 0 := (by decide +kernel); omega), (by show (0 : Int32).toInt ≤ z_houses.toInt; have k_0 : (0 : Int32).toInt = 0 := (by decide +kernel); omega)⟩ (by have k_0 : (0 : Int32).toInt = 0 := (by decide +kernel); omega) hw18 (lv_sub hl20 [0, 1, 2, 3, 4, 5, 6] rfl)
  exact loop_7 (Int.toNat (z_sets.toInt - 0) + 1) 0 (-1) (fun _ => 0) _ _ _ ⟨(by show 0 ≤ (0 : Int32).toInt; have k_0 : (0 : Int32).toInt = 0 := (by decide +kernel); omega), (by show (0 : Int32).toInt ≤ z_sets.toInt; have k_0 : (0 : Int32).toInt = 0 := (by decide +kernel); omega)⟩ (by have k_0 : (0 : Int32).toInt = 0 := (by decide +kernel); have k_1 : ((-1) : Int32).toInt = -1 := (by decide +kernel); omega) hw5 (lv_sub hl6 [0, 1, 2, 3, 4] rfl)
