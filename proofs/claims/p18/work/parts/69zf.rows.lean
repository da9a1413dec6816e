set_option maxHeartbeats 4000000 in
set_option maxRecDepth 100000 in
theorem t_mend (l : Launch) (D : va_G) (cI cJ : ClassId) (sz : Nat) (mr : Nat → Nat) (mi : Nat → Int32) (mf : Nat → Nat → Int32) (mg : Nat → Nat → Int64) (z_house : Int32) (mv : Nat → Value) (h0 : 0 ≤ (mi 1).toInt ∧ (mi 1).toInt ≤ 5) (h1 : 0 ≤ (mi 2).toInt ∧ (mi 2).toInt ≤ 6) (h2 : 0 ≤ (mi 19).toInt ∧ (mi 19).toInt ≤ 200) (h3 : 0 ≤ (mi 27).toInt ∧ (mi 27).toInt ≤ 10) : Met l yX11_mend (Cond.code yX11_mend cX11_mend 5 (some .int) :: GW) ({ frames := 11, cells := 0, slots := 0, locals := 263 } : Room) (va_Pc [.ref (mr 0), .int z_house] (PW D cI cJ sz (WZ_Mmend cI cJ mv mr mi mf mg) xT)) (va_Qi (fun (r : Int32) (u : (Nat → Int32) × (Nat → Nat → Int32) × (Nat → Nat → Int64)) => (0 ≤ (u.1 1).toInt) ∧ ((u.1 1).toInt ≤ 5) ∧ (0 ≤ (u.1 2).toInt) ∧ ((u.1 2).toInt ≤ 6) ∧ (0 ≤ (u.1 19).toInt) ∧ ((u.1 19).toInt ≤ 200) ∧ (0 ≤ (u.1 27).toInt) ∧ ((u.1 27).toInt ≤ 10) ∧ ((u.1 27).toInt = (mi 27).toInt) ∧ ((Eq (mf 22)) (u.2.1 22)) ∧ ((Eq (mf 26)) (u.2.1 26))) (fun u => QW D cI cJ (va_A (WZ_Mmend cI cJ mv mr mi mf mg) sz) ((fun (u : (Nat → Int32) × (Nat → Nat → Int32) × (Nat → Nat → Int64)) => (WZ_Mmend cI cJ mv mr u.1 u.2.1 u.2.2)) u)) (va_A (WZ_Mmend cI cJ mv mr mi mf mg) sz)) 0 0 (va_A (WZ_Mmend cI cJ mv mr mi mf mg) sz) := by
  refine mk_met (y := yX11_mend) (bytes := cX11_mend) (maxL := 5) (avs := [.ref (mr 0), .int z_house]) (WS := (WZ_Mmend cI cJ mv mr mi mf mg)) (Qf := fun A => va_Qi (fun (r : Int32) (u : (Nat → Int32) × (Nat → Nat → Int32) × (Nat → Nat → Int64)) => (0 ≤ (u.1 1).toInt) ∧ ((u.1 1).toInt ≤ 5) ∧ (0 ≤ (u.1 2).toInt) ∧ ((u.1 2).toInt ≤ 6) ∧ (0 ≤ (u.1 19).toInt) ∧ ((u.1 19).toInt ≤ 200) ∧ (0 ≤ (u.1 27).toInt) ∧ ((u.1 27).toInt ≤ 10) ∧ ((u.1 27).toInt = (mi 27).toInt) ∧ ((Eq (mf 22)) (u.2.1 22)) ∧ ((Eq (mf 26)) (u.2.1 26))) (fun u => QW D cI cJ A ((fun (u : (Nat → Int32) × (Nat → Nat → Int32) × (Nat → Nat → Int64)) => (WZ_Mmend cI cJ mv mr u.1 u.2.1 u.2.2)) u)) A) (by decide) (Nat.le_of_ble_eq_true rfl) ?_
  intro p e s m below meth c A ls E hr hlk hnm hX hw1 hl2
  have hl3 : lv_has ls 5 [(0, .ref (mr 0)), (1, .int z_house)] := hl2
  refine lv_iload_n (pc := 0) E.1 E.2.1 dX11_mend_0 rfl (lv_at hl3 1 rfl) ?_
  refine lv_iconst (pc := 1) (v := (-1)) E.1 E.2.1 dX11_mend_1 (by decide +kernel) ?_
  refine lv_icmp_eq (pc := 2) (tgt := 21) E.1 E.2.1 dX11_mend_2 (by decide) (fun c_4 => ?_) (fun c_4 => ?_)
  · skip
    have hc_4 := eqE (a := z_house.toInt) (b := (-1)) rfl (by decide +kernel) c_4
    refine lv_aload_n (pc := 21) E.1 E.2.1 dX11_mend_21 rfl (lv_at hl3 0 rfl) ?_
    refine x_get (pc := 22) (T := TX11) (N := 13) (ci := 11) (v := .ref (mr 3)) E hw1 inX11 0 0 q_606 rfl rfl (by decide) rfl rfl dX11_mend_22 ?_
    refine x_get (pc := 25) (T := TX10) (N := 17) (ci := 10) (v := .ref (mr 8)) E hw1 inX10 1 0 q_458 rfl rfl (by decide) rfl rfl dX11_mend_25 ?_
    refine x_get (pc := 28) (T := TX4) (N := 12) (ci := 4) (v := .ref (mr 11)) E hw1 inX4 2 2 q_199 rfl rfl (by decide) rfl rfl dX11_mend_28 ?_
    refine lv_astore_n (pc := 31) (lv' := [(2, .ref (mr 11)), (0, .ref (mr 0)), (1, .int z_house)]) E.1 E.2.1 dX11_mend_31 rfl hl3 (by decide) rfl (fun ls hl5 => ?_)
    refine lv_aload_n (pc := 32) E.1 E.2.1 dX11_mend_32 rfl (lv_at hl5 1 rfl) ?_
    refine x_get (pc := 33) (T := TX11) (N := 13) (ci := 11) (v := .ref (mr 3)) E hw1 inX11 0 0 q_606 rfl rfl (by decide) rfl rfl dX11_mend_33 ?_
    refine x_get (pc := 36) (T := TX10) (N := 17) (ci := 10) (v := .ref (mr 21)) E hw1 inX10 1 1 q_463 rfl rfl (by decide) rfl rfl dX11_mend_36 ?_
    refine lv_aload_n (pc := 39) E.1 E.2.1 dX11_mend_39 rfl (lv_at hl5 0 rfl) ?_
    refine lv_aload_n (pc := 40) E.1 E.2.1 dX11_mend_40 rfl (lv_at hl5 1 rfl) ?_
    refine x_get (pc := 41) (T := TX11) (N := 13) (ci := 11) (v := .ref (mr 3)) E hw1 inX11 0 0 q_606 rfl rfl (by decide) rfl rfl dX11_mend_41 ?_
    refine x_get (pc := 44) (T := TX10) (N := 17) (ci := 10) (v := .int (mi 5)) E hw1 inX10 1 10 q_484 rfl rfl (by decide) rfl rfl dX11_mend_44 ?_
    refine cq_i (pc := 47) (ws' := (fun (u : (Nat → Int32)) => (WZ_Mmend cI cJ mv mr mi (va_up mf 28 u) mg))) hw1 [8, 9, 10, 11, 12, 13, 14, 15, 5] [0, 1, 2, 3, 4, 6, 7] [0, 1, 2, 3, 4, 15, 5, 6, 7, 8, 9, 10, 11, 12, 13, 14] rfl rfl (by decide) (by decide) (fun _ => rfl) (by decide) (rn_V (As := [.ref (mr 11), .int (mi 5)]) (rest := []) E hw1 (t_canMend l D cI cJ _ (shg 9 21 2 mr) (shg 9 21 2 mi) (shg 9 21 2 mf) (shg 9 21 2 mg) (mi 5) (vl [mv 21]) h3) (gdV q_1250 q_1251 q_1252 q_154 q_1253) hdV_X1_canMend ⟨rfl, rfl⟩ ⟨(Nat.le_of_ble_eq_true rfl), (Nat.le_of_ble_eq_true rfl)⟩ ⟨(Nat.le_of_ble_eq_true rfl), (Nat.le_of_ble_eq_true rfl)⟩ xT_b xT_at 8 1 rfl rfl rfl [8, 9, 10, 11, 12, 13, 14, 15, 5] rfl (by decide) rfl hl5.1 rfl (Nat.le_of_ble_eq_true rfl) dX11_mend_47) (fun r_7 u_6 H1 locs hp hw8 => ?_)
    obtain ⟨gmended_9, rfl⟩ : ∃ z, z = u_6 := ⟨_, rfl⟩
    generalize H1 = H at hw8 ⊢
    have hw10 : WD D A s.heap (WZ_Mmend cI cJ mv mr mi (va_up mf 28 gmended_9) mg) H locs := hw8
    obtain ⟨hp_11, hp_12⟩ := hp
    have hp_11 : 0 ≤ r_7.toInt := hp_11
    have hp_12 : r_7.toInt ≤ 1 := hp_12
    refine lv_if_ne (pc := 50) (tgt := 55) E.1 E.2.1 dX11_mend_50 (by decide) (fun c_13 => ?_) (fun c_13 => ?_)
    · skip
      have hc_13 := neE (a := r_7.toInt) (b := 0) rfl (by decide +kernel) c_13
      refine lv_iload_n (pc := 55) E.1 E.2.1 dX11_mend_55 rfl (lv_at hl5 2 rfl) ?_
      refine lv_iconst (pc := 56) (v := (-1)) E.1 E.2.1 dX11_mend_56 (by decide +kernel) ?_
      refine lv_icmp_eq (pc := 57) (tgt := 77) E.1 E.2.1 dX11_mend_57 (by decide) (fun _ => ?_) (fun c_14 => absurd (meqE (a := z_house.toInt) (b := (-1)) rfl (by decide +kernel) (by omega)) c_14)
      refine lv_iconst (pc := 77) (v := 0) E.1 E.2.1 dX11_mend_77 (by decide +kernel) ?_
      refine lv_istore_n (pc := 78) (lv' := [(3, .int 0), (2, .ref (mr 11)), (0, .ref (mr 0)), (1, .int z_house)]) E.1 E.2.1 dX11_mend_78 rfl hl5 (by decide) rfl (fun ls hl15 => ?_)
      refine lv_iconst (pc := 79) (v := 0) E.1 E.2.1 dX11_mend_79 (by decide +kernel) ?_
      refine lv_istore (pc := 80) (lv' := [(4, .int 0), (3, .int 0), (2, .ref (mr 11)), (0, .ref (mr 0)), (1, .int z_house)]) E.1 E.2.1 dX11_mend_80 hl15 (by decide) rfl (fun ls hl16 => ?_)
      have loop_17 : ∀ (k : Nat) (x_18 : Int32) (x_19 : Int32) (H : Heap) (locs : List Loc) (ls : Array Slot), (0 ≤ x_19.toInt) ∧ (x_19.toInt ≤ (mi 27).toInt) → (mi 27).toInt - x_19.toInt < (k : Int) → WD D A s.heap (WZ_Mmend cI cJ mv mr mi (va_up mf 28 gmended_9) mg) H locs → lv_has ls 5 [(4, .int x_19), (3, .int x_18), (2, .ref (mr 11)), (0, .ref (mr 0)), (1, .int z_house)] → W p l e ({ frames := 11, cells := 0, slots := 0, locals := 263 } : Room) s m ([.ref (mr 0), .int z_house] : List Value).toArray below meth c H locs 0 0 (MQ below (va_Qi (fun (r : Int32) (u : (Nat → Int32) × (Nat → Nat → Int32) × (Nat → Nat → Int64)) => (0 ≤ (u.1 1).toInt) ∧ ((u.1 1).toInt ≤ 5) ∧ (0 ≤ (u.1 2).toInt) ∧ ((u.1 2).toInt ≤ 6) ∧ (0 ≤ (u.1 19).toInt) ∧ ((u.1 19).toInt ≤ 200) ∧ (0 ≤ (u.1 27).toInt) ∧ ((u.1 27).toInt ≤ 10) ∧ ((u.1 27).toInt = (mi 27).toInt) ∧ ((Eq (mf 22)) (u.2.1 22)) ∧ ((Eq (mf 26)) (u.2.1 26))) (fun u => QW D cI cJ A ((fun (u : (Nat → Int32) × (Nat → Nat → Int32) × (Nat → Nat → Int64)) => (WZ_Mmend cI cJ mv mr u.1 u.2.1 u.2.2)) u)) A) ([.ref (mr 0), .int z_house] : List Value).toArray s 0 0 A) (F0 m 82 ls []) := by
        intro k
        induction k with
        | zero =>
          intro x_18 x_19 _ _ _ hinv hm
          obtain ⟨hi_19_0, hi_19_1⟩ := hinv
          exact absurd hm (by omega)
        | succ k ih_20 =>
          intro x_18 x_19 H locs ls hinv hm hw21 hl22
          obtain ⟨hi_19_0, hi_19_1⟩ := hinv
          refine lv_iload (pc := 82) E.1 E.2.1 dX11_mend_82 (lv_at hl22 0 rfl) ?_
          refine lv_aload_n (pc := 84) E.1 E.2.1 dX11_mend_84 rfl (lv_at hl22 3 rfl) ?_
          refine x_get (pc := 85) (T := TX11) (N := 13) (ci := 11) (v := .ref (mr 3)) E hw21 inX11 0 0 q_606 rfl rfl (by decide) rfl rfl dX11_mend_85 ?_
          refine x_get (pc := 88) (T := TX10) (N := 17) (ci := 10) (v := .ref (mr 21)) E hw21 inX10 1 1 q_463 rfl rfl (by decide) rfl rfl dX11_mend_88 ?_
          refine x_get (pc := 91) (T := TX1) (N := 9) (ci := 1) (v := .int (mi 27)) E hw21 inX1 8 5 q_282 rfl rfl (by decide) rfl rfl dX11_mend_91 ?_
          refine lv_icmp_ge (pc := 94) (tgt := 124) E.1 E.2.1 dX11_mend_94 (by decide) (fun c_23 => ?_) (fun c_23 => ?_)
          · skip
            have hc_23 := leE (a := (mi 27).toInt) (b := x_19.toInt) rfl rfl c_23
            refine lv_iload_n (pc := 124) E.1 E.2.1 dX11_mend_124 rfl (lv_at hl22 1 rfl) ?_
            exact em_i (w1 := (fun (u : (Nat → Int32) × (Nat → Nat → Int32) × (Nat → Nat → Int64)) => (WZ_Mmend cI cJ mv mr u.1 u.2.1 u.2.2))) E hr hlk (mi, (va_up mf 28 gmended_9), mg) hw21 ⟨h0.1, h0.2, h1.1, h1.2, h2.1, h2.2, h3.1, h3.2, rfl, rfl, rfl⟩ (Nat.le_of_ble_eq_true rfl) (Nat.le_of_ble_eq_true rfl) dX11_mend_125
          · skip
            have hc_23 := nleE (a := (mi 27).toInt) (b := x_19.toInt) rfl rfl c_23
            refine lv_iload_n (pc := 97) E.1 E.2.1 dX11_mend_97 rfl (lv_at hl22 1 rfl) ?_
            refine lv_aload_n (pc := 98) E.1 E.2.1 dX11_mend_98 rfl (lv_at hl22 3 rfl) ?_
            refine x_get (pc := 99) (T := TX11) (N := 13) (ci := 11) (v := .ref (mr 3)) E hw21 inX11 0 0 q_606 rfl rfl (by decide) rfl rfl dX11_mend_99 ?_
            refine x_get (pc := 102) (T := TX10) (N := 17) (ci := 10) (v := .ref (mr 21)) E hw21 inX10 1 1 q_463 rfl rfl (by decide) rfl rfl dX11_mend_102 ?_
            refine x_get (pc := 105) (T := TX1) (N := 9) (ci := 1) (v := .ref (mr 28)) E hw21 inX1 8 6 q_285 rfl rfl (by decide) rfl rfl dX11_mend_105 ?_
            refine lv_iload (pc := 108) E.1 E.2.1 dX11_mend_108 (lv_at hl22 0 rfl) ?_
            refine x_iald (pc := 110) (f := gmended_9) E hw21 14 rfl (inbE (a := x_19.toInt) rfl (by omega)) dX11_mend_110 ?_
            refine lv_topi (fun v_24 ev_24 => ?_)
            refine lv_aload_n (pc := 111) E.1 E.2.1 dX11_mend_111 rfl (lv_at hl22 2 rfl) ?_
            refine lv_iload (pc := 112) E.1 E.2.1 dX11_mend_112 (lv_at hl22 0 rfl) ?_
            refine x_iald (pc := 114) (f := (mf 11)) E hw21 5 rfl (inbE (a := x_19.toInt) rfl (by omega)) dX11_mend_114 ?_
            refine lv_topi (fun v_25 ev_25 => ?_)
            refine lv_isub (pc := 115) E.1 E.2.1 dX11_mend_115 ?_
            refine lv_topi (fun v_26 ev_26 => ?_)
            refine lv_iadd (pc := 116) E.1 E.2.1 dX11_mend_116 ?_
            refine lv_topi (fun v_27 ev_27 => ?_)
            refine lv_istore_n (pc := 117) (lv' := [(3, .int v_27), (4, .int x_19), (2, .ref (mr 11)), (0, .ref (mr 0)), (1, .int z_house)]) E.1 E.2.1 dX11_mend_117 rfl hl22 (by decide) rfl (fun ls hl28 => ?_)
            obtain ⟨v_29, ev_29⟩ : ∃ z : Int32, x_19 + Int32.ofInt (1) = z := ⟨_, rfl⟩
            have hv_29 : v_29.toInt = x_19.toInt + (1) := by rw [← ev_29]; exact incE rfl (by decide) (by omega)
            refine lv_iinc (pc := 118) (v := v_29) (lv' := [(4, .int v_29), (3, .int v_27), (2, .ref (mr 11)), (0, .ref (mr 0)), (1, .int z_house)]) E.1 E.2.1 dX11_mend_118 hl28 (k := 1) rfl ev_29 (by decide) rfl (fun ls hl30 => ?_)
            refine lv_goto (pc := 121) (tgt := 82) E.1 E.2.1 dX11_mend_121 (by decide) ?_
            exact ih_20 v_27 v_29 _ _ _ ⟨(by show 0 ≤ v_29.toInt; omega), (by show v_29.toInt ≤ (mi 27).toInt; omega)⟩ (by omega) hw21 (lv_sub hl30 [0, 1, 2, 3, 4] rfl)
      exact loop_17 (Int.toNat ((mi 27).toInt - 0) + 1) 0 0 _ _ _ ⟨(by show 0 ≤ (0 : Int32).toInt; have k_0 : (0 : Int32).toInt = 0 := (by decide +kernel); omega), (by show (0 : Int32).toInt ≤ (mi 27).toInt; have k_0 : (0 : Int32).toInt = 0 := (by decide +kernel); omega)⟩ (by have k_0 : (0 : Int32).toInt = 0 := (by decide +kernel); have k_1 : (0 : Int32).toInt = 0 := (by decide +kernel); omega) hw10 (lv_sub hl16 [0, 1, 2, 3, 4] rfl)
    · skip
      have hc_13 := eqE (a := r_7.toInt) (b := 0) rfl (by decide +kernel) c_13
      refine lv_iconst (pc := 53) (v := (-1)) E.1 E.2.1 dX11_mend_53 (by decide +kernel) ?_
      exact em_i (w1 := (fun (u : (Nat → Int32) × (Nat → Nat → Int32) × (Nat → Nat → Int64)) => (WZ_Mmend cI cJ mv mr u.1 u.2.1 u.2.2))) E hr hlk (mi, (va_up mf 28 gmended_9), mg) hw10 ⟨h0.1, h0.2, h1.1, h1.2, h2.1, h2.2, h3.1, h3.2, rfl, rfl, rfl⟩ (Nat.le_of_ble_eq_true rfl) (Nat.le_of_ble_eq_true rfl) dX11_mend_54
  · skip
    have hc_4 := neE (a := z_house.toInt) (b := (-1)) rfl (by decide +kernel) c_4
    refine lv_aload_n (pc := 5) E.1 E.2.1 dX11_mend_5 rfl (lv_at hl3 0 rfl) ?_
    refine x_get (pc := 6) (T := TX11) (N := 13) (ci := 11) (v := .ref (mr 3)) E hw1 inX11 0 0 q_606 rfl rfl (by decide) rfl rfl dX11_mend_6 ?_
    refine x_get (pc := 9) (T := TX10) (N := 17) (ci := 10) (v := .ref (mr 21)) E hw1 inX10 1 1 q_463 rfl rfl (by decide) rfl rfl dX11_mend_9 ?_
    refine lv_iload_n (pc := 12) E.1 E.2.1 dX11_mend_12 rfl (lv_at hl3 1 rfl) ?_
    refine ck_i (pc := 13) (ws' := (fun (u : Unit) => (WZ_Mmend cI cJ mv mr mi mf mg))) [false, false, false, false, false, false, false, false, true, true, true, true, true, true, true, true] hw1 rfl (fun hC_ => (rn_V (As := [.int z_house]) (rest := []) E hw1 (t_has l D cI cJ _ (shf 21 mr) (shf 21 mi) (shf 21 mf) (shf 21 mg) z_house (vl [mv 21])) (gdV q_674 q_675 q_676 q_154 q_677) hdV_X1_has ⟨rfl, rfl⟩ ⟨(Nat.le_of_ble_eq_true rfl), (Nat.le_of_ble_eq_true rfl)⟩ ⟨(Nat.le_of_ble_eq_true rfl), (Nat.le_of_ble_eq_true rfl)⟩ xT_b xT_at 8 1 rfl rfl rfl _ hC_ (nd_T _ 0) rfl hl3.1 rfl (Nat.le_of_ble_eq_true rfl) dX11_mend_13)) rfl (fun _ => rfl) (fun _ => rfl) (fun r_32 u_31 H1 locs hp hw33 => ?_)
    generalize H1 = H at hw33 ⊢
    have hw34 : WD D A s.heap (WZ_Mmend cI cJ mv mr mi mf mg) H locs := hw33
    have hp_35 := hp
    rcases hp_35 with ⟨rfl, ha_36, ha_37, ha_38⟩ | ⟨rfl, ha_39⟩ | ⟨rfl, ha_40⟩ | ⟨rfl, ha_41⟩
    · skip
      have ha_36 : 0 ≤ z_house.toInt := ha_36
      have ha_37 : z_house.toInt + 1 ≤ (mi 27).toInt := ha_37
      have ha_38 : z_house.toInt ≤ 9 := ha_38
      refine lv_if_ne (pc := 16) (tgt := 21) E.1 E.2.1 dX11_mend_16 (by decide) (fun _ => ?_) (fun c_42 => absurd c_42 (mneE (a := 1) (b := 0) (by decide +kernel) (by decide +kernel) (by omega)))
      refine lv_aload_n (pc := 21) E.1 E.2.1 dX11_mend_21 rfl (lv_at hl3 0 rfl) ?_
      refine x_get (pc := 22) (T := TX11) (N := 13) (ci := 11) (v := .ref (mr 3)) E hw34 inX11 0 0 q_606 rfl rfl (by decide) rfl rfl dX11_mend_22 ?_
      refine x_get (pc := 25) (T := TX10) (N := 17) (ci := 10) (v := .ref (mr 8)) E hw34 inX10 1 0 q_458 rfl rfl (by decide) rfl rfl dX11_mend_25 ?_
      refine x_get (pc := 28) (T := TX4) (N := 12) (ci := 4) (v := .ref (mr 11)) E hw34 inX4 2 2 q_199 rfl rfl (by decide) rfl rfl dX11_mend_28 ?_
      refine lv_astore_n (pc := 31) (lv' := [(2, .ref (mr 11)), (0, .ref (mr 0)), (1, .int z_house)]) E.1 E.2.1 dX11_mend_31 rfl hl3 (by decide) rfl (fun ls hl43 => ?_)
      refine lv_aload_n (pc := 32) E.1 E.2.1 dX11_mend_32 rfl (lv_at hl43 1 rfl) ?_
      refine x_get (pc := 33) (T := TX11) (N := 13) (ci := 11) (v := .ref (mr 3)) E hw34 inX11 0 0 q_606 rfl rfl (by decide) rfl rfl dX11_mend_33 ?_
      refine x_get (pc := 36) (T := TX10) (N := 17) (ci := 10) (v := .ref (mr 21)) E hw34 inX10 1 1 q_463 rfl rfl (by decide) rfl rfl dX11_mend_36 ?_
      refine lv_aload_n (pc := 39) E.1 E.2.1 dX11_mend_39 rfl (lv_at hl43 0 rfl) ?_
      refine lv_aload_n (pc := 40) E.1 E.2.1 dX11_mend_40 rfl (lv_at hl43 1 rfl) ?_
      refine x_get (pc := 41) (T := TX11) (N := 13) (ci := 11) (v := .ref (mr 3)) E hw34 inX11 0 0 q_606 rfl rfl (by decide) rfl rfl dX11_mend_41 ?_
      refine x_get (pc := 44) (T := TX10) (N := 17) (ci := 10) (v := .int (mi 5)) E hw34 inX10 1 10 q_484 rfl rfl (by decide) rfl rfl dX11_mend_44 ?_
      refine cq_i (pc := 47) (ws' := (fun (u : (Nat → Int32)) => (WZ_Mmend cI cJ mv mr mi (va_up mf 28 u) mg))) hw34 [8, 9, 10, 11, 12, 13, 14, 15, 5] [0, 1, 2, 3, 4, 6, 7] [0, 1, 2, 3, 4, 15, 5, 6, 7, 8, 9, 10, 11, 12, 13, 14] rfl rfl (by decide) (by decide) (fun _ => rfl) (by decide) (rn_V (As := [.ref (mr 11), .int (mi 5)]) (rest := []) E hw34 (t_canMend l D cI cJ _ (shg 9 21 2 mr) (shg 9 21 2 mi) (shg 9 21 2 mf) (shg 9 21 2 mg) (mi 5) (vl [mv 21]) h3) (gdV q_1250 q_1251 q_1252 q_154 q_1253) hdV_X1_canMend ⟨rfl, rfl⟩ ⟨(Nat.le_of_ble_eq_true rfl), (Nat.le_of_ble_eq_true rfl)⟩ ⟨(Nat.le_of_ble_eq_true rfl), (Nat.le_of_ble_eq_true rfl)⟩ xT_b xT_at 8 1 rfl rfl rfl [8, 9, 10, 11, 12, 13, 14, 15, 5] rfl (by decide) rfl hl43.1 rfl (Nat.le_of_ble_eq_true rfl) dX11_mend_47) (fun r_45 u_44 H1 locs hp hw46 => ?_)
      obtain ⟨gmended_47, rfl⟩ : ∃ z, z = u_44 := ⟨_, rfl⟩
      generalize H1 = H at hw46 ⊢
      have hw48 : WD D A s.heap (WZ_Mmend cI cJ mv mr mi (va_up mf 28 gmended_47) mg) H locs := hw46
      obtain ⟨hp_49, hp_50⟩ := hp
      have hp_49 : 0 ≤ r_45.toInt := hp_49
      have hp_50 : r_45.toInt ≤ 1 := hp_50
      refine lv_if_ne (pc := 50) (tgt := 55) E.1 E.2.1 dX11_mend_50 (by decide) (fun c_51 => ?_) (fun c_51 => ?_)
      · skip
        have hc_51 := neE (a := r_45.toInt) (b := 0) rfl (by decide +kernel) c_51
        refine lv_iload_n (pc := 55) E.1 E.2.1 dX11_mend_55 rfl (lv_at hl43 2 rfl) ?_
        refine lv_iconst (pc := 56) (v := (-1)) E.1 E.2.1 dX11_mend_56 (by decide +kernel) ?_
        refine lv_icmp_eq (pc := 57) (tgt := 77) E.1 E.2.1 dX11_mend_57 (by decide) (fun c_52 => absurd c_52 (mneE (a := z_house.toInt) (b := (-1)) rfl (by decide +kernel) (by omega))) (fun _ => ?_)
        refine lv_aload_n (pc := 60) E.1 E.2.1 dX11_mend_60 rfl (lv_at hl43 1 rfl) ?_
        refine x_get (pc := 61) (T := TX11) (N := 13) (ci := 11) (v := .ref (mr 3)) E hw48 inX11 0 0 q_606 rfl rfl (by decide) rfl rfl dX11_mend_61 ?_
        refine x_get (pc := 64) (T := TX10) (N := 17) (ci := 10) (v := .ref (mr 21)) E hw48 inX10 1 1 q_463 rfl rfl (by decide) rfl rfl dX11_mend_64 ?_
        refine x_get (pc := 67) (T := TX1) (N := 9) (ci := 1) (v := .ref (mr 28)) E hw48 inX1 8 6 q_285 rfl rfl (by decide) rfl rfl dX11_mend_67 ?_
        refine lv_iload_n (pc := 70) E.1 E.2.1 dX11_mend_70 rfl (lv_at hl43 2 rfl) ?_
        refine x_iald (pc := 71) (f := gmended_47) E hw48 14 rfl (inbE (a := z_house.toInt) rfl (by omega)) dX11_mend_71 ?_
        refine lv_topi (fun v_53 ev_53 => ?_)
        refine lv_aload_n (pc := 72) E.1 E.2.1 dX11_mend_72 rfl (lv_at hl43 0 rfl) ?_
        refine lv_iload_n (pc := 73) E.1 E.2.1 dX11_mend_73 rfl (lv_at hl43 2 rfl) ?_
        refine x_iald (pc := 74) (f := (mf 11)) E hw48 5 rfl (inbE (a := z_house.toInt) rfl (by omega)) dX11_mend_74 ?_
        refine lv_topi (fun v_54 ev_54 => ?_)
        refine lv_isub (pc := 75) E.1 E.2.1 dX11_mend_75 ?_
        refine lv_topi (fun v_55 ev_55 => ?_)
        exact em_i (w1 := (fun (u : (Nat → Int32) × (Nat → Nat → Int32) × (Nat → Nat → Int64)) => (WZ_Mmend cI cJ mv mr u.1 u.2.1 u.2.2))) E hr hlk (mi, (va_up mf 28 gmended_47), mg) hw48 ⟨h0.1, h0.2, h1.1, h1.2, h2.1, h2.2, h3.1, h3.2, rfl, rfl, rfl⟩ (Nat.le_of_ble_eq_true rfl) (Nat.le_of_ble_eq_true rfl) dX11_mend_76
      · skip
        have hc_51 := eqE (a := r_45.toInt) (b := 0) rfl (by decide +kernel) c_51
        refine lv_iconst (pc := 53) (v := (-1)) E.1 E.2.1 dX11_mend_53 (by decide +kernel) ?_
        exact em_i (w1 := (fun (u : (Nat → Int32) × (Nat → Nat → Int32) × (Nat → Nat → Int64)) => (WZ_Mmend cI cJ mv mr u.1 u.2.1 u.2.2))) E hr hlk (mi, (va_up mf 28 gmended_47), mg) hw48 ⟨h0.1, h0.2, h1.1, h1.2, h2.1, h2.2, h3.1, h3.2, rfl, rfl, rfl⟩ (Nat.le_of_ble_eq_true rfl) (Nat.le_of_ble_eq_true rfl) dX11_mend_54
    · skip
      have ha_39 : z_house.toInt + 1 ≤ 0 := ha_39
      refine lv_if_ne (pc := 16) (tgt := 21) E.1 E.2.1 dX11_mend_16 (by decide) (fun c_56 => absurd (meqE (a := 0) (b := 0) (by decide +kernel) (by decide +kernel) (by omega)) c_56) (fun _ => ?_)
      refine lv_iconst (pc := 19) (v := (-1)) E.1 E.2.1 dX11_mend_19 (by decide +kernel) ?_
      exact em_i (w1 := (fun (u : (Nat → Int32) × (Nat → Nat → Int32) × (Nat → Nat → Int64)) => (WZ_Mmend cI cJ mv mr u.1 u.2.1 u.2.2))) E hr hlk (mi, mf, mg) hw34 ⟨h0.1, h0.2, h1.1, h1.2, h2.1, h2.2, h3.1, h3.2, rfl, rfl, rfl⟩ (Nat.le_of_ble_eq_true rfl) (Nat.le_of_ble_eq_true rfl) dX11_mend_20
    · skip
      have ha_40 : (mi 27).toInt ≤ z_house.toInt := ha_40
      refine lv_if_ne (pc := 16) (tgt := 21) E.1 E.2.1 dX11_mend_16 (by decide) (fun c_57 => absurd (meqE (a := 0) (b := 0) (by decide +kernel) (by decide +kernel) (by omega)) c_57) (fun _ => ?_)
      refine lv_iconst (pc := 19) (v := (-1)) E.1 E.2.1 dX11_mend_19 (by decide +kernel) ?_
      exact em_i (w1 := (fun (u : (Nat → Int32) × (Nat → Nat → Int32) × (Nat → Nat → Int64)) => (WZ_Mmend cI cJ mv mr u.1 u.2.1 u.2.2))) E hr hlk (mi, mf, mg) hw34 ⟨h0.1, h0.2, h1.1, h1.2, h2.1, h2.2, h3.1, h3.2, rfl, rfl, rfl⟩ (Nat.le_of_ble_eq_true rfl) (Nat.le_of_ble_eq_true rfl) dX11_mend_20
    · skip
      have ha_41 : 10 ≤ z_house.toInt := ha_41
      refine lv_if_ne (pc := 16) (tgt := 21) E.1 E.2.1 dX11_mend_16 (by decide) (fun c_58 => absurd (meqE (a := 0) (b := 0) (by decide +kernel) (by decide +kernel) (by omega)) c_58) (fun _ => ?_)
      refine lv_iconst (pc := 19) (v := (-1)) E.1 E.2.1 dX11_mend_19 (by decide +kernel) ?_
      exact em_i (w1 := (fun (u : (Nat → Int32) × (Nat → Nat → Int32) × (Nat → Nat → Int64)) => (WZ_Mmend cI cJ mv mr u.1 u.2.1 u.2.2))) E hr hlk (mi, mf, mg) hw34 ⟨h0.1, h0.2, h1.1, h1.2, h2.1, h2.2, h3.1, h3.2, rfl, rfl, rfl⟩ (Nat.le_of_ble_eq_true rfl) (Nat.le_of_ble_eq_true rfl) dX11_mend_20
set_option maxHeartbeats 4000000 in
set_option maxRecDepth 100000 in
theorem t_sale (l : Launch) (D : va_G) (cI cJ : ClassId) (sz : Nat) (mr : Nat → Nat) (mi : Nat → Int32) (mf : Nat → Nat → Int32) (mg : Nat → Nat → Int64) (z_what : Int32) (mv : Nat → Value) (h0 : 0 ≤ (mi 1).toInt ∧ (mi 1).toInt ≤ 5) (h1 : 0 ≤ (mi 2).toInt ∧ (mi 2).toInt ≤ 6) (h2 : 0 ≤ (mi 14).toInt ∧ (mi 14).toInt ≤ 10) : Met l yX11_sale (Cond.code yX11_sale cX11_sale 4 (some .int) :: GW) ({ frames := 11, cells := 0, slots := 0, locals := 263 } : Room) (va_Pc [.ref (mr 0), .int z_what] (PW D cI cJ sz (WZ_Msale cI cJ mv mr mi mf mg) xT)) (va_Qi (fun (r : Int32) (u : (Nat → Int32) × (Nat → Nat → Int32) × (Nat → Nat → Int64)) => (0 ≤ (u.1 1).toInt) ∧ ((u.1 1).toInt ≤ 5) ∧ (0 ≤ (u.1 2).toInt) ∧ ((u.1 2).toInt ≤ 6) ∧ (0 ≤ (u.1 14).toInt) ∧ ((u.1 14).toInt ≤ 10) ∧ ((u.1 14).toInt = (mi 14).toInt) ∧ ((Eq (mf 9)) (u.2.1 9)) ∧ ((Eq (mf 13)) (u.2.1 13))) (fun u => QW D cI cJ (va_A (WZ_Msale cI cJ mv mr mi mf mg) sz) ((fun (u : (Nat → Int32) × (Nat → Nat → Int32) × (Nat → Nat → Int64)) => (WZ_Msale cI cJ mv mr u.1 u.2.1 u.2.2)) u)) (va_A (WZ_Msale cI cJ mv mr mi mf mg) sz)) 0 0 (va_A (WZ_Msale cI cJ mv mr mi mf mg) sz) := by
  refine mk_met (y := yX11_sale) (bytes := cX11_sale) (maxL := 4) (avs := [.ref (mr 0), .int z_what]) (WS := (WZ_Msale cI cJ mv mr mi mf mg)) (Qf := fun A => va_Qi (fun (r : Int32) (u : (Nat → Int32) × (Nat → Nat → Int32) × (Nat → Nat → Int64)) => (0 ≤ (u.1 1).toInt) ∧ ((u.1 1).toInt ≤ 5) ∧ (0 ≤ (u.1 2).toInt) ∧ ((u.1 2).toInt ≤ 6) ∧ (0 ≤ (u.1 14).toInt) ∧ ((u.1 14).toInt ≤ 10) ∧ ((u.1 14).toInt = (mi 14).toInt) ∧ ((Eq (mf 9)) (u.2.1 9)) ∧ ((Eq (mf 13)) (u.2.1 13))) (fun u => QW D cI cJ A ((fun (u : (Nat → Int32) × (Nat → Nat → Int32) × (Nat → Nat → Int64)) => (WZ_Msale cI cJ mv mr u.1 u.2.1 u.2.2)) u)) A) (by decide) (Nat.le_of_ble_eq_true rfl) ?_
  intro p e s m below meth c A ls E hr hlk hnm hX hw1 hl2
  have hl3 : lv_has ls 4 [(0, .ref (mr 0)), (1, .int z_what)] := hl2
  refine lv_iload_n (pc := 0) E.1 E.2.1 dX11_sale_0 rfl (lv_at hl3 1 rfl) ?_
  refine lv_if_eq (pc := 1) (tgt := 11) E.1 E.2.1 dX11_sale_1 (by decide) (fun c_4 => ?_) (fun c_4 => ?_)
  · skip
    have hc_4 := eqE (a := z_what.toInt) (b := 0) rfl (by decide +kernel) c_4
    refine lv_aload_n (pc := 11) E.1 E.2.1 dX11_sale_11 rfl (lv_at hl3 0 rfl) ?_
    refine x_get (pc := 12) (T := TX11) (N := 13) (ci := 11) (v := .ref (mr 3)) E hw1 inX11 0 0 q_606 rfl rfl (by decide) rfl rfl dX11_sale_12 ?_
    refine x_get (pc := 15) (T := TX10) (N := 17) (ci := 10) (v := .ref (mr 8)) E hw1 inX10 1 1 q_463 rfl rfl (by decide) rfl rfl dX11_sale_15 ?_
    refine lv_iconst (pc := 18) (v := (-1)) E.1 E.2.1 dX11_sale_18 (by decide +kernel) ?_
    refine ck_i (pc := 19) (ws' := (fun (u : Unit) => (WZ_Msale cI cJ mv mr mi mf mg))) [false, false, true, true, true, true, true, true, true, true] hw1 rfl (fun hC_ => (rn_V (As := [.int (-1)]) (rest := []) E hw1 (t_highestBid l D cI cJ _ (shf 8 mr) (shf 8 mi) (shf 8 mf) (shf 8 mg) (-1) (vl [mv 22]) h2) (gdV q_1292 q_1293 q_1294 q_154 q_1295) hdV_X1_highestBid ⟨rfl, rfl⟩ ⟨(Nat.le_of_ble_eq_true rfl), (Nat.le_of_ble_eq_true rfl)⟩ ⟨(Nat.le_of_ble_eq_true rfl), (Nat.le_of_ble_eq_true rfl)⟩ xT_b xT_at 2 1 rfl rfl rfl _ hC_ (nd_T _ 0) rfl hl3.1 rfl (Nat.le_of_ble_eq_true rfl) dX11_sale_19)) rfl (fun _ => rfl) (fun _ => rfl) (fun r_6 u_5 H1 locs hp hw7 => ?_)
    generalize H1 = H at hw7 ⊢
    have hw8 : WD D A s.heap (WZ_Msale cI cJ mv mr mi mf mg) H locs := hw7
    obtain ⟨hp_9, hp_10⟩ := hp
    have hp_9 : (-1) ≤ r_6.toInt := hp_9
    have hp_10 : r_6.toInt + 1 ≤ (mi 14).toInt := hp_10
    refine lv_istore_n (pc := 22) (lv' := [(2, .int r_6), (0, .ref (mr 0)), (1, .int z_what)]) E.1 E.2.1 dX11_sale_22 rfl hl3 (by decide) rfl (fun ls hl11 => ?_)
    refine lv_iload_n (pc := 23) E.1 E.2.1 dX11_sale_23 rfl (lv_at hl11 0 rfl) ?_
    refine lv_iconst (pc := 24) (v := (-1)) E.1 E.2.1 dX11_sale_24 (by decide +kernel) ?_
    refine lv_icmp_eq (pc := 25) (tgt := 32) E.1 E.2.1 dX11_sale_25 (by decide) (fun c_12 => ?_) (fun c_12 => ?_)
    · skip
      have hc_12 := eqE (a := r_6.toInt) (b := (-1)) rfl (by decide +kernel) c_12
      refine lv_iload_n (pc := 32) E.1 E.2.1 dX11_sale_32 rfl (lv_at hl11 0 rfl) ?_
      exact em_i (w1 := (fun (u : (Nat → Int32) × (Nat → Nat → Int32) × (Nat → Nat → Int64)) => (WZ_Msale cI cJ mv mr u.1 u.2.1 u.2.2))) E hr hlk (mi, mf, mg) hw8 ⟨h0.1, h0.2, h1.1, h1.2, h2.1, h2.2, rfl, rfl, rfl⟩ (Nat.le_of_ble_eq_true rfl) (Nat.le_of_ble_eq_true rfl) dX11_sale_33
    · skip
      have hc_12 := neE (a := r_6.toInt) (b := (-1)) rfl (by decide +kernel) c_12
      refine lv_iload_n (pc := 28) E.1 E.2.1 dX11_sale_28 rfl (lv_at hl11 2 rfl) ?_
      refine lv_if_ne (pc := 29) (tgt := 34) E.1 E.2.1 dX11_sale_29 (by decide) (fun c_13 => absurd (meqE (a := z_what.toInt) (b := 0) rfl (by decide +kernel) (by omega)) c_13) (fun _ => ?_)
      refine lv_iload_n (pc := 32) E.1 E.2.1 dX11_sale_32 rfl (lv_at hl11 0 rfl) ?_
      exact em_i (w1 := (fun (u : (Nat → Int32) × (Nat → Nat → Int32) × (Nat → Nat → Int64)) => (WZ_Msale cI cJ mv mr u.1 u.2.1 u.2.2))) E hr hlk (mi, mf, mg) hw8 ⟨h0.1, h0.2, h1.1, h1.2, h2.1, h2.2, rfl, rfl, rfl⟩ (Nat.le_of_ble_eq_true rfl) (Nat.le_of_ble_eq_true rfl) dX11_sale_33
  · skip
    have hc_4 := neE (a := z_what.toInt) (b := 0) rfl (by decide +kernel) c_4
    refine lv_iload_n (pc := 4) E.1 E.2.1 dX11_sale_4 rfl (lv_at hl3 1 rfl) ?_
    refine lv_iconst (pc := 5) (v := 1) E.1 E.2.1 dX11_sale_5 (by decide +kernel) ?_
    refine lv_icmp_eq (pc := 6) (tgt := 11) E.1 E.2.1 dX11_sale_6 (by decide) (fun c_14 => ?_) (fun c_14 => ?_)
    · skip
      have hc_14 := eqE (a := z_what.toInt) (b := 1) rfl (by decide +kernel) c_14
      refine lv_aload_n (pc := 11) E.1 E.2.1 dX11_sale_11 rfl (lv_at hl3 0 rfl) ?_
      refine x_get (pc := 12) (T := TX11) (N := 13) (ci := 11) (v := .ref (mr 3)) E hw1 inX11 0 0 q_606 rfl rfl (by decide) rfl rfl dX11_sale_12 ?_
      refine x_get (pc := 15) (T := TX10) (N := 17) (ci := 10) (v := .ref (mr 8)) E hw1 inX10 1 1 q_463 rfl rfl (by decide) rfl rfl dX11_sale_15 ?_
      refine lv_iconst (pc := 18) (v := (-1)) E.1 E.2.1 dX11_sale_18 (by decide +kernel) ?_
      refine ck_i (pc := 19) (ws' := (fun (u : Unit) => (WZ_Msale cI cJ mv mr mi mf mg))) [false, false, true, true, true, true, true, true, true, true] hw1 rfl (fun hC_ => (rn_V (As := [.int (-1)]) (rest := []) E hw1 (t_highestBid l D cI cJ _ (shf 8 mr) (shf 8 mi) (shf 8 mf) (shf 8 mg) (-1) (vl [mv 22]) h2) (gdV q_1292 q_1293 q_1294 q_154 q_1295) hdV_X1_highestBid ⟨rfl, rfl⟩ ⟨(Nat.le_of_ble_eq_true rfl), (Nat.le_of_ble_eq_true rfl)⟩ ⟨(Nat.le_of_ble_eq_true rfl), (Nat.le_of_ble_eq_true rfl)⟩ xT_b xT_at 2 1 rfl rfl rfl _ hC_ (nd_T _ 0) rfl hl3.1 rfl (Nat.le_of_ble_eq_true rfl) dX11_sale_19)) rfl (fun _ => rfl) (fun _ => rfl) (fun r_16 u_15 H1 locs hp hw17 => ?_)
      generalize H1 = H at hw17 ⊢
      have hw18 : WD D A s.heap (WZ_Msale cI cJ mv mr mi mf mg) H locs := hw17
      obtain ⟨hp_19, hp_20⟩ := hp
      have hp_19 : (-1) ≤ r_16.toInt := hp_19
      have hp_20 : r_16.toInt + 1 ≤ (mi 14).toInt := hp_20
      refine lv_istore_n (pc := 22) (lv' := [(2, .int r_16), (0, .ref (mr 0)), (1, .int z_what)]) E.1 E.2.1 dX11_sale_22 rfl hl3 (by decide) rfl (fun ls hl21 => ?_)
      refine lv_iload_n (pc := 23) E.1 E.2.1 dX11_sale_23 rfl (lv_at hl21 0 rfl) ?_
      refine lv_iconst (pc := 24) (v := (-1)) E.1 E.2.1 dX11_sale_24 (by decide +kernel) ?_
      refine lv_icmp_eq (pc := 25) (tgt := 32) E.1 E.2.1 dX11_sale_25 (by decide) (fun c_22 => ?_) (fun c_22 => ?_)
      · skip
        have hc_22 := eqE (a := r_16.toInt) (b := (-1)) rfl (by decide +kernel) c_22
        refine lv_iload_n (pc := 32) E.1 E.2.1 dX11_sale_32 rfl (lv_at hl21 0 rfl) ?_
        exact em_i (w1 := (fun (u : (Nat → Int32) × (Nat → Nat → Int32) × (Nat → Nat → Int64)) => (WZ_Msale cI cJ mv mr u.1 u.2.1 u.2.2))) E hr hlk (mi, mf, mg) hw18 ⟨h0.1, h0.2, h1.1, h1.2, h2.1, h2.2, rfl, rfl, rfl⟩ (Nat.le_of_ble_eq_true rfl) (Nat.le_of_ble_eq_true rfl) dX11_sale_33
      · skip
        have hc_22 := neE (a := r_16.toInt) (b := (-1)) rfl (by decide +kernel) c_22
        refine lv_iload_n (pc := 28) E.1 E.2.1 dX11_sale_28 rfl (lv_at hl21 2 rfl) ?_
        refine lv_if_ne (pc := 29) (tgt := 34) E.1 E.2.1 dX11_sale_29 (by decide) (fun _ => ?_) (fun c_23 => absurd c_23 (mneE (a := z_what.toInt) (b := 0) rfl (by decide +kernel) (by omega)))
        refine lv_aload_n (pc := 34) E.1 E.2.1 dX11_sale_34 rfl (lv_at hl21 1 rfl) ?_
        refine x_get (pc := 35) (T := TX11) (N := 13) (ci := 11) (v := .ref (mr 3)) E hw18 inX11 0 0 q_606 rfl rfl (by decide) rfl rfl dX11_sale_35 ?_
        refine x_get (pc := 38) (T := TX10) (N := 17) (ci := 10) (v := .ref (mr 8)) E hw18 inX10 1 1 q_463 rfl rfl (by decide) rfl rfl dX11_sale_38 ?_
        refine lv_iload_n (pc := 41) E.1 E.2.1 dX11_sale_41 rfl (lv_at hl21 0 rfl) ?_
        refine ck_i (pc := 42) (ws' := (fun (u : Unit) => (WZ_Msale cI cJ mv mr mi mf mg))) [false, false, true, true, true, true, true, true, true, true] hw18 rfl (fun hC_ => (rn_V (As := [.int r_16]) (rest := []) E hw18 (t_highestBid l D cI cJ _ (shf 8 mr) (shf 8 mi) (shf 8 mf) (shf 8 mg) r_16 (vl [mv 22]) h2) (gdV q_1292 q_1293 q_1294 q_154 q_1295) hdV_X1_highestBid ⟨rfl, rfl⟩ ⟨(Nat.le_of_ble_eq_true rfl), (Nat.le_of_ble_eq_true rfl)⟩ ⟨(Nat.le_of_ble_eq_true rfl), (Nat.le_of_ble_eq_true rfl)⟩ xT_b xT_at 2 1 rfl rfl rfl _ hC_ (nd_T _ 0) rfl hl21.1 rfl (Nat.le_of_ble_eq_true rfl) dX11_sale_42)) rfl (fun _ => rfl) (fun _ => rfl) (fun r_25 u_24 H1 locs hp hw26 => ?_)
        generalize H1 = H at hw26 ⊢
        have hw27 : WD D A s.heap (WZ_Msale cI cJ mv mr mi mf mg) H locs := hw26
        obtain ⟨hp_28, hp_29⟩ := hp
        have hp_28 : (-1) ≤ r_25.toInt := hp_28
        have hp_29 : r_25.toInt + 1 ≤ (mi 14).toInt := hp_29
        refine lv_istore_n (pc := 45) (lv' := [(3, .int r_25), (2, .int r_16), (0, .ref (mr 0)), (1, .int z_what)]) E.1 E.2.1 dX11_sale_45 rfl hl21 (by decide) rfl (fun ls hl30 => ?_)
        refine lv_iload_n (pc := 46) E.1 E.2.1 dX11_sale_46 rfl (lv_at hl30 0 rfl) ?_
        refine lv_iconst (pc := 47) (v := (-1)) E.1 E.2.1 dX11_sale_47 (by decide +kernel) ?_
        refine lv_icmp_ne (pc := 48) (tgt := 55) E.1 E.2.1 dX11_sale_48 (by decide) (fun c_31 => ?_) (fun c_31 => ?_)
        · skip
          have hc_31 := neE (a := r_25.toInt) (b := (-1)) rfl (by decide +kernel) c_31
          refine lv_aload_n (pc := 55) E.1 E.2.1 dX11_sale_55 rfl (lv_at hl30 2 rfl) ?_
          refine x_get (pc := 56) (T := TX11) (N := 13) (ci := 11) (v := .ref (mr 3)) E hw27 inX11 0 0 q_606 rfl rfl (by decide) rfl rfl dX11_sale_56 ?_
          refine x_get (pc := 59) (T := TX10) (N := 17) (ci := 10) (v := .ref (mr 8)) E hw27 inX10 1 1 q_463 rfl rfl (by decide) rfl rfl dX11_sale_59 ?_
          refine x_get (pc := 62) (T := TX1) (N := 9) (ci := 1) (v := .ref (mr 11)) E hw27 inX1 2 2 q_273 rfl rfl (by decide) rfl rfl dX11_sale_62 ?_
          refine lv_iload_n (pc := 65) E.1 E.2.1 dX11_sale_65 rfl (lv_at hl30 0 rfl) ?_
          refine x_iald (pc := 66) (f := (mf 11)) E hw27 5 rfl (inbE (a := r_25.toInt) rfl (by omega)) dX11_sale_66 ?_
          refine lv_topi (fun v_32 ev_32 => ?_)
          exact em_i (w1 := (fun (u : (Nat → Int32) × (Nat → Nat → Int32) × (Nat → Nat → Int64)) => (WZ_Msale cI cJ mv mr u.1 u.2.1 u.2.2))) E hr hlk (mi, mf, mg) hw27 ⟨h0.1, h0.2, h1.1, h1.2, h2.1, h2.2, rfl, rfl, rfl⟩ (Nat.le_of_ble_eq_true rfl) (Nat.le_of_ble_eq_true rfl) dX11_sale_67
        · skip
          have hc_31 := eqE (a := r_25.toInt) (b := (-1)) rfl (by decide +kernel) c_31
          refine lv_iconst (pc := 51) (v := 0) E.1 E.2.1 dX11_sale_51 (by decide +kernel) ?_
          refine lv_goto (pc := 52) (tgt := 67) E.1 E.2.1 dX11_sale_52 (by decide) ?_
          exact em_i (w1 := (fun (u : (Nat → Int32) × (Nat → Nat → Int32) × (Nat → Nat → Int64)) => (WZ_Msale cI cJ mv mr u.1 u.2.1 u.2.2))) E hr hlk (mi, mf, mg) hw27 ⟨h0.1, h0.2, h1.1, h1.2, h2.1, h2.2, rfl, rfl, rfl⟩ (Nat.le_of_ble_eq_true rfl) (Nat.le_of_ble_eq_true rfl) dX11_sale_67
    · skip
      have hc_14 := neE (a := z_what.toInt) (b := 1) rfl (by decide +kernel) c_14
      refine lv_iconst (pc := 9) (v := (-1)) E.1 E.2.1 dX11_sale_9 (by decide +kernel) ?_
      exact em_i (w1 := (fun (u : (Nat → Int32) × (Nat → Nat → Int32) × (Nat → Nat → Int64)) => (WZ_Msale cI cJ mv mr u.1 u.2.1 u.2.2))) E hr hlk (mi, mf, mg) hw1 ⟨h0.1, h0.2, h1.1, h1.2, h2.1, h2.2, rfl, rfl, rfl⟩ (Nat.le_of_ble_eq_true rfl) (Nat.le_of_ble_eq_true rfl) dX11_sale_10
set_option maxHeartbeats 4000000 in
set_option maxRecDepth 100000 in
theorem t_liars (l : Launch) (D : va_G) (cI cJ : ClassId) (sz : Nat) (mr : Nat → Nat) (mi : Nat → Int32) (mf : Nat → Nat → Int32) (mg : Nat → Nat → Int64)  (mv : Nat → Value) (h0 : 0 ≤ (mi 1).toInt ∧ (mi 1).toInt ≤ 5) (h1 : 0 ≤ (mi 2).toInt ∧ (mi 2).toInt ≤ 6) (h2 : 0 ≤ (mi 19).toInt ∧ (mi 19).toInt ≤ 200) (h3 : 0 ≤ (mi 27).toInt ∧ (mi 27).toInt ≤ 10) : Met l yX11_liars (Cond.code yX11_liars cX11_liars 3 (some .int) :: GW) ({ frames := 11, cells := 0, slots := 0, locals := 263 } : Room) (va_Pc [.ref (mr 0)] (PW D cI cJ sz (WZ_Mmend cI cJ mv mr mi mf mg) xT)) (va_Qi (fun (r : Int32) (u : (Nat → Int32) × (Nat → Nat → Int32) × (Nat → Nat → Int64)) => (0 ≤ (u.1 1).toInt) ∧ ((u.1 1).toInt ≤ 5) ∧ (0 ≤ (u.1 2).toInt) ∧ ((u.1 2).toInt ≤ 6) ∧ (0 ≤ (u.1 19).toInt) ∧ ((u.1 19).toInt ≤ 200) ∧ (0 ≤ (u.1 27).toInt) ∧ ((u.1 27).toInt ≤ 10) ∧ ((u.1 27).toInt = (mi 27).toInt) ∧ ((Eq (mf 22)) (u.2.1 22)) ∧ ((Eq (mf 26)) (u.2.1 26))) (fun u => QW D cI cJ (va_A (WZ_Mmend cI cJ mv mr mi mf mg) sz) ((fun (u : (Nat → Int32) × (Nat → Nat → Int32) × (Nat → Nat → Int64)) => (WZ_Mmend cI cJ mv mr u.1 u.2.1 u.2.2)) u)) (va_A (WZ_Mmend cI cJ mv mr mi mf mg) sz)) 0 0 (va_A (WZ_Mmend cI cJ mv mr mi mf mg) sz) := by
  refine mk_met (y := yX11_liars) (bytes := cX11_liars) (maxL := 3) (avs := [.ref (mr 0)]) (WS := (WZ_Mmend cI cJ mv mr mi mf mg)) (Qf := fun A => va_Qi (fun (r : Int32) (u : (Nat → Int32) × (Nat → Nat → Int32) × (Nat → Nat → Int64)) => (0 ≤ (u.1 1).toInt) ∧ ((u.1 1).toInt ≤ 5) ∧ (0 ≤ (u.1 2).toInt) ∧ ((u.1 2).toInt ≤ 6) ∧ (0 ≤ (u.1 19).toInt) ∧ ((u.1 19).toInt ≤ 200) ∧ (0 ≤ (u.1 27).toInt) ∧ ((u.1 27).toInt ≤ 10) ∧ ((u.1 27).toInt = (mi 27).toInt) ∧ ((Eq (mf 22)) (u.2.1 22)) ∧ ((Eq (mf 26)) (u.2.1 26))) (fun u => QW D cI cJ A ((fun (u : (Nat → Int32) × (Nat → Nat → Int32) × (Nat → Nat → Int64)) => (WZ_Mmend cI cJ mv mr u.1 u.2.1 u.2.2)) u)) A) (by decide) (Nat.le_of_ble_eq_true rfl) ?_
  intro p e s m below meth c A ls E hr hlk hnm hX hw1 hl2
  have hl3 : lv_has ls 3 [(0, .ref (mr 0))] := hl2
  refine lv_iconst (pc := 0) (v := 0) E.1 E.2.1 dX11_liars_0 (by decide +kernel) ?_
  refine lv_istore_n (pc := 1) (lv' := [(1, .int 0), (0, .ref (mr 0))]) E.1 E.2.1 dX11_liars_1 rfl hl3 (by decide) rfl (fun ls hl4 => ?_)
  refine lv_iconst (pc := 2) (v := 0) E.1 E.2.1 dX11_liars_2 (by decide +kernel) ?_
  refine lv_istore_n (pc := 3) (lv' := [(2, .int 0), (1, .int 0), (0, .ref (mr 0))]) E.1 E.2.1 dX11_liars_3 rfl hl4 (by decide) rfl (fun ls hl5 => ?_)
  have loop_6 : ∀ (k : Nat) (x_7 : Int32) (x_8 : Int32) (H : Heap) (locs : List Loc) (ls : Array Slot), (0 ≤ x_8.toInt) ∧ (x_8.toInt ≤ (mi 27).toInt) → (mi 27).toInt - x_8.toInt < (k : Int) → WD D A s.heap (WZ_Mmend cI cJ mv mr mi mf mg) H locs → lv_has ls 3 [(2, .int x_8), (1, .int x_7), (0, .ref (mr 0))] → W p l e ({ frames := 11, cells := 0, slots := 0, locals := 263 } : Room) s m ([.ref (mr 0)] : List Value).toArray below meth c H locs 0 0 (MQ below (va_Qi (fun (r : Int32) (u : (Nat → Int32) × (Nat → Nat → Int32) × (Nat → Nat → Int64)) => (0 ≤ (u.1 1).toInt) ∧ ((u.1 1).toInt ≤ 5) ∧ (0 ≤ (u.1 2).toInt) ∧ ((u.1 2).toInt ≤ 6) ∧ (0 ≤ (u.1 19).toInt) ∧ ((u.1 19).toInt ≤ 200) ∧ (0 ≤ (u.1 27).toInt) ∧ ((u.1 27).toInt ≤ 10) ∧ ((u.1 27).toInt = (mi 27).toInt) ∧ ((Eq (mf 22)) (u.2.1 22)) ∧ ((Eq (mf 26)) (u.2.1 26))) (fun u => QW D cI cJ A ((fun (u : (Nat → Int32) × (Nat → Nat → Int32) × (Nat → Nat → Int64)) => (WZ_Mmend cI cJ mv mr u.1 u.2.1 u.2.2)) u)) A) ([.ref (mr 0)] : List Value).toArray s 0 0 A) (F0 m 4 ls []) := by
    intro k
    induction k with
    | zero =>
      intro x_7 x_8 _ _ _ hinv hm
      obtain ⟨hi_8_0, hi_8_1⟩ := hinv
      exact absurd hm (by omega)
    | succ k ih_9 =>
      intro x_7 x_8 H locs ls hinv hm hw10 hl11
      obtain ⟨hi_8_0, hi_8_1⟩ := hinv
      refine lv_iload_n (pc := 4) E.1 E.2.1 dX11_liars_4 rfl (lv_at hl11 0 rfl) ?_
      refine lv_aload_n (pc := 5) E.1 E.2.1 dX11_liars_5 rfl (lv_at hl11 2 rfl) ?_
      refine x_get (pc := 6) (T := TX11) (N := 13) (ci := 11) (v := .ref (mr 3)) E hw10 inX11 0 0 q_606 rfl rfl (by decide) rfl rfl dX11_liars_6 ?_
      refine x_get (pc := 9) (T := TX10) (N := 17) (ci := 10) (v := .ref (mr 21)) E hw10 inX10 1 1 q_463 rfl rfl (by decide) rfl rfl dX11_liars_9 ?_
      refine x_get (pc := 12) (T := TX1) (N := 9) (ci := 1) (v := .int (mi 27)) E hw10 inX1 8 5 q_282 rfl rfl (by decide) rfl rfl dX11_liars_12 ?_
      refine lv_icmp_ge (pc := 15) (tgt := 63) E.1 E.2.1 dX11_liars_15 (by decide) (fun c_12 => ?_) (fun c_12 => ?_)
      · skip
        have hc_12 := leE (a := (mi 27).toInt) (b := x_8.toInt) rfl rfl c_12
        refine lv_iload_n (pc := 63) E.1 E.2.1 dX11_liars_63 rfl (lv_at hl11 1 rfl) ?_
        exact em_i (w1 := (fun (u : (Nat → Int32) × (Nat → Nat → Int32) × (Nat → Nat → Int64)) => (WZ_Mmend cI cJ mv mr u.1 u.2.1 u.2.2))) E hr hlk (mi, mf, mg) hw10 ⟨h0.1, h0.2, h1.1, h1.2, h2.1, h2.2, h3.1, h3.2, rfl, rfl, rfl⟩ (Nat.le_of_ble_eq_true rfl) (Nat.le_of_ble_eq_true rfl) dX11_liars_64
      · skip
        have hc_12 := nleE (a := (mi 27).toInt) (b := x_8.toInt) rfl rfl c_12
        refine lv_iload_n (pc := 18) E.1 E.2.1 dX11_liars_18 rfl (lv_at hl11 0 rfl) ?_
        refine lv_bipush (pc := 19) (v := 10) E.1 E.2.1 dX11_liars_19 (by decide +kernel) ?_
        refine lv_icmp_ge (pc := 21) (tgt := 63) E.1 E.2.1 dX11_liars_21 (by decide) (fun c_13 => absurd c_13 (mnleE (a := 10) (b := x_8.toInt) (by decide +kernel) rfl (by omega))) (fun _ => ?_)
        refine lv_aload_n (pc := 24) E.1 E.2.1 dX11_liars_24 rfl (lv_at hl11 2 rfl) ?_
        refine x_get (pc := 25) (T := TX11) (N := 13) (ci := 11) (v := .ref (mr 3)) E hw10 inX11 0 0 q_606 rfl rfl (by decide) rfl rfl dX11_liars_25 ?_
        refine x_get (pc := 28) (T := TX10) (N := 17) (ci := 10) (v := .ref (mr 21)) E hw10 inX10 1 1 q_463 rfl rfl (by decide) rfl rfl dX11_liars_28 ?_
        refine x_get (pc := 31) (T := TX1) (N := 9) (ci := 1) (v := .ref (mr 25)) E hw10 inX1 8 3 q_276 rfl rfl (by decide) rfl rfl dX11_liars_31 ?_
        refine lv_iload_n (pc := 34) E.1 E.2.1 dX11_liars_34 rfl (lv_at hl11 0 rfl) ?_
        refine x_iald (pc := 35) (f := (mf 25)) E hw10 12 rfl (inbE (a := x_8.toInt) rfl (by omega)) dX11_liars_35 ?_
        refine lv_topi (fun v_14 ev_14 => ?_)
        refine lv_aload_n (pc := 36) E.1 E.2.1 dX11_liars_36 rfl (lv_at hl11 2 rfl) ?_
        refine x_get (pc := 37) (T := TX11) (N := 13) (ci := 11) (v := .ref (mr 3)) E hw10 inX11 0 0 q_606 rfl rfl (by decide) rfl rfl dX11_liars_37 ?_
        refine x_get (pc := 40) (T := TX10) (N := 17) (ci := 10) (v := .ref (mr 8)) E hw10 inX10 1 0 q_458 rfl rfl (by decide) rfl rfl dX11_liars_40 ?_
        refine x_get (pc := 43) (T := TX4) (N := 12) (ci := 4) (v := .ref (mr 11)) E hw10 inX4 2 2 q_199 rfl rfl (by decide) rfl rfl dX11_liars_43 ?_
        refine lv_iload_n (pc := 46) E.1 E.2.1 dX11_liars_46 rfl (lv_at hl11 0 rfl) ?_
        refine x_iald (pc := 47) (f := (mf 11)) E hw10 5 rfl (inbE (a := x_8.toInt) rfl (by omega)) dX11_liars_47 ?_
        refine lv_topi (fun v_15 ev_15 => ?_)
        refine lv_icmp_eq (pc := 48) (tgt := 57) E.1 E.2.1 dX11_liars_48 (by decide) (fun c_16 => ?_) (fun c_16 => ?_)
        · skip
          have hc_16 := eqE (a := v_14.toInt) (b := v_15.toInt) rfl rfl c_16
          obtain ⟨v_17, ev_17⟩ : ∃ z : Int32, x_8 + Int32.ofInt (1) = z := ⟨_, rfl⟩
          have hv_17 : v_17.toInt = x_8.toInt + (1) := by rw [← ev_17]; exact incE rfl (by decide) (by omega)
          refine lv_iinc (pc := 57) (v := v_17) (lv' := [(2, .int v_17), (1, .int x_7), (0, .ref (mr 0))]) E.1 E.2.1 dX11_liars_57 hl11 (k := 0) rfl ev_17 (by decide) rfl (fun ls hl18 => ?_)
          refine lv_goto (pc := 60) (tgt := 4) E.1 E.2.1 dX11_liars_60 (by decide) ?_
          exact ih_9 x_7 v_17 _ _ _ ⟨(by show 0 ≤ v_17.toInt; omega), (by show v_17.toInt ≤ (mi 27).toInt; omega)⟩ (by omega) hw10 (lv_sub hl18 [0, 1, 2] rfl)
        · skip
          have hc_16 := neE (a := v_14.toInt) (b := v_15.toInt) rfl rfl c_16
          refine lv_iload_n (pc := 51) E.1 E.2.1 dX11_liars_51 rfl (lv_at hl11 1 rfl) ?_
          refine lv_iconst (pc := 52) (v := 1) E.1 E.2.1 dX11_liars_52 (by decide +kernel) ?_
          refine lv_iload_n (pc := 53) E.1 E.2.1 dX11_liars_53 rfl (lv_at hl11 0 rfl) ?_
          refine lv_ishl (pc := 54) E.1 E.2.1 dX11_liars_54 ?_
          refine lv_topi (fun v_19 ev_19 => ?_)
          have hb1v_19 : 1 ≤ v_19.toInt ∧ v_19.toInt ≤ 512 := by rw [ev_19]; exact shl9 (by omega)
          refine lv_ior (pc := 55) E.1 E.2.1 dX11_liars_55 ?_
          refine lv_topi (fun v_20 ev_20 => ?_)
          refine lv_istore_n (pc := 56) (lv' := [(1, .int v_20), (2, .int x_8), (0, .ref (mr 0))]) E.1 E.2.1 dX11_liars_56 rfl hl11 (by decide) rfl (fun ls hl21 => ?_)
          obtain ⟨v_22, ev_22⟩ : ∃ z : Int32, x_8 + Int32.ofInt (1) = z := ⟨_, rfl⟩
          have hv_22 : v_22.toInt = x_8.toInt + (1) := by rw [← ev_22]; exact incE rfl (by decide) (by omega)
          refine lv_iinc (pc := 57) (v := v_22) (lv' := [(2, .int v_22), (1, .int v_20), (0, .ref (mr 0))]) E.1 E.2.1 dX11_liars_57 hl21 (k := 1) rfl ev_22 (by decide) rfl (fun ls hl23 => ?_)
          refine lv_goto (pc := 60) (tgt := 4) E.1 E.2.1 dX11_liars_60 (by decide) ?_
          exact ih_9 v_20 v_22 _ _ _ ⟨(by show 0 ≤ v_22.toInt; omega), (by show v_22.toInt ≤ (mi 27).toInt; omega)⟩ (by omega) hw10 (lv_sub hl23 [0, 1, 2] rfl)
  exact loop_6 (Int.toNat ((mi 27).toInt - 0) + 1) 0 0 _ _ _ ⟨(by show 0 ≤ (0 : Int32).toInt; have k_0 : (0 : Int32).toInt = 0 := (by decide +kernel); omega), (by show (0 : Int32).toInt ≤ (mi 27).toInt; have k_0 : (0 : Int32).toInt = 0 := (by decide +kernel); omega)⟩ (by have k_0 : (0 : Int32).toInt = 0 := (by decide +kernel); have k_1 : (0 : Int32).toInt = 0 := (by decide +kernel); omega) hw1 (lv_sub hl5 [0, 1, 2] rfl)
