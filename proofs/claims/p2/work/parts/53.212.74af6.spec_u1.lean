set_option maxHeartbeats 4000000 in
set_option maxRecDepth 100000 in
theorem s_friendsU (l : Launch) (D : va_G) (cI cJ : ClassId) (sz M : Nat) (mr : Nat → Nat) (mi : Nat → Int32) (mf : Nat → Nat → Int32) (mg : Nat → Nat → Int64) (z_a : Int32) (z_b : Int32) (z_are : Int32) (h0 : 0 ≤ (mi 6).toInt ∧ (mi 6).toInt ≤ 10) (h1 : 0 ≤ (mi 3).toInt ∧ (mi 3).toInt ≤ 6) (lf_kept : RKN (mi 3).toInt (((mf 1) 0).toInt) (mf 2)) (lf_keptD : RKD (mi 3).toInt ((mf 1) 1) (mi 12).toInt (mf 2)) : Met l yX12_friends (Cond.code yX12_friends cX12_friends 4 (some .boolean) :: GW) ({ frames := 2, cells := 0, slots := 0, locals := 61 } : Room) (va_Pc [.ref M, .int z_a, .int z_b, .int z_are] (PW D cI cJ sz (MW cI cJ M mr mi mf mg) xT)) (va_Qi (fun (r : Int32) (u : Int32 × (Nat → Int32) × Int32) => (0 ≤ u.2.2.toInt ∧ u.2.2.toInt ≤ 6) ∧ (u.2.2.toInt ≤ (mi 3).toInt) ∧ (RKN u.2.2.toInt (((mf 1) 0).toInt) (mf 2)) ∧ (RKD u.2.2.toInt ((mf 1) 1) (mi 12).toInt (mf 2)) ∧ (((FRDC (mi 6).toInt z_a.toInt z_b.toInt ∧ (r : Int32) = 1 ∧ u.2.2.toInt = 0) ∨ (¬ FRDC (mi 6).toInt z_a.toInt z_b.toInt ∧ (r : Int32) = 0 ∧ u.2.2.toInt = (mi 3).toInt)))) (fun u => QW D cI cJ (va_A (MW cI cJ M mr mi mf mg) sz) ((fun (u : Int32 × (Nat → Int32) × Int32) => (MW cI cJ M mr (upd (upd mi 0 u.1) 3 u.2.2) (va_up mf 11 u.2.1) mg)) u)) (va_A (MW cI cJ M mr mi mf mg) sz)) 0 0 (va_A (MW cI cJ M mr mi mf mg) sz) := by
  refine mk_met (y := yX12_friends) (bytes := cX12_friends) (maxL := 4) (avs := [.ref M, .int z_a, .int z_b, .int z_are]) (WS := (MW cI cJ M mr mi mf mg)) (Qf := fun A => va_Qi (fun (r : Int32) (u : Int32 × (Nat → Int32) × Int32) => (0 ≤ u.2.2.toInt ∧ u.2.2.toInt ≤ 6) ∧ (u.2.2.toInt ≤ (mi 3).toInt) ∧ (RKN u.2.2.toInt (((mf 1) 0).toInt) (mf 2)) ∧ (RKD u.2.2.toInt ((mf 1) 1) (mi 12).toInt (mf 2)) ∧ (((FRDC (mi 6).toInt z_a.toInt z_b.toInt ∧ (r : Int32) = 1 ∧ u.2.2.toInt = 0) ∨ (¬ FRDC (mi 6).toInt z_a.toInt z_b.toInt ∧ (r : Int32) = 0 ∧ u.2.2.toInt = (mi 3).toInt)))) (fun u => QW D cI cJ A ((fun (u : Int32 × (Nat → Int32) × Int32) => (MW cI cJ M mr (upd (upd mi 0 u.1) 3 u.2.2) (va_up mf 11 u.2.1) mg)) u)) A) (by decide) (Nat.le_of_ble_eq_true rfl) ?_
  intro p e s m below meth c A ls E hr hlk hnm hX hw1 hl2
  have hl3 : lv_has ls 4 [(0, .ref M), (1, .int z_a), (2, .int z_b), (3, .int z_are)] := hl2
  refine lv_aload_n (pc := 0) E.1 E.2.1 dX12_friends_0 rfl (lv_at hl3 0 rfl) ?_
  refine lv_iconst (pc := 1) (v := 0) E.1 E.2.1 dX12_friends_1 (by decide +kernel) ?_
  refine x_put (pc := 2) (T := TX12) (N := 70) (ci := 12) (ws' := (MW cI cJ M mr (upd mi 0 0) mf mg)) E hw1 inX12 tyX12_ok nmX12 0 0 q_1399 rfl rfl (by decide) rfl rfl rfl rfl (Nat.le_of_ble_eq_true rfl) rfl dX12_friends_2 (fun H locs hw4 => ?_)
  refine lv_aload_n (pc := 5) E.1 E.2.1 dX12_friends_5 rfl (lv_at hl3 0 rfl) ?_
  refine lv_iload_n (pc := 6) E.1 E.2.1 dX12_friends_6 rfl (lv_at hl3 1 rfl) ?_
  refine cm_i (pc := 7) hw4 (rn_M (As := [.int z_a]) (rest := []) E hw4 (s_isHouse l D cI cJ _ M mr (upd mi 0 0) mf mg z_a) (gdV q_1634 q_1636 q_48 q_162 q_1637) hdV_X12_isHouse ⟨rfl, rfl⟩ ⟨(Nat.le_of_ble_eq_true rfl), (Nat.le_of_ble_eq_true rfl)⟩ ⟨(Nat.le_of_ble_eq_true rfl), (Nat.le_of_ble_eq_true rfl)⟩ 12 rfl rfl rfl rfl hl3.1 rfl (Nat.le_of_ble_eq_true rfl) dX12_friends_7) (fun r_6 u_5 H1 locs hp hw7 => ?_)
  generalize H1 = H at hw7 ⊢
  have hw8 : WD D A s.heap (MW cI cJ M mr (upd mi 0 0) mf mg) H locs := hw7
  have hp_9 := hp
  rcases hp_9 with ⟨rfl, ha_10⟩ | ⟨rfl, ha_11⟩ | ⟨rfl, ha_12, ha_13⟩
  · skip
    have ha_10 : z_a.toInt < 0 := ha_10
    refine lv_if_eq (pc := 10) (tgt := 26) E.1 E.2.1 dX12_friends_10 (by decide) (fun _ => ?_) (fun c_14 => absurd (meqE (a := 0) (b := 0) (by decide +kernel) (by decide +kernel) (by omega)) c_14)
    refine lv_iconst (pc := 26) (v := 0) E.1 E.2.1 dX12_friends_26 (by decide +kernel) ?_
    exact em_z (w1 := (fun (u : Int32 × (Nat → Int32) × Int32) => (MW cI cJ M mr (upd (upd mi 0 u.1) 3 u.2.2) (va_up mf 11 u.2.1) mg))) E hr hlk (0, (mf 11), (mi 3)) hw8 ⟨h1, (by show (mi 3).toInt ≤ (mi 3).toInt; have k_0 : (0 : Int32).toInt = 0 := (by decide +kernel); have k_1 : (0 : Int32).toInt = 0 := (by decide +kernel); omega), (show RKN (mi 3).toInt (((mf 1) 0).toInt) (mf 2) from lf_kept), (show RKD (mi 3).toInt ((mf 1) 1) (mi 12).toInt (mf 2) from lf_keptD), (show ((FRDC (mi 6).toInt z_a.toInt z_b.toInt ∧ (0 : Int32) = 1 ∧ (mi 3).toInt = 0) ∨ (¬ FRDC (mi 6).toInt z_a.toInt z_b.toInt ∧ (0 : Int32) = 0 ∧ (mi 3).toInt = (mi 3).toInt)) from (Or.inr ⟨fun h => by obtain ⟨⟨h1, h2⟩, ⟨h3, h4⟩, h5⟩ := h; omega, rfl, by omega⟩))⟩ (by decide +kernel) (Nat.le_of_ble_eq_true rfl) (Nat.le_of_ble_eq_true rfl) dX12_friends_27
  · skip
    have ha_11 : (mi 6).toInt ≤ z_a.toInt := ha_11
    refine lv_if_eq (pc := 10) (tgt := 26) E.1 E.2.1 dX12_friends_10 (by decide) (fun _ => ?_) (fun c_15 => absurd (meqE (a := 0) (b := 0) (by decide +kernel) (by decide +kernel) (by omega)) c_15)
    refine lv_iconst (pc := 26) (v := 0) E.1 E.2.1 dX12_friends_26 (by decide +kernel) ?_
    exact em_z (w1 := (fun (u : Int32 × (Nat → Int32) × Int32) => (MW cI cJ M mr (upd (upd mi 0 u.1) 3 u.2.2) (va_up mf 11 u.2.1) mg))) E hr hlk (0, (mf 11), (mi 3)) hw8 ⟨h1, (by show (mi 3).toInt ≤ (mi 3).toInt; have k_0 : (0 : Int32).toInt = 0 := (by decide +kernel); have k_1 : (0 : Int32).toInt = 0 := (by decide +kernel); omega), (show RKN (mi 3).toInt (((mf 1) 0).toInt) (mf 2) from lf_kept), (show RKD (mi 3).toInt ((mf 1) 1) (mi 12).toInt (mf 2) from lf_keptD), (show ((FRDC (mi 6).toInt z_a.toInt z_b.toInt ∧ (0 : Int32) = 1 ∧ (mi 3).toInt = 0) ∨ (¬ FRDC (mi 6).toInt z_a.toInt z_b.toInt ∧ (0 : Int32) = 0 ∧ (mi 3).toInt = (mi 3).toInt)) from (Or.inr ⟨fun h => by obtain ⟨⟨h1, h2⟩, ⟨h3, h4⟩, h5⟩ := h; omega, rfl, by omega⟩))⟩ (by decide +kernel) (Nat.le_of_ble_eq_true rfl) (Nat.le_of_ble_eq_true rfl) dX12_friends_27
  · skip
    have ha_12 : 0 ≤ z_a.toInt := ha_12
    have ha_13 : z_a.toInt < (mi 6).toInt := ha_13
    refine lv_if_eq (pc := 10) (tgt := 26) E.1 E.2.1 dX12_friends_10 (by decide) (fun c_16 => absurd c_16 (mneE (a := 1) (b := 0) (by decide +kernel) (by decide +kernel) (by omega))) (fun _ => ?_)
    refine lv_aload_n (pc := 13) E.1 E.2.1 dX12_friends_13 rfl (lv_at hl3 0 rfl) ?_
    refine lv_iload_n (pc := 14) E.1 E.2.1 dX12_friends_14 rfl (lv_at hl3 2 rfl) ?_
    refine cm_i (pc := 15) hw8 (rn_M (As := [.int z_b]) (rest := []) E hw8 (s_isHouse l D cI cJ _ M mr (upd mi 0 0) mf mg z_b) (gdV q_1634 q_1636 q_48 q_162 q_1637) hdV_X12_isHouse ⟨rfl, rfl⟩ ⟨(Nat.le_of_ble_eq_true rfl), (Nat.le_of_ble_eq_true rfl)⟩ ⟨(Nat.le_of_ble_eq_true rfl), (Nat.le_of_ble_eq_true rfl)⟩ 12 rfl rfl rfl rfl hl3.1 rfl (Nat.le_of_ble_eq_true rfl) dX12_friends_15) (fun r_18 u_17 H1 locs hp hw19 => ?_)
    generalize H1 = H at hw19 ⊢
    have hw20 : WD D A s.heap (MW cI cJ M mr (upd mi 0 0) mf mg) H locs := hw19
    have hp_21 := hp
    rcases hp_21 with ⟨rfl, ha_22⟩ | ⟨rfl, ha_23⟩ | ⟨rfl, ha_24, ha_25⟩
    · skip
      have ha_22 : z_b.toInt < 0 := ha_22
      refine lv_if_eq (pc := 18) (tgt := 26) E.1 E.2.1 dX12_friends_18 (by decide) (fun _ => ?_) (fun c_26 => absurd (meqE (a := 0) (b := 0) (by decide +kernel) (by decide +kernel) (by omega)) c_26)
      refine lv_iconst (pc := 26) (v := 0) E.1 E.2.1 dX12_friends_26 (by decide +kernel) ?_
      exact em_z (w1 := (fun (u : Int32 × (Nat → Int32) × Int32) => (MW cI cJ M mr (upd (upd mi 0 u.1) 3 u.2.2) (va_up mf 11 u.2.1) mg))) E hr hlk (0, (mf 11), (mi 3)) hw20 ⟨h1, (by show (mi 3).toInt ≤ (mi 3).toInt; have k_0 : (0 : Int32).toInt = 0 := (by decide +kernel); have k_1 : (0 : Int32).toInt = 0 := (by decide +kernel); omega), (show RKN (mi 3).toInt (((mf 1) 0).toInt) (mf 2) from lf_kept), (show RKD (mi 3).toInt ((mf 1) 1) (mi 12).toInt (mf 2) from lf_keptD), (show ((FRDC (mi 6).toInt z_a.toInt z_b.toInt ∧ (0 : Int32) = 1 ∧ (mi 3).toInt = 0) ∨ (¬ FRDC (mi 6).toInt z_a.toInt z_b.toInt ∧ (0 : Int32) = 0 ∧ (mi 3).toInt = (mi 3).toInt)) from (Or.inr ⟨fun h => by obtain ⟨⟨h1, h2⟩, ⟨h3, h4⟩, h5⟩ := h; omega, rfl, by omega⟩))⟩ (by decide +kernel) (Nat.le_of_ble_eq_true rfl) (Nat.le_of_ble_eq_true rfl) dX12_friends_27
    · skip
      have ha_23 : (mi 6).toInt ≤ z_b.toInt := ha_23
      refine lv_if_eq (pc := 18) (tgt := 26) E.1 E.2.1 dX12_friends_18 (by decide) (fun _ => ?_) (fun c_27 => absurd (meqE (a := 0) (b := 0) (by decide +kernel) (by decide +kernel) (by omega)) c_27)
      refine lv_iconst (pc := 26) (v := 0) E.1 E.2.1 dX12_friends_26 (by decide +kernel) ?_
      exact em_z (w1 := (fun (u : Int32 × (Nat → Int32) × Int32) => (MW cI cJ M mr (upd (upd mi 0 u.1) 3 u.2.2) (va_up mf 11 u.2.1) mg))) E hr hlk (0, (mf 11), (mi 3)) hw20 ⟨h1, (by show (mi 3).toInt ≤ (mi 3).toInt; have k_0 : (0 : Int32).toInt = 0 := (by decide +kernel); have k_1 : (0 : Int32).toInt = 0 := (by decide +kernel); omega), (show RKN (mi 3).toInt (((mf 1) 0).toInt) (mf 2) from lf_kept), (show RKD (mi 3).toInt ((mf 1) 1) (mi 12).toInt (mf 2) from lf_keptD), (show ((FRDC (mi 6).toInt z_a.toInt z_b.toInt ∧ (0 : Int32) = 1 ∧ (mi 3).toInt = 0) ∨ (¬ FRDC (mi 6).toInt z_a.toInt z_b.toInt ∧ (0 : Int32) = 0 ∧ (mi 3).toInt = (mi 3).toInt)) from (Or.inr ⟨fun h => by obtain ⟨⟨h1, h2⟩, ⟨h3, h4⟩, h5⟩ := h; omega, rfl, by omega⟩))⟩ (by decide +kernel) (Nat.le_of_ble_eq_true rfl) (Nat.le_of_ble_eq_true rfl) dX12_friends_27
    · skip
      have ha_24 : 0 ≤ z_b.toInt := ha_24
      have ha_25 : z_b.toInt < (mi 6).toInt := ha_25
      refine lv_if_eq (pc := 18) (tgt := 26) E.1 E.2.1 dX12_friends_18 (by decide) (fun c_28 => absurd c_28 (mneE (a := 1) (b := 0) (by decide +kernel) (by decide +kernel) (by omega))) (fun _ => ?_)
      refine lv_iload_n (pc := 21) E.1 E.2.1 dX12_friends_21 rfl (lv_at hl3 1 rfl) ?_
      refine lv_iload_n (pc := 22) E.1 E.2.1 dX12_friends_22 rfl (lv_at hl3 2 rfl) ?_
      refine lv_icmp_ne (pc := 23) (tgt := 28) E.1 E.2.1 dX12_friends_23 (by decide) (fun c_29 => ?_) (fun c_29 => ?_)
      · skip
        have hc_29 := neE (a := z_a.toInt) (b := z_b.toInt) rfl rfl c_29
        refine lv_aload_n (pc := 28) E.1 E.2.1 dX12_friends_28 rfl (lv_at hl3 0 rfl) ?_
        refine x_get (pc := 29) (T := TX12) (N := 70) (ci := 12) (v := .ref (mr 11)) E hw20 inX12 0 11 q_1410 rfl rfl (by decide) rfl rfl dX12_friends_29 ?_
        refine lv_iload_n (pc := 32) E.1 E.2.1 dX12_friends_32 rfl (lv_at hl3 1 rfl) ?_
        refine lv_iload_n (pc := 33) E.1 E.2.1 dX12_friends_33 rfl (lv_at hl3 3 rfl) ?_
        refine lv_if_eq (pc := 34) (tgt := 50) E.1 E.2.1 dX12_friends_34 (by decide) (fun c_30 => ?_) (fun c_30 => ?_)
        · skip
          have hc_30 := eqE (a := z_are.toInt) (b := 0) rfl (by decide +kernel) c_30
          refine lv_aload_n (pc := 50) E.1 E.2.1 dX12_friends_50 rfl (lv_at hl3 0 rfl) ?_
          refine x_get (pc := 51) (T := TX12) (N := 70) (ci := 12) (v := .ref (mr 11)) E hw20 inX12 0 11 q_1410 rfl rfl (by decide) rfl rfl dX12_friends_51 ?_
          refine lv_iload_n (pc := 54) E.1 E.2.1 dX12_friends_54 rfl (lv_at hl3 1 rfl) ?_
          refine x_iald (pc := 55) (f := (mf 11)) E hw20 8 rfl (inbE (a := z_a.toInt) rfl (by omega)) dX12_friends_55 ?_
          refine lv_topi (fun v_31 ev_31 => ?_)
          refine lv_iconst (pc := 56) (v := 1) E.1 E.2.1 dX12_friends_56 (by decide +kernel) ?_
          refine lv_iload_n (pc := 57) E.1 E.2.1 dX12_friends_57 rfl (lv_at hl3 2 rfl) ?_
          refine lv_ishl (pc := 58) E.1 E.2.1 dX12_friends_58 ?_
          refine lv_topi (fun v_32 ev_32 => ?_)
          have hb1v_32 : 1 ≤ v_32.toInt ∧ v_32.toInt ≤ 512 := by rw [ev_32]; exact shl9 (by omega)
          refine lv_iconst (pc := 59) (v := (-1)) E.1 E.2.1 dX12_friends_59 (by decide +kernel) ?_
          refine lv_ixor (pc := 60) E.1 E.2.1 dX12_friends_60 ?_
          refine lv_topi (fun v_33 ev_33 => ?_)
          refine lv_iand (pc := 61) E.1 E.2.1 dX12_friends_61 ?_
          refine lv_topi (fun v_34 ev_34 => ?_)
          refine x_iastG (pc := 62) (f := (mf 11)) (wf := fun g => (MW cI cJ M mr (upd mi 0 0) (va_up mf 11 g) mg)) E hw20 8 rfl (inbE (a := z_a.toInt) rfl (by omega)) (fun _ => rfl) dX12_friends_62 (fun g_35 H locs eg_35 hw36 => ?_)
          refine lv_aload_n (pc := 63) E.1 E.2.1 dX12_friends_63 rfl (lv_at hl3 0 rfl) ?_
          refine x_get (pc := 64) (T := TX12) (N := 70) (ci := 12) (v := .ref (mr 11)) E hw36 inX12 0 11 q_1410 rfl rfl (by decide) rfl rfl dX12_friends_64 ?_
          refine lv_iload_n (pc := 67) E.1 E.2.1 dX12_friends_67 rfl (lv_at hl3 2 rfl) ?_
          refine lv_iload_n (pc := 68) E.1 E.2.1 dX12_friends_68 rfl (lv_at hl3 3 rfl) ?_
          refine lv_if_eq (pc := 69) (tgt := 85) E.1 E.2.1 dX12_friends_69 (by decide) (fun _ => ?_) (fun c_37 => absurd (meqE (a := z_are.toInt) (b := 0) rfl (by decide +kernel) (by omega)) c_37)
          refine lv_aload_n (pc := 85) E.1 E.2.1 dX12_friends_85 rfl (lv_at hl3 0 rfl) ?_
          refine x_get (pc := 86) (T := TX12) (N := 70) (ci := 12) (v := .ref (mr 11)) E hw36 inX12 0 11 q_1410 rfl rfl (by decide) rfl rfl dX12_friends_86 ?_
          refine lv_iload_n (pc := 89) E.1 E.2.1 dX12_friends_89 rfl (lv_at hl3 2 rfl) ?_
          refine x_iald (pc := 90) (f := g_35) E hw36 8 rfl (inbE (a := z_b.toInt) rfl (by omega)) dX12_friends_90 ?_
          refine lv_topi (fun v_38 ev_38 => ?_)
          refine lv_iconst (pc := 91) (v := 1) E.1 E.2.1 dX12_friends_91 (by decide +kernel) ?_
          refine lv_iload_n (pc := 92) E.1 E.2.1 dX12_friends_92 rfl (lv_at hl3 1 rfl) ?_
          refine lv_ishl (pc := 93) E.1 E.2.1 dX12_friends_93 ?_
          refine lv_topi (fun v_39 ev_39 => ?_)
          have hb1v_39 : 1 ≤ v_39.toInt ∧ v_39.toInt ≤ 512 := by rw [ev_39]; exact shl9 (by omega)
          refine lv_iconst (pc := 94) (v := (-1)) E.1 E.2.1 dX12_friends_94 (by decide +kernel) ?_
          refine lv_ixor (pc := 95) E.1 E.2.1 dX12_friends_95 ?_
          refine lv_topi (fun v_40 ev_40 => ?_)
          refine lv_iand (pc := 96) E.1 E.2.1 dX12_friends_96 ?_
          refine lv_topi (fun v_41 ev_41 => ?_)
          refine x_iastG (pc := 97) (f := g_35) (wf := fun g => (MW cI cJ M mr (upd mi 0 0) (va_up mf 11 g) mg)) E hw36 8 rfl (inbE (a := z_b.toInt) rfl (by omega)) (fun _ => rfl) dX12_friends_97 (fun g_42 H locs eg_42 hw43 => ?_)
          refine lv_aload_n (pc := 98) E.1 E.2.1 dX12_friends_98 rfl (lv_at hl3 0 rfl) ?_
          refine lv_iconst (pc := 99) (v := 0) E.1 E.2.1 dX12_friends_99 (by decide +kernel) ?_
          refine x_put (pc := 100) (T := TX12) (N := 70) (ci := 12) (ws' := (MW cI cJ M mr (upd (upd mi 0 0) 3 0) (va_up mf 11 g_42) mg)) E hw43 inX12 tyX12_ok nmX12 0 3 q_1402 rfl rfl (by decide) rfl rfl rfl rfl (Nat.le_of_ble_eq_true rfl) rfl dX12_friends_100 (fun H locs hw44 => ?_)
          refine lv_iconst (pc := 103) (v := 1) E.1 E.2.1 dX12_friends_103 (by decide +kernel) ?_
          exact em_z (w1 := (fun (u : Int32 × (Nat → Int32) × Int32) => (MW cI cJ M mr (upd (upd mi 0 u.1) 3 u.2.2) (va_up mf 11 u.2.1) mg))) E hr hlk (0, g_42, 0) hw44 ⟨(by show 0 ≤ (0 : Int32).toInt ∧ (0 : Int32).toInt ≤ 6; have k_0 : (0 : Int32).toInt = 0 := (by decide +kernel); have k_1 : (0 : Int32).toInt = 0 := (by decide +kernel); have k_2 : (1 : Int32).toInt = 1 := (by decide +kernel); omega), (by show (0 : Int32).toInt ≤ (mi 3).toInt; have k_0 : (0 : Int32).toInt = 0 := (by decide +kernel); have k_1 : (0 : Int32).toInt = 0 := (by decide +kernel); have k_2 : (1 : Int32).toInt = 1 := (by decide +kernel); omega), (show RKN (0 : Int32).toInt (((mf 1) 0).toInt) (mf 2) from (RKN_nil (by first | omega | decide +kernel))), (show RKD (0 : Int32).toInt ((mf 1) 1) (mi 12).toInt (mf 2) from (RKD_nil (by first | omega | decide +kernel))), (show ((FRDC (mi 6).toInt z_a.toInt z_b.toInt ∧ (1 : Int32) = 1 ∧ (0 : Int32).toInt = 0) ∨ (¬ FRDC (mi 6).toInt z_a.toInt z_b.toInt ∧ (1 : Int32) = 0 ∧ (0 : Int32).toInt = (mi 3).toInt)) from (Or.inl ⟨⟨⟨by omega, by omega⟩, ⟨by omega, by omega⟩, by omega⟩, rfl, by decide +kernel⟩))⟩ (by decide +kernel) (Nat.le_of_ble_eq_true rfl) (Nat.le_of_ble_eq_true rfl) dX12_friends_104
        · skip
          have hc_30 := neE (a := z_are.toInt) (b := 0) rfl (by decide +kernel) c_30
          refine lv_aload_n (pc := 37) E.1 E.2.1 dX12_friends_37 rfl (lv_at hl3 0 rfl) ?_
          refine x_get (pc := 38) (T := TX12) (N := 70) (ci := 12) (v := .ref (mr 11)) E hw20 inX12 0 11 q_1410 rfl rfl (by decide) rfl rfl dX12_friends_38 ?_
          refine lv_iload_n (pc := 41) E.1 E.2.1 dX12_friends_41 rfl (lv_at hl3 1 rfl) ?_
          refine x_iald (pc := 42) (f := (mf 11)) E hw20 8 rfl (inbE (a := z_a.toInt) rfl (by omega)) dX12_friends_42 ?_
          refine lv_topi (fun v_45 ev_45 => ?_)
          refine lv_iconst (pc := 43) (v := 1) E.1 E.2.1 dX12_friends_43 (by decide +kernel) ?_
          refine lv_iload_n (pc := 44) E.1 E.2.1 dX12_friends_44 rfl (lv_at hl3 2 rfl) ?_
          refine lv_ishl (pc := 45) E.1 E.2.1 dX12_friends_45 ?_
          refine lv_topi (fun v_46 ev_46 => ?_)
          have hb1v_46 : 1 ≤ v_46.toInt ∧ v_46.toInt ≤ 512 := by rw [ev_46]; exact shl9 (by omega)
          refine lv_ior (pc := 46) E.1 E.2.1 dX12_friends_46 ?_
          refine lv_topi (fun v_47 ev_47 => ?_)
          refine lv_goto (pc := 47) (tgt := 62) E.1 E.2.1 dX12_friends_47 (by decide) ?_
          refine x_iastG (pc := 62) (f := (mf 11)) (wf := fun g => (MW cI cJ M mr (upd mi 0 0) (va_up mf 11 g) mg)) E hw20 8 rfl (inbE (a := z_a.toInt) rfl (by omega)) (fun _ => rfl) dX12_friends_62 (fun g_48 H locs eg_48 hw49 => ?_)
          refine lv_aload_n (pc := 63) E.1 E.2.1 dX12_friends_63 rfl (lv_at hl3 0 rfl) ?_
          refine x_get (pc := 64) (T := TX12) (N := 70) (ci := 12) (v := .ref (mr 11)) E hw49 inX12 0 11 q_1410 rfl rfl (by decide) rfl rfl dX12_friends_64 ?_
          refine lv_iload_n (pc := 67) E.1 E.2.1 dX12_friends_67 rfl (lv_at hl3 2 rfl) ?_
          refine lv_iload_n (pc := 68) E.1 E.2.1 dX12_friends_68 rfl (lv_at hl3 3 rfl) ?_
          refine lv_if_eq (pc := 69) (tgt := 85) E.1 E.2.1 dX12_friends_69 (by decide) (fun c_50 => absurd c_50 (mneE (a := z_are.toInt) (b := 0) rfl (by decide +kernel) (by omega))) (fun _ => ?_)
          refine lv_aload_n (pc := 72) E.1 E.2.1 dX12_friends_72 rfl (lv_at hl3 0 rfl) ?_
          refine x_get (pc := 73) (T := TX12) (N := 70) (ci := 12) (v := .ref (mr 11)) E hw49 inX12 0 11 q_1410 rfl rfl (by decide) rfl rfl dX12_friends_73 ?_
          refine lv_iload_n (pc := 76) E.1 E.2.1 dX12_friends_76 rfl (lv_at hl3 2 rfl) ?_
          refine x_iald (pc := 77) (f := g_48) E hw49 8 rfl (inbE (a := z_b.toInt) rfl (by omega)) dX12_friends_77 ?_
          refine lv_topi (fun v_51 ev_51 => ?_)
          refine lv_iconst (pc := 78) (v := 1) E.1 E.2.1 dX12_friends_78 (by decide +kernel) ?_
          refine lv_iload_n (pc := 79) E.1 E.2.1 dX12_friends_79 rfl (lv_at hl3 1 rfl) ?_
          refine lv_ishl (pc := 80) E.1 E.2.1 dX12_friends_80 ?_
          refine lv_topi (fun v_52 ev_52 => ?_)
          have hb1v_52 : 1 ≤ v_52.toInt ∧ v_52.toInt ≤ 512 := by rw [ev_52]; exact shl9 (by omega)
          refine lv_ior (pc := 81) E.1 E.2.1 dX12_friends_81 ?_
          refine lv_topi (fun v_53 ev_53 => ?_)
          refine lv_goto (pc := 82) (tgt := 97) E.1 E.2.1 dX12_friends_82 (by decide) ?_
          refine x_iastG (pc := 97) (f := g_48) (wf := fun g => (MW cI cJ M mr (upd mi 0 0) (va_up mf 11 g) mg)) E hw49 8 rfl (inbE (a := z_b.toInt) rfl (by omega)) (fun _ => rfl) dX12_friends_97 (fun g_54 H locs eg_54 hw55 => ?_)
          refine lv_aload_n (pc := 98) E.1 E.2.1 dX12_friends_98 rfl (lv_at hl3 0 rfl) ?_
          refine lv_iconst (pc := 99) (v := 0) E.1 E.2.1 dX12_friends_99 (by decide +kernel) ?_
          refine x_put (pc := 100) (T := TX12) (N := 70) (ci := 12) (ws' := (MW cI cJ M mr (upd (upd mi 0 0) 3 0) (va_up mf 11 g_54) mg)) E hw55 inX12 tyX12_ok nmX12 0 3 q_1402 rfl rfl (by decide) rfl rfl rfl rfl (Nat.le_of_ble_eq_true rfl) rfl dX12_friends_100 (fun H locs hw56 => ?_)
          refine lv_iconst (pc := 103) (v := 1) E.1 E.2.1 dX12_friends_103 (by decide +kernel) ?_
          exact em_z (w1 := (fun (u : Int32 × (Nat → Int32) × Int32) => (MW cI cJ M mr (upd (upd mi 0 u.1) 3 u.2.2) (va_up mf 11 u.2.1) mg))) E hr hlk (0, g_54, 0) hw56 ⟨(by show 0 ≤ (0 : Int32).toInt ∧ (0 : Int32).toInt ≤ 6; have k_0 : (0 : Int32).toInt = 0 := (by decide +kernel); have k_1 : (0 : Int32).toInt = 0 := (by decide +kernel); have k_2 : (1 : Int32).toInt = 1 := (by decide +kernel); omega), (by show (0 : Int32).toInt ≤ (mi 3).toInt; have k_0 : (0 : Int32).toInt = 0 := (by decide +kernel); have k_1 : (0 : Int32).toInt = 0 := (by decide +kernel); have k_2 : (1 : Int32).toInt = 1 := (by decide +kernel); omega), (show RKN (0 : Int32).toInt (((mf 1) 0).toInt) (mf 2) from (RKN_nil (by first | omega | decide +kernel))), (show RKD (0 : Int32).toInt ((mf 1) 1) (mi 12).toInt (mf 2) from (RKD_nil (by first | omega | decide +kernel))), (show ((FRDC (mi 6).toInt z_a.toInt z_b.toInt ∧ (1 : Int32) = 1 ∧ (0 : Int32).toInt = 0) ∨ (¬ FRDC (mi 6).toInt z_a.toInt z_b.toInt ∧ (1 : Int32) = 0 ∧ (0 : Int32).toInt = (mi 3).toInt)) from (Or.inl ⟨⟨⟨by omega, by omega⟩, ⟨by omega, by omega⟩, by omega⟩, rfl, by decide +kernel⟩))⟩ (by decide +kernel) (Nat.le_of_ble_eq_true rfl) (Nat.le_of_ble_eq_true rfl) dX12_friends_104
      · skip
        have hc_29 := eqE (a := z_a.toInt) (b := z_b.toInt) rfl rfl c_29
        refine lv_iconst (pc := 26) (v := 0) E.1 E.2.1 dX12_friends_26 (by decide +kernel) ?_
        exact em_z (w1 := (fun (u : Int32 × (Nat → Int32) × Int32) => (MW cI cJ M mr (upd (upd mi 0 u.1) 3 u.2.2) (va_up mf 11 u.2.1) mg))) E hr hlk (0, (mf 11), (mi 3)) hw20 ⟨h1, (by show (mi 3).toInt ≤ (mi 3).toInt; have k_0 : (0 : Int32).toInt = 0 := (by decide +kernel); have k_1 : (0 : Int32).toInt = 0 := (by decide +kernel); omega), (show RKN (mi 3).toInt (((mf 1) 0).toInt) (mf 2) from lf_kept), (show RKD (mi 3).toInt ((mf 1) 1) (mi 12).toInt (mf 2) from lf_keptD), (show ((FRDC (mi 6).toInt z_a.toInt z_b.toInt ∧ (0 : Int32) = 1 ∧ (mi 3).toInt = 0) ∨ (¬ FRDC (mi 6).toInt z_a.toInt z_b.toInt ∧ (0 : Int32) = 0 ∧ (mi 3).toInt = (mi 3).toInt)) from (Or.inr ⟨fun h => by obtain ⟨⟨h1, h2⟩, ⟨h3, h4⟩, h5⟩ := h; omega, rfl, by omega⟩))⟩ (by decide +kernel) (Nat.le_of_ble_eq_true rfl) (Nat.le_of_ble_eq_true rfl) dX12_friends_27
