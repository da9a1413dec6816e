set_option maxHeartbeats 4000000 in
set_option maxRecDepth 100000 in
theorem t_houseN (l : Launch) (D : va_G) (cI cJ : ClassId) (sz : Nat) (mr : Nat → Nat) (mi : Nat → Int32) (mf : Nat → Nat → Int32) (mg : Nat → Nat → Int64) (z_place : Int32) (z_people : Int32) (z_oil : Int32) (mv : Nat → Value) (h0 : 0 ≤ (mi 1).toInt ∧ (mi 1).toInt ≤ 5) (h1 : 0 ≤ (mi 2).toInt ∧ (mi 2).toInt ≤ 6) (h2 : 0 ≤ (mi 15).toInt ∧ (mi 15).toInt ≤ 200) (h3 : 0 ≤ (mi 23).toInt ∧ (mi 23).toInt ≤ 10) : Met l yX11_house (Cond.code yX11_house cX11_house 6 (some .int) :: GW) ({ frames := 11, cells := 0, slots := 0, locals := 263 } : Room) (va_Pc [.ref (mr 0), .int z_place, .int z_people, .int z_oil] (PW D cI cJ sz (WZ_LhouseN cI cJ mv mr mi mf mg) xT)) (va_Qi (fun (r : Int32) (u : (Nat → Int32) × (Nat → Nat → Int32) × (Nat → Nat → Int64)) => (0 ≤ (u.1 1).toInt) ∧ ((u.1 1).toInt ≤ 5) ∧ (0 ≤ (u.1 2).toInt) ∧ ((u.1 2).toInt ≤ 6) ∧ (0 ≤ (u.1 15).toInt) ∧ ((u.1 15).toInt ≤ 200) ∧ (0 ≤ (u.1 23).toInt) ∧ ((u.1 23).toInt ≤ 10) ∧ ((Eq (mf 22)) (u.2.1 22)) ∧ (HST (mi 23).toInt (u.1 23).toInt (mf 18) (u.2.1 18) z_place z_people.toInt z_oil.toInt)) (fun u => QW D cI cJ (va_A (WZ_LhouseN cI cJ mv mr mi mf mg) sz) ((fun (u : (Nat → Int32) × (Nat → Nat → Int32) × (Nat → Nat → Int64)) => (WZ_LhouseN cI cJ mv mr u.1 u.2.1 u.2.2)) u)) (va_A (WZ_LhouseN cI cJ mv mr mi mf mg) sz)) 0 0 (va_A (WZ_LhouseN cI cJ mv mr mi mf mg) sz) := by
  refine mk_met (y := yX11_house) (bytes := cX11_house) (maxL := 6) (avs := [.ref (mr 0), .int z_place, .int z_people, .int z_oil]) (WS := (WZ_LhouseN cI cJ mv mr mi mf mg)) (Qf := fun A => va_Qi (fun (r : Int32) (u : (Nat → Int32) × (Nat → Nat → Int32) × (Nat → Nat → Int64)) => (0 ≤ (u.1 1).toInt) ∧ ((u.1 1).toInt ≤ 5) ∧ (0 ≤ (u.1 2).toInt) ∧ ((u.1 2).toInt ≤ 6) ∧ (0 ≤ (u.1 15).toInt) ∧ ((u.1 15).toInt ≤ 200) ∧ (0 ≤ (u.1 23).toInt) ∧ ((u.1 23).toInt ≤ 10) ∧ ((Eq (mf 22)) (u.2.1 22)) ∧ (HST (mi 23).toInt (u.1 23).toInt (mf 18) (u.2.1 18) z_place z_people.toInt z_oil.toInt)) (fun u => QW D cI cJ A ((fun (u : (Nat → Int32) × (Nat → Nat → Int32) × (Nat → Nat → Int64)) => (WZ_LhouseN cI cJ mv mr u.1 u.2.1 u.2.2)) u)) A) (by decide) (Nat.le_of_ble_eq_true rfl) ?_
  intro p e s m below meth c A ls E hr hlk hnm hX hw1 hl2
  have hl3 : lv_has ls 6 [(0, .ref (mr 0)), (1, .int z_place), (2, .int z_people), (3, .int z_oil)] := hl2
  refine lv_aload_n (pc := 0) E.1 E.2.1 dX11_house_0 rfl (lv_at hl3 0 rfl) ?_
  refine x_get (pc := 1) (T := TX11) (N := 13) (ci := 11) (v := .ref (mr 3)) E hw1 inX11 0 0 q_606 rfl rfl (by decide) rfl rfl dX11_house_1 ?_
  refine x_get (pc := 4) (T := TX10) (N := 17) (ci := 10) (v := .ref (mr 17)) E hw1 inX10 1 1 q_463 rfl rfl (by decide) rfl rfl dX11_house_4 ?_
  refine lv_astore (pc := 7) (lv' := [(4, .ref (mr 17)), (0, .ref (mr 0)), (1, .int z_place), (2, .int z_people), (3, .int z_oil)]) E.1 E.2.1 dX11_house_7 hl3 (by decide) rfl (fun ls hl4 => ?_)
  refine lv_iload_n (pc := 9) E.1 E.2.1 dX11_house_9 rfl (lv_at hl4 3 rfl) ?_
  refine lv_iconst (pc := 10) (v := 1) E.1 E.2.1 dX11_house_10 (by decide +kernel) ?_
  refine lv_icmp_lt (pc := 11) (tgt := 40) E.1 E.2.1 dX11_house_11 (by decide) (fun c_5 => ?_) (fun c_5 => ?_)
  · skip
    have hc_5 := ltE (a := z_people.toInt) (b := 1) rfl (by decide +kernel) c_5
    refine lv_iconst (pc := 40) (v := (-1)) E.1 E.2.1 dX11_house_40 (by decide +kernel) ?_
    exact em_i (w1 := (fun (u : (Nat → Int32) × (Nat → Nat → Int32) × (Nat → Nat → Int64)) => (WZ_LhouseN cI cJ mv mr u.1 u.2.1 u.2.2))) E hr hlk (mi, mf, mg) hw1 ⟨h0.1, h0.2, h1.1, h1.2, h2.1, h2.2, h3.1, h3.2, rfl, (show HST (mi 23).toInt (mi 23).toInt (mf 18) (mf 18) z_place z_people.toInt z_oil.toInt from (Or.inr ⟨fun h => by obtain ⟨⟨h1, h2⟩, ⟨h3, h4⟩, h5, -⟩ := h; omega, rfl, rfl⟩))⟩ (Nat.le_of_ble_eq_true rfl) (Nat.le_of_ble_eq_true rfl) dX11_house_41
  · skip
    have hc_5 := nltE (a := z_people.toInt) (b := 1) rfl (by decide +kernel) c_5
    refine lv_iload_n (pc := 14) E.1 E.2.1 dX11_house_14 rfl (lv_at hl4 3 rfl) ?_
    refine lv_bipush (pc := 15) (v := 20) E.1 E.2.1 dX11_house_15 (by decide +kernel) ?_
    refine lv_icmp_gt (pc := 17) (tgt := 40) E.1 E.2.1 dX11_house_17 (by decide) (fun c_6 => ?_) (fun c_6 => ?_)
    · skip
      have hc_6 := ltE (a := 20) (b := z_people.toInt) (by decide +kernel) rfl c_6
      refine lv_iconst (pc := 40) (v := (-1)) E.1 E.2.1 dX11_house_40 (by decide +kernel) ?_
      exact em_i (w1 := (fun (u : (Nat → Int32) × (Nat → Nat → Int32) × (Nat → Nat → Int64)) => (WZ_LhouseN cI cJ mv mr u.1 u.2.1 u.2.2))) E hr hlk (mi, mf, mg) hw1 ⟨h0.1, h0.2, h1.1, h1.2, h2.1, h2.2, h3.1, h3.2, rfl, (show HST (mi 23).toInt (mi 23).toInt (mf 18) (mf 18) z_place z_people.toInt z_oil.toInt from (Or.inr ⟨fun h => by obtain ⟨⟨h1, h2⟩, ⟨h3, h4⟩, h5, -⟩ := h; omega, rfl, rfl⟩))⟩ (Nat.le_of_ble_eq_true rfl) (Nat.le_of_ble_eq_true rfl) dX11_house_41
    · skip
      have hc_6 := nltE (a := 20) (b := z_people.toInt) (by decide +kernel) rfl c_6
      refine lv_iload_n (pc := 20) E.1 E.2.1 dX11_house_20 rfl (lv_at hl4 4 rfl) ?_
      refine lv_if_lt (pc := 21) (tgt := 40) E.1 E.2.1 dX11_house_21 (by decide) (fun c_7 => ?_) (fun c_7 => ?_)
      · skip
        have hc_7 := ltE (a := z_oil.toInt) (b := 0) rfl (by decide +kernel) c_7
        refine lv_iconst (pc := 40) (v := (-1)) E.1 E.2.1 dX11_house_40 (by decide +kernel) ?_
        exact em_i (w1 := (fun (u : (Nat → Int32) × (Nat → Nat → Int32) × (Nat → Nat → Int64)) => (WZ_LhouseN cI cJ mv mr u.1 u.2.1 u.2.2))) E hr hlk (mi, mf, mg) hw1 ⟨h0.1, h0.2, h1.1, h1.2, h2.1, h2.2, h3.1, h3.2, rfl, (show HST (mi 23).toInt (mi 23).toInt (mf 18) (mf 18) z_place z_people.toInt z_oil.toInt from (Or.inr ⟨fun h => by obtain ⟨⟨h1, h2⟩, ⟨h3, h4⟩, h5, -⟩ := h; omega, rfl, rfl⟩))⟩ (Nat.le_of_ble_eq_true rfl) (Nat.le_of_ble_eq_true rfl) dX11_house_41
      · skip
        have hc_7 := nltE (a := z_oil.toInt) (b := 0) rfl (by decide +kernel) c_7
        refine lv_iload_n (pc := 24) E.1 E.2.1 dX11_house_24 rfl (lv_at hl4 4 rfl) ?_
        refine lv_sipush (pc := 25) (v := 999) E.1 E.2.1 dX11_house_25 (by decide +kernel) ?_
        refine lv_icmp_gt (pc := 28) (tgt := 40) E.1 E.2.1 dX11_house_28 (by decide) (fun c_8 => ?_) (fun c_8 => ?_)
        · skip
          have hc_8 := ltE (a := 999) (b := z_oil.toInt) (by decide +kernel) rfl c_8
          refine lv_iconst (pc := 40) (v := (-1)) E.1 E.2.1 dX11_house_40 (by decide +kernel) ?_
          exact em_i (w1 := (fun (u : (Nat → Int32) × (Nat → Nat → Int32) × (Nat → Nat → Int64)) => (WZ_LhouseN cI cJ mv mr u.1 u.2.1 u.2.2))) E hr hlk (mi, mf, mg) hw1 ⟨h0.1, h0.2, h1.1, h1.2, h2.1, h2.2, h3.1, h3.2, rfl, (show HST (mi 23).toInt (mi 23).toInt (mf 18) (mf 18) z_place z_people.toInt z_oil.toInt from (Or.inr ⟨fun h => by obtain ⟨⟨h1, h2⟩, ⟨h3, h4⟩, h5, -⟩ := h; omega, rfl, rfl⟩))⟩ (Nat.le_of_ble_eq_true rfl) (Nat.le_of_ble_eq_true rfl) dX11_house_41
        · skip
          have hc_8 := nltE (a := 999) (b := z_oil.toInt) (by decide +kernel) rfl c_8
          refine lv_aload (pc := 31) E.1 E.2.1 dX11_house_31 (lv_at hl4 0 rfl) ?_
          refine lv_iload_n (pc := 33) E.1 E.2.1 dX11_house_33 rfl (lv_at hl4 2 rfl) ?_
          refine ck_i (pc := 34) (ws' := (fun (u : Unit) => (WZ_LhouseN cI cJ mv mr mi mf mg))) [false, false, false, false, true, true, true, true, true, true, true, true] hw1 rfl (fun hC_ => (rn_V (As := [.int z_place]) (rest := []) E hw1 (t_isFreeK l D cI cJ _ (shf 17 mr) (shf 17 mi) (shf 17 mf) (shf 17 mg) z_place (vl [mv 24]) h3) (gdV q_662 q_663 q_664 q_154 q_665) hdV_X1_isFree ⟨rfl, rfl⟩ ⟨(Nat.le_of_ble_eq_true rfl), (Nat.le_of_ble_eq_true rfl)⟩ ⟨(Nat.le_of_ble_eq_true rfl), (Nat.le_of_ble_eq_true rfl)⟩ xT_b xT_at 4 1 rfl rfl rfl _ hC_ (nd_T _ 0) rfl hl4.1 rfl (Nat.le_of_ble_eq_true rfl) dX11_house_34)) rfl (fun _ => rfl) (fun _ => rfl) (fun r_10 u_9 H1 locs hp hw11 => ?_)
          generalize H1 = H at hw11 ⊢
          have hw12 : WD D A s.heap (WZ_LhouseN cI cJ mv mr mi mf mg) H locs := hw11
          obtain ⟨hp_13, hp_14, hp_15⟩ := hp
          have hp_13 : 0 ≤ r_10.toInt := hp_13
          have hp_14 : r_10.toInt ≤ 1 := hp_14
          have hp_15 : ((r_10 : Int32) = 1 ↔ FREE (mi 23).toInt (mf 18) (z_place : Int32).toInt) := hp_15
          refine lv_if_ne (pc := 37) (tgt := 42) E.1 E.2.1 dX11_house_37 (by decide) (fun c_16 => ?_) (fun c_16 => ?_)
          · skip
            have hc_16 := neE (a := r_10.toInt) (b := 0) rfl (by decide +kernel) c_16
            refine lv_aload (pc := 42) E.1 E.2.1 dX11_house_42 (lv_at hl4 0 rfl) ?_
            refine x_get (pc := 44) (T := TX1) (N := 9) (ci := 1) (v := .int (mi 23)) E hw12 inX1 4 5 q_282 rfl rfl (by decide) rfl rfl dX11_house_44 ?_
            refine lv_bipush (pc := 47) (v := 10) E.1 E.2.1 dX11_house_47 (by decide +kernel) ?_
            refine lv_icmp_lt (pc := 49) (tgt := 54) E.1 E.2.1 dX11_house_49 (by decide) (fun c_17 => ?_) (fun c_17 => ?_)
            · skip
              have hc_17 := ltE (a := (mi 23).toInt) (b := 10) rfl (by decide +kernel) c_17
              refine lv_aload (pc := 54) E.1 E.2.1 dX11_house_54 (lv_at hl4 0 rfl) ?_
              refine x_get (pc := 56) (T := TX1) (N := 9) (ci := 1) (v := .int (mi 23)) E hw12 inX1 4 5 q_282 rfl rfl (by decide) rfl rfl dX11_house_56 ?_
              refine lv_istore (pc := 59) (lv' := [(5, .int (mi 23)), (4, .ref (mr 17)), (0, .ref (mr 0)), (1, .int z_place), (2, .int z_people), (3, .int z_oil)]) E.1 E.2.1 dX11_house_59 hl4 (by decide) rfl (fun ls hl18 => ?_)
              refine lv_aload (pc := 61) E.1 E.2.1 dX11_house_61 (lv_at hl18 1 rfl) ?_
              refine x_get (pc := 63) (T := TX1) (N := 9) (ci := 1) (v := .ref (mr 18)) E hw12 inX1 4 0 q_267 rfl rfl (by decide) rfl rfl dX11_house_63 ?_
              refine lv_iload (pc := 66) E.1 E.2.1 dX11_house_66 (lv_at hl18 0 rfl) ?_
              refine lv_iload_n (pc := 68) E.1 E.2.1 dX11_house_68 rfl (lv_at hl18 3 rfl) ?_
              refine x_iastG (pc := 69) (f := (mf 18)) (wf := fun g => (WZ_LhouseN cI cJ mv mr mi (va_up mf 18 g) mg)) E hw12 5 rfl (inbE (a := (mi 23).toInt) rfl (by omega)) (fun _ => rfl) dX11_house_69 (fun g_19 H locs eg_19 hw20 => ?_)
              refine lv_aload (pc := 70) E.1 E.2.1 dX11_house_70 (lv_at hl18 1 rfl) ?_
              refine x_get (pc := 72) (T := TX1) (N := 9) (ci := 1) (v := .ref (mr 19)) E hw20 inX1 4 1 q_269 rfl rfl (by decide) rfl rfl dX11_house_72 ?_
              refine lv_iload (pc := 75) E.1 E.2.1 dX11_house_75 (lv_at hl18 0 rfl) ?_
              refine lv_iload_n (pc := 77) E.1 E.2.1 dX11_house_77 rfl (lv_at hl18 4 rfl) ?_
              refine x_iastG (pc := 78) (f := (mf 19)) (wf := fun g => (WZ_LhouseN cI cJ mv mr mi (va_up (va_up mf 18 g_19) 19 g) mg)) E hw20 6 rfl (inbE (a := (mi 23).toInt) rfl (by omega)) (fun _ => rfl) dX11_house_78 (fun g_21 H locs eg_21 hw22 => ?_)
              refine lv_aload_n (pc := 79) E.1 E.2.1 dX11_house_79 rfl (lv_at hl18 2 rfl) ?_
              refine x_get (pc := 80) (T := TX11) (N := 13) (ci := 11) (v := .ref (mr 3)) E hw22 inX11 0 0 q_606 rfl rfl (by decide) rfl rfl dX11_house_80 ?_
              refine x_get (pc := 83) (T := TX10) (N := 17) (ci := 10) (v := .ref (mr 8)) E hw22 inX10 1 0 q_458 rfl rfl (by decide) rfl rfl dX11_house_83 ?_
              refine x_get (pc := 86) (T := TX4) (N := 12) (ci := 4) (v := .ref (mr 9)) E hw22 inX4 2 0 q_192 rfl rfl (by decide) rfl rfl dX11_house_86 ?_
              refine lv_iload (pc := 89) E.1 E.2.1 dX11_house_89 (lv_at hl18 0 rfl) ?_
              refine lv_iload_n (pc := 91) E.1 E.2.1 dX11_house_91 rfl (lv_at hl18 5 rfl) ?_
              refine x_iastG (pc := 92) (f := (mf 9)) (wf := fun g => (WZ_LhouseN cI cJ mv mr mi (va_up (va_up (va_up mf 9 g) 18 g_19) 19 g_21) mg)) E hw22 3 rfl (inbE (a := (mi 23).toInt) rfl (by omega)) (fun _ => rfl) dX11_house_92 (fun g_23 H locs eg_23 hw24 => ?_)
              refine lv_aload (pc := 93) E.1 E.2.1 dX11_house_93 (lv_at hl18 1 rfl) ?_
              refine lv_iload (pc := 95) E.1 E.2.1 dX11_house_95 (lv_at hl18 0 rfl) ?_
              refine lv_iconst (pc := 97) (v := 1) E.1 E.2.1 dX11_house_97 (by decide +kernel) ?_
              refine lv_iadd (pc := 98) E.1 E.2.1 dX11_house_98 ?_
              refine lv_topi (fun v_25 ev_25 => ?_)
              have hv_25 : v_25.toInt = (mi 23).toInt + 1 := by rw [ev_25]; exact addE rfl (by decide +kernel) (by omega)
              refine x_put (pc := 99) (T := TX1) (N := 9) (ci := 1) (ws' := (WZ_LhouseN cI cJ mv mr (upd mi 23 v_25) (va_up (va_up (va_up mf 9 g_23) 18 g_19) 19 g_21) mg)) E hw24 inX1 tyX1_ok nmX1 4 5 q_282 rfl rfl (by decide) rfl rfl rfl rfl (Nat.le_of_ble_eq_true rfl) rfl dX11_house_99 (fun H locs hw26 => ?_)
              refine lv_iload (pc := 102) E.1 E.2.1 dX11_house_102 (lv_at hl18 0 rfl) ?_
              refine lv_if_ne (pc := 104) (tgt := 118) E.1 E.2.1 dX11_house_104 (by decide) (fun c_27 => ?_) (fun c_27 => ?_)
              · skip
                have hc_27 := neE (a := (mi 23).toInt) (b := 0) rfl (by decide +kernel) c_27
                refine lv_aload_n (pc := 118) E.1 E.2.1 dX11_house_118 rfl (lv_at hl18 2 rfl) ?_
                refine ck_v (pc := 119) (ws' := (fun (u : Int32 × Int32) => (WZ_LhouseN cI cJ mv mr (upd (upd (upd mi 1 u.1) 2 u.2) 23 v_25) (va_up (va_up (va_up mf 9 g_23) 18 g_19) 19 g_21) mg))) [true, false, false, false, false, false, false, false, false, false, false, false] hw26 rfl (fun hC_ => (rn_V (As := []) (rest := []) E hw26 (t_forgetNightsN l D cI cJ _ mr (upd mi 23 v_25) (va_up (va_up (va_up mf 9 g_23) 18 g_19) 19 g_21) mg (vl [.ref (mr 3), mv 0, mv 1, mv 2, mv 3, mv 4, mv 5, mv 6, mv 7, mv 8])) (gdV q_650 q_652 q_0 q_151 q_653) hdV_X11_forgetNights ⟨rfl, rfl⟩ ⟨(Nat.le_of_ble_eq_true rfl), (Nat.le_of_ble_eq_true rfl)⟩ ⟨(Nat.le_of_ble_eq_true rfl), (Nat.le_of_ble_eq_true rfl)⟩ xT_b xT_at 0 11 rfl rfl rfl _ hC_ (nd_T _ 0) rfl hl18.1 rfl (Nat.le_of_ble_eq_true rfl) dX11_house_119)) rfl (fun _ => rfl) (fun _ => rfl) (fun u_28 H1 locs hp hw30 => ?_)
                obtain ⟨noldest_31, nundoable_32⟩ := u_28
                generalize H1 = H at hw30 ⊢
                have hw33 : WD D A s.heap (WZ_LhouseN cI cJ mv mr (upd (upd (upd mi 1 noldest_31) 2 nundoable_32) 23 v_25) (va_up (va_up (va_up mf 9 g_23) 18 g_19) 19 g_21) mg) H locs := hw30
                obtain ⟨hp_34, hp_35⟩ := hp
                have hp_34 : noldest_31.toInt = 0 := hp_34
                have hp_35 : nundoable_32.toInt = 0 := hp_35
                refine lv_iload (pc := 122) E.1 E.2.1 dX11_house_122 (lv_at hl18 0 rfl) ?_
                exact em_i (w1 := (fun (u : (Nat → Int32) × (Nat → Nat → Int32) × (Nat → Nat → Int64)) => (WZ_LhouseN cI cJ mv mr u.1 u.2.1 u.2.2))) E hr hlk ((upd (upd (upd mi 1 noldest_31) 2 nundoable_32) 23 v_25), (va_up (va_up (va_up mf 9 g_23) 18 g_19) 19 g_21), mg) hw33 ⟨(by show 0 ≤ noldest_31.toInt; omega), (by show noldest_31.toInt ≤ 5; omega), (by show 0 ≤ nundoable_32.toInt; omega), (by show nundoable_32.toInt ≤ 6; omega), h2.1, h2.2, (by show 0 ≤ v_25.toInt; omega), (by show v_25.toInt ≤ 10; omega), rfl, (show HST (mi 23).toInt v_25.toInt (mf 18) g_19 z_place z_people.toInt z_oil.toInt from (Or.inl ⟨⟨⟨by omega, by omega⟩, ⟨by omega, by omega⟩, by omega, hp_15.mp (Int32.toInt_inj.mp (by have k1 : (1 : Int32).toInt = 1 := (by decide +kernel); omega))⟩, by omega, hst_w eg_19 (by omega) rfl⟩))⟩ (Nat.le_of_ble_eq_true rfl) (Nat.le_of_ble_eq_true rfl) dX11_house_124
              · skip
                have hc_27 := eqE (a := (mi 23).toInt) (b := 0) rfl (by decide +kernel) c_27
                refine lv_aload_n (pc := 107) E.1 E.2.1 dX11_house_107 rfl (lv_at hl18 2 rfl) ?_
                refine x_get (pc := 108) (T := TX11) (N := 13) (ci := 11) (v := .ref (mr 3)) E hw26 inX11 0 0 q_606 rfl rfl (by decide) rfl rfl dX11_house_108 ?_
                refine x_get (pc := 111) (T := TX10) (N := 17) (ci := 10) (v := .ref (mr 8)) E hw26 inX10 1 0 q_458 rfl rfl (by decide) rfl rfl dX11_house_111 ?_
                refine lv_iconst (pc := 114) (v := 0) E.1 E.2.1 dX11_house_114 (by decide +kernel) ?_
                refine x_put (pc := 115) (T := TX4) (N := 12) (ci := 4) (ws' := (WZ_LhouseN cI cJ mv mr (upd (upd mi 11 0) 23 v_25) (va_up (va_up (va_up mf 9 g_23) 18 g_19) 19 g_21) mg)) E hw26 inX4 tyX4_ok nmX4 2 6 q_216 rfl rfl (by decide) rfl rfl rfl rfl (Nat.le_of_ble_eq_true rfl) rfl dX11_house_115 (fun H locs hw36 => ?_)
                refine lv_aload_n (pc := 118) E.1 E.2.1 dX11_house_118 rfl (lv_at hl18 2 rfl) ?_
                refine ck_v (pc := 119) (ws' := (fun (u : Int32 × Int32) => (WZ_LhouseN cI cJ mv mr (upd (upd (upd (upd mi 1 u.1) 2 u.2) 11 0) 23 v_25) (va_up (va_up (va_up mf 9 g_23) 18 g_19) 19 g_21) mg))) [true, false, false, false, false, false, false, false, false, false, false, false] hw36 rfl (fun hC_ => (rn_V (As := []) (rest := []) E hw36 (t_forgetNightsN l D cI cJ _ mr (upd (upd mi 11 0) 23 v_25) (va_up (va_up (va_up mf 9 g_23) 18 g_19) 19 g_21) mg (vl [.ref (mr 3), mv 0, mv 1, mv 2, mv 3, mv 4, mv 5, mv 6, mv 7, mv 8])) (gdV q_650 q_652 q_0 q_151 q_653) hdV_X11_forgetNights ⟨rfl, rfl⟩ ⟨(Nat.le_of_ble_eq_true rfl), (Nat.le_of_ble_eq_true rfl)⟩ ⟨(Nat.le_of_ble_eq_true rfl), (Nat.le_of_ble_eq_true rfl)⟩ xT_b xT_at 0 11 rfl rfl rfl _ hC_ (nd_T _ 0) rfl hl18.1 rfl (Nat.le_of_ble_eq_true rfl) dX11_house_119)) rfl (fun _ => rfl) (fun _ => rfl) (fun u_37 H1 locs hp hw39 => ?_)
                obtain ⟨noldest_40, nundoable_41⟩ := u_37
                generalize H1 = H at hw39 ⊢
                have hw42 : WD D A s.heap (WZ_LhouseN cI cJ mv mr (upd (upd (upd (upd mi 1 noldest_40) 2 nundoable_41) 11 0) 23 v_25) (va_up (va_up (va_up mf 9 g_23) 18 g_19) 19 g_21) mg) H locs := hw39
                obtain ⟨hp_43, hp_44⟩ := hp
                have hp_43 : noldest_40.toInt = 0 := hp_43
                have hp_44 : nundoable_41.toInt = 0 := hp_44
                refine lv_iload (pc := 122) E.1 E.2.1 dX11_house_122 (lv_at hl18 0 rfl) ?_
                exact em_i (w1 := (fun (u : (Nat → Int32) × (Nat → Nat → Int32) × (Nat → Nat → Int64)) => (WZ_LhouseN cI cJ mv mr u.1 u.2.1 u.2.2))) E hr hlk ((upd (upd (upd (upd mi 1 noldest_40) 2 nundoable_41) 11 0) 23 v_25), (va_up (va_up (va_up mf 9 g_23) 18 g_19) 19 g_21), mg) hw42 ⟨(by show 0 ≤ noldest_40.toInt; have k_0 : (0 : Int32).toInt = 0 := (by decide +kernel); omega), (by show noldest_40.toInt ≤ 5; have k_0 : (0 : Int32).toInt = 0 := (by decide +kernel); omega), (by show 0 ≤ nundoable_41.toInt; have k_0 : (0 : Int32).toInt = 0 := (by decide +kernel); omega), (by show nundoable_41.toInt ≤ 6; have k_0 : (0 : Int32).toInt = 0 := (by decide +kernel); omega), h2.1, h2.2, (by show 0 ≤ v_25.toInt; have k_0 : (0 : Int32).toInt = 0 := (by decide +kernel); omega), (by show v_25.toInt ≤ 10; have k_0 : (0 : Int32).toInt = 0 := (by decide +kernel); omega), rfl, (show HST (mi 23).toInt v_25.toInt (mf 18) g_19 z_place z_people.toInt z_oil.toInt from (Or.inl ⟨⟨⟨by omega, by omega⟩, ⟨by omega, by omega⟩, by omega, hp_15.mp (Int32.toInt_inj.mp (by have k1 : (1 : Int32).toInt = 1 := (by decide +kernel); omega))⟩, by omega, hst_w eg_19 (by omega) rfl⟩))⟩ (Nat.le_of_ble_eq_true rfl) (Nat.le_of_ble_eq_true rfl) dX11_house_124
            · skip
              have hc_17 := nltE (a := (mi 23).toInt) (b := 10) rfl (by decide +kernel) c_17
              refine lv_iconst (pc := 52) (v := (-1)) E.1 E.2.1 dX11_house_52 (by decide +kernel) ?_
              exact em_i (w1 := (fun (u : (Nat → Int32) × (Nat → Nat → Int32) × (Nat → Nat → Int64)) => (WZ_LhouseN cI cJ mv mr u.1 u.2.1 u.2.2))) E hr hlk (mi, mf, mg) hw12 ⟨h0.1, h0.2, h1.1, h1.2, h2.1, h2.2, h3.1, h3.2, rfl, (show HST (mi 23).toInt (mi 23).toInt (mf 18) (mf 18) z_place z_people.toInt z_oil.toInt from (Or.inr ⟨fun h => by obtain ⟨⟨h1, h2⟩, ⟨h3, h4⟩, h5, -⟩ := h; omega, rfl, rfl⟩))⟩ (Nat.le_of_ble_eq_true rfl) (Nat.le_of_ble_eq_true rfl) dX11_house_53
          · skip
            have hc_16 := eqE (a := r_10.toInt) (b := 0) rfl (by decide +kernel) c_16
            refine lv_iconst (pc := 40) (v := (-1)) E.1 E.2.1 dX11_house_40 (by decide +kernel) ?_
            exact em_i (w1 := (fun (u : (Nat → Int32) × (Nat → Nat → Int32) × (Nat → Nat → Int64)) => (WZ_LhouseN cI cJ mv mr u.1 u.2.1 u.2.2))) E hr hlk (mi, mf, mg) hw12 ⟨h0.1, h0.2, h1.1, h1.2, h2.1, h2.2, h3.1, h3.2, rfl, (show HST (mi 23).toInt (mi 23).toInt (mf 18) (mf 18) z_place z_people.toInt z_oil.toInt from (Or.inr ⟨fun h => by have q := congrArg Int32.toInt (hp_15.mpr h.2.2.2); have k1 : (1 : Int32).toInt = 1 := (by decide +kernel); omega, rfl, rfl⟩))⟩ (Nat.le_of_ble_eq_true rfl) (Nat.le_of_ble_eq_true rfl) dX11_house_41
