set_option maxHeartbeats 4000000 in
set_option maxRecDepth 100000 in
theorem t_friendsP (l : Launch) (D : va_G) (cI cJ : ClassId) (sz : Nat) (mr : Nat → Nat) (mi : Nat → Int32) (mf : Nat → Nat → Int32) (mg : Nat → Nat → Int64) (z_a : Int32) (z_b : Int32) (z_are : Int32) (mv : Nat → Value) (h0 : 0 ≤ (mi 1).toInt ∧ (mi 1).toInt ≤ 5) (h1 : 0 ≤ (mi 2).toInt ∧ (mi 2).toInt ≤ 6) (h2 : 0 ≤ (mi 14).toInt ∧ (mi 14).toInt ≤ 10) : Met l yX11_friends (Cond.code yX11_friends cX11_friends 5 (some .boolean) :: GW) ({ frames := 11, cells := 0, slots := 0, locals := 263 } : Room) (va_Pc [.ref (mr 0), .int z_a, .int z_b, .int z_are] (PW D cI cJ sz (WZ_LfrP cI cJ mv mr mi mf mg) xT)) (va_Qi (fun (r : Int32) (u : (Nat → Int32) × (Nat → Nat → Int32) × (Nat → Nat → Int64)) => (0 ≤ (u.1 1).toInt) ∧ ((u.1 1).toInt ≤ 5) ∧ (0 ≤ (u.1 2).toInt) ∧ ((u.1 2).toInt ≤ 6) ∧ (0 ≤ (u.1 14).toInt) ∧ ((u.1 14).toInt ≤ 10) ∧ ((u.1 14).toInt = (mi 14).toInt) ∧ ((Eq (mf 9)) (u.2.1 9)) ∧ (((FRDC (mi 14).toInt z_a.toInt z_b.toInt ∧ (u.2.1 13) = fru (mf 13) z_a z_b z_are) ∨ (¬ FRDC (mi 14).toInt z_a.toInt z_b.toInt ∧ (u.2.1 13) = (mf 13))))) (fun u => QW D cI cJ (va_A (WZ_LfrP cI cJ mv mr mi mf mg) sz) ((fun (u : (Nat → Int32) × (Nat → Nat → Int32) × (Nat → Nat → Int64)) => (WZ_LfrP cI cJ mv mr u.1 u.2.1 u.2.2)) u)) (va_A (WZ_LfrP cI cJ mv mr mi mf mg) sz)) 0 0 (va_A (WZ_LfrP cI cJ mv mr mi mf mg) sz) := by
  refine mk_met (y := yX11_friends) (bytes := cX11_friends) (maxL := 5) (avs := [.ref (mr 0), .int z_a, .int z_b, .int z_are]) (WS := (WZ_LfrP cI cJ mv mr mi mf mg)) (Qf := fun A => va_Qi (fun (r : Int32) (u : (Nat → Int32) × (Nat → Nat → Int32) × (Nat → Nat → Int64)) => (0 ≤ (u.1 1).toInt) ∧ ((u.1 1).toInt ≤ 5) ∧ (0 ≤ (u.1 2).toInt) ∧ ((u.1 2).toInt ≤ 6) ∧ (0 ≤ (u.1 14).toInt) ∧ ((u.1 14).toInt ≤ 10) ∧ ((u.1 14).toInt = (mi 14).toInt) ∧ ((Eq (mf 9)) (u.2.1 9)) ∧ (((FRDC (mi 14).toInt z_a.toInt z_b.toInt ∧ (u.2.1 13) = fru (mf 13) z_a z_b z_are) ∨ (¬ FRDC (mi 14).toInt z_a.toInt z_b.toInt ∧ (u.2.1 13) = (mf 13))))) (fun u => QW D cI cJ A ((fun (u : (Nat → Int32) × (Nat → Nat → Int32) × (Nat → Nat → Int64)) => (WZ_LfrP cI cJ mv mr u.1 u.2.1 u.2.2)) u)) A) (by decide) (Nat.le_of_ble_eq_true rfl) ?_
  intro p e s m below meth c A ls E hr hlk hnm hX hw1 hl2
  have hl3 : lv_has ls 5 [(0, .ref (mr 0)), (1, .int z_a), (2, .int z_b), (3, .int z_are)] := hl2
  refine lv_aload_n (pc := 0) E.1 E.2.1 dX11_friends_0 rfl (lv_at hl3 0 rfl) ?_
  refine x_get (pc := 1) (T := TX11) (N := 13) (ci := 11) (v := .ref (mr 3)) E hw1 inX11 0 0 q_606 rfl rfl (by decide) rfl rfl dX11_friends_1 ?_
  refine x_get (pc := 4) (T := TX10) (N := 17) (ci := 10) (v := .ref (mr 8)) E hw1 inX10 1 1 q_463 rfl rfl (by decide) rfl rfl dX11_friends_4 ?_
  refine lv_astore (pc := 7) (lv' := [(4, .ref (mr 8)), (0, .ref (mr 0)), (1, .int z_a), (2, .int z_b), (3, .int z_are)]) E.1 E.2.1 dX11_friends_7 hl3 (by decide) rfl (fun ls hl4 => ?_)
  refine lv_aload (pc := 9) E.1 E.2.1 dX11_friends_9 (lv_at hl4 0 rfl) ?_
  refine lv_iload_n (pc := 11) E.1 E.2.1 dX11_friends_11 rfl (lv_at hl4 2 rfl) ?_
  refine ck_i (pc := 12) (ws' := (fun (u : Unit) => (WZ_LfrP cI cJ mv mr mi mf mg))) [false, false, true, true, true, true, true, true, true, true, false] hw1 rfl (fun hC_ => (rn_V (As := [.int z_a]) (rest := []) E hw1 (t_has l D cI cJ _ (shf 8 mr) (shf 8 mi) (shf 8 mf) (shf 8 mg) z_a (vl [mv 21])) (gdV q_674 q_675 q_676 q_154 q_677) hdV_X1_has ⟨rfl, rfl⟩ ⟨(Nat.le_of_ble_eq_true rfl), (Nat.le_of_ble_eq_true rfl)⟩ ⟨(Nat.le_of_ble_eq_true rfl), (Nat.le_of_ble_eq_true rfl)⟩ xT_b xT_at 2 1 rfl rfl rfl _ hC_ (nd_T _ 0) rfl hl4.1 rfl (Nat.le_of_ble_eq_true rfl) dX11_friends_12)) rfl (fun _ => rfl) (fun _ => rfl) (fun r_6 u_5 H1 locs hp hw7 => ?_)
  generalize H1 = H at hw7 ⊢
  have hw8 : WD D A s.heap (WZ_LfrP cI cJ mv mr mi mf mg) H locs := hw7
  have hp_9 := hp
  rcases hp_9 with ⟨rfl, ha_10, ha_11, ha_12⟩ | ⟨rfl, ha_13⟩ | ⟨rfl, ha_14⟩ | ⟨rfl, ha_15⟩
  · skip
    have ha_10 : 0 ≤ z_a.toInt := ha_10
    have ha_11 : z_a.toInt + 1 ≤ (mi 14).toInt := ha_11
    have ha_12 : z_a.toInt ≤ 9 := ha_12
    refine lv_if_eq (pc := 15) (tgt := 32) E.1 E.2.1 dX11_friends_15 (by decide) (fun c_16 => absurd c_16 (mneE (a := 1) (b := 0) (by decide +kernel) (by decide +kernel) (by omega))) (fun _ => ?_)
    refine lv_aload (pc := 18) E.1 E.2.1 dX11_friends_18 (lv_at hl4 0 rfl) ?_
    refine lv_iload_n (pc := 20) E.1 E.2.1 dX11_friends_20 rfl (lv_at hl4 3 rfl) ?_
    refine ck_i (pc := 21) (ws' := (fun (u : Unit) => (WZ_LfrP cI cJ mv mr mi mf mg))) [false, false, true, true, true, true, true, true, true, true, false] hw8 rfl (fun hC_ => (rn_V (As := [.int z_b]) (rest := []) E hw8 (t_has l D cI cJ _ (shf 8 mr) (shf 8 mi) (shf 8 mf) (shf 8 mg) z_b (vl [mv 21])) (gdV q_674 q_675 q_676 q_154 q_677) hdV_X1_has ⟨rfl, rfl⟩ ⟨(Nat.le_of_ble_eq_true rfl), (Nat.le_of_ble_eq_true rfl)⟩ ⟨(Nat.le_of_ble_eq_true rfl), (Nat.le_of_ble_eq_true rfl)⟩ xT_b xT_at 2 1 rfl rfl rfl _ hC_ (nd_T _ 0) rfl hl4.1 rfl (Nat.le_of_ble_eq_true rfl) dX11_friends_21)) rfl (fun _ => rfl) (fun _ => rfl) (fun r_18 u_17 H1 locs hp hw19 => ?_)
    generalize H1 = H at hw19 ⊢
    have hw20 : WD D A s.heap (WZ_LfrP cI cJ mv mr mi mf mg) H locs := hw19
    have hp_21 := hp
    rcases hp_21 with ⟨rfl, ha_22, ha_23, ha_24⟩ | ⟨rfl, ha_25⟩ | ⟨rfl, ha_26⟩ | ⟨rfl, ha_27⟩
    · skip
      have ha_22 : 0 ≤ z_b.toInt := ha_22
      have ha_23 : z_b.toInt + 1 ≤ (mi 14).toInt := ha_23
      have ha_24 : z_b.toInt ≤ 9 := ha_24
      refine lv_if_eq (pc := 24) (tgt := 32) E.1 E.2.1 dX11_friends_24 (by decide) (fun c_28 => absurd c_28 (mneE (a := 1) (b := 0) (by decide +kernel) (by decide +kernel) (by omega))) (fun _ => ?_)
      refine lv_iload_n (pc := 27) E.1 E.2.1 dX11_friends_27 rfl (lv_at hl4 2 rfl) ?_
      refine lv_iload_n (pc := 28) E.1 E.2.1 dX11_friends_28 rfl (lv_at hl4 3 rfl) ?_
      refine lv_icmp_ne (pc := 29) (tgt := 34) E.1 E.2.1 dX11_friends_29 (by decide) (fun c_29 => ?_) (fun c_29 => ?_)
      · skip
        have hc_29 := neE (a := z_a.toInt) (b := z_b.toInt) rfl rfl c_29
        refine lv_aload (pc := 34) E.1 E.2.1 dX11_friends_34 (lv_at hl4 0 rfl) ?_
        refine lv_iload_n (pc := 36) E.1 E.2.1 dX11_friends_36 rfl (lv_at hl4 2 rfl) ?_
        refine lv_iload_n (pc := 37) E.1 E.2.1 dX11_friends_37 rfl (lv_at hl4 3 rfl) ?_
        refine lv_iload_n (pc := 38) E.1 E.2.1 dX11_friends_38 rfl (lv_at hl4 4 rfl) ?_
        refine ck_v (pc := 39) (ws' := (fun (u : (Nat → Int32)) => (WZ_LfrP cI cJ mv mr mi (va_up mf 13 u) mg))) [false, false, true, true, true, true, true, true, true, true, false] hw20 rfl (fun hC_ => (rn_V (As := [.int z_a, .int z_b, .int z_are]) (rest := []) E hw20 (t_befriendK l D cI cJ _ (shf 8 mr) (shf 8 mi) (shf 8 mf) (shf 8 mg) z_a z_b z_are (vl [mv 21]) (by show 0 ≤ z_a.toInt ∧ z_a.toInt ≤ 9; omega)) (gdV q_690 q_691 q_692 q_154 q_693) hdV_X1_befriend ⟨rfl, rfl⟩ ⟨(Nat.le_of_ble_eq_true rfl), (Nat.le_of_ble_eq_true rfl)⟩ ⟨(Nat.le_of_ble_eq_true rfl), (Nat.le_of_ble_eq_true rfl)⟩ xT_b xT_at 2 1 rfl rfl rfl _ hC_ (nd_T _ 0) rfl hl4.1 rfl (Nat.le_of_ble_eq_true rfl) dX11_friends_39)) rfl (fun _ => rfl) (fun _ => rfl) (fun u_30 H1 locs hp hw32 => ?_)
        obtain ⟨gfriendSet_33, rfl⟩ : ∃ z, z = u_30 := ⟨_, rfl⟩
        generalize H1 = H at hw32 ⊢
        have hw34 : WD D A s.heap (WZ_LfrP cI cJ mv mr mi (va_up mf 13 gfriendSet_33) mg) H locs := hw32
        have hp_35 := hp
        have hp_35 : BF1 (mf 13) gfriendSet_33 z_a z_b z_are := hp_35
        refine lv_aload (pc := 42) E.1 E.2.1 dX11_friends_42 (lv_at hl4 0 rfl) ?_
        refine lv_iload_n (pc := 44) E.1 E.2.1 dX11_friends_44 rfl (lv_at hl4 3 rfl) ?_
        refine lv_iload_n (pc := 45) E.1 E.2.1 dX11_friends_45 rfl (lv_at hl4 2 rfl) ?_
        refine lv_iload_n (pc := 46) E.1 E.2.1 dX11_friends_46 rfl (lv_at hl4 4 rfl) ?_
        refine ck_v (pc := 47) (ws' := (fun (u : (Nat → Int32)) => (WZ_LfrP cI cJ mv mr mi (va_up mf 13 u) mg))) [false, false, true, true, true, true, true, true, true, true, false] hw34 rfl (fun hC_ => (rn_V (As := [.int z_b, .int z_a, .int z_are]) (rest := []) E hw34 (t_befriendK l D cI cJ _ (shf 8 mr) (shf 8 mi) (shf 8 (va_up mf 13 gfriendSet_33)) (shf 8 mg) z_b z_a z_are (vl [mv 21]) (by show 0 ≤ z_b.toInt ∧ z_b.toInt ≤ 9; omega)) (gdV q_690 q_691 q_692 q_154 q_693) hdV_X1_befriend ⟨rfl, rfl⟩ ⟨(Nat.le_of_ble_eq_true rfl), (Nat.le_of_ble_eq_true rfl)⟩ ⟨(Nat.le_of_ble_eq_true rfl), (Nat.le_of_ble_eq_true rfl)⟩ xT_b xT_at 2 1 rfl rfl rfl _ hC_ (nd_T _ 0) rfl hl4.1 rfl (Nat.le_of_ble_eq_true rfl) dX11_friends_47)) rfl (fun _ => rfl) (fun _ => rfl) (fun u_36 H1 locs hp hw38 => ?_)
        obtain ⟨gfriendSet_39, rfl⟩ : ∃ z, z = u_36 := ⟨_, rfl⟩
        generalize H1 = H at hw38 ⊢
        have hw40 : WD D A s.heap (WZ_LfrP cI cJ mv mr mi (va_up mf 13 gfriendSet_39) mg) H locs := hw38
        have hp_41 := hp
        have hp_41 : BF1 gfriendSet_33 gfriendSet_39 z_b z_a z_are := hp_41
        refine lv_aload_n (pc := 50) E.1 E.2.1 dX11_friends_50 rfl (lv_at hl4 1 rfl) ?_
        refine ck_v (pc := 51) (ws' := (fun (u : Int32 × Int32 × Int32) => (WZ_LfrP cI cJ mv mr (upd (upd (upd mi 1 u.1) 2 u.2.1) 18 u.2.2) (va_up mf 13 gfriendSet_39) mg))) [true, false, false, false, false, false, false, false, false, false, true] hw40 rfl (fun hC_ => (rn_V (As := []) (rest := []) E hw40 (t_forgetNightsP l D cI cJ _ (shg 3 0 14 mr) (shg 3 0 14 mi) (shg 3 0 14 (va_up mf 13 gfriendSet_39)) (shg 3 0 14 mg) (vl [.ref (mr 3), mv 0, mv 1, mv 2, mv 3, mv 4, mv 5, mv 6, mv 7, mv 8, mv 22, mv 23, mv 24, mv 25, mv 26, mv 27])) (gdV q_650 q_652 q_0 q_151 q_653) hdV_X11_forgetNights ⟨rfl, rfl⟩ ⟨(Nat.le_of_ble_eq_true rfl), (Nat.le_of_ble_eq_true rfl)⟩ ⟨(Nat.le_of_ble_eq_true rfl), (Nat.le_of_ble_eq_true rfl)⟩ xT_b xT_at 0 11 rfl rfl rfl _ hC_ (nd_T _ 0) rfl hl4.1 rfl (Nat.le_of_ble_eq_true rfl) dX11_friends_51)) rfl (fun _ => rfl) (fun _ => rfl) (fun u_42 H1 locs hp hw44 => ?_)
        obtain ⟨noldest_45, nundoable_46, nplplanned_47⟩ := u_42
        generalize H1 = H at hw44 ⊢
        have hw48 : WD D A s.heap (WZ_LfrP cI cJ mv mr (upd (upd (upd mi 1 noldest_45) 2 nundoable_46) 18 nplplanned_47) (va_up mf 13 gfriendSet_39) mg) H locs := hw44
        obtain ⟨hp_49, hp_50⟩ := hp
        have hp_49 : noldest_45.toInt = 0 := hp_49
        have hp_50 : nundoable_46.toInt = 0 := hp_50
        refine lv_iconst (pc := 54) (v := 1) E.1 E.2.1 dX11_friends_54 (by decide +kernel) ?_
        exact em_z (w1 := (fun (u : (Nat → Int32) × (Nat → Nat → Int32) × (Nat → Nat → Int64)) => (WZ_LfrP cI cJ mv mr u.1 u.2.1 u.2.2))) E hr hlk ((upd (upd (upd mi 1 noldest_45) 2 nundoable_46) 18 nplplanned_47), (va_up mf 13 gfriendSet_39), mg) hw48 ⟨(by show 0 ≤ noldest_45.toInt; have k_0 : (1 : Int32).toInt = 1 := (by decide +kernel); omega), (by show noldest_45.toInt ≤ 5; have k_0 : (1 : Int32).toInt = 1 := (by decide +kernel); omega), (by show 0 ≤ nundoable_46.toInt; have k_0 : (1 : Int32).toInt = 1 := (by decide +kernel); omega), (by show nundoable_46.toInt ≤ 6; have k_0 : (1 : Int32).toInt = 1 := (by decide +kernel); omega), h2.1, h2.2, rfl, rfl, (show ((FRDC (mi 14).toInt z_a.toInt z_b.toInt ∧ gfriendSet_39 = fru (mf 13) z_a z_b z_are) ∨ (¬ FRDC (mi 14).toInt z_a.toInt z_b.toInt ∧ gfriendSet_39 = (mf 13))) from (Or.inl ⟨⟨⟨by omega, by omega⟩, ⟨by omega, by omega⟩, by omega⟩, bf_2 hp_35 hp_41 (by omega) (by omega) (by omega)⟩))⟩ (by decide +kernel) (Nat.le_of_ble_eq_true rfl) (Nat.le_of_ble_eq_true rfl) dX11_friends_55
      · skip
        have hc_29 := eqE (a := z_a.toInt) (b := z_b.toInt) rfl rfl c_29
        refine lv_iconst (pc := 32) (v := 0) E.1 E.2.1 dX11_friends_32 (by decide +kernel) ?_
        exact em_z (w1 := (fun (u : (Nat → Int32) × (Nat → Nat → Int32) × (Nat → Nat → Int64)) => (WZ_LfrP cI cJ mv mr u.1 u.2.1 u.2.2))) E hr hlk (mi, mf, mg) hw20 ⟨h0.1, h0.2, h1.1, h1.2, h2.1, h2.2, rfl, rfl, (show ((FRDC (mi 14).toInt z_a.toInt z_b.toInt ∧ (mf 13) = fru (mf 13) z_a z_b z_are) ∨ (¬ FRDC (mi 14).toInt z_a.toInt z_b.toInt ∧ (mf 13) = (mf 13))) from (Or.inr ⟨fun h => by obtain ⟨⟨h1, h2⟩, ⟨h3, h4⟩, h5⟩ := h; omega, rfl⟩))⟩ (by decide +kernel) (Nat.le_of_ble_eq_true rfl) (Nat.le_of_ble_eq_true rfl) dX11_friends_33
    · skip
      have ha_25 : z_b.toInt + 1 ≤ 0 := ha_25
      refine lv_if_eq (pc := 24) (tgt := 32) E.1 E.2.1 dX11_friends_24 (by decide) (fun _ => ?_) (fun c_51 => absurd (meqE (a := 0) (b := 0) (by decide +kernel) (by decide +kernel) (by omega)) c_51)
      refine lv_iconst (pc := 32) (v := 0) E.1 E.2.1 dX11_friends_32 (by decide +kernel) ?_
      exact em_z (w1 := (fun (u : (Nat → Int32) × (Nat → Nat → Int32) × (Nat → Nat → Int64)) => (WZ_LfrP cI cJ mv mr u.1 u.2.1 u.2.2))) E hr hlk (mi, mf, mg) hw20 ⟨h0.1, h0.2, h1.1, h1.2, h2.1, h2.2, rfl, rfl, (show ((FRDC (mi 14).toInt z_a.toInt z_b.toInt ∧ (mf 13) = fru (mf 13) z_a z_b z_are) ∨ (¬ FRDC (mi 14).toInt z_a.toInt z_b.toInt ∧ (mf 13) = (mf 13))) from (Or.inr ⟨fun h => by obtain ⟨⟨h1, h2⟩, ⟨h3, h4⟩, h5⟩ := h; omega, rfl⟩))⟩ (by decide +kernel) (Nat.le_of_ble_eq_true rfl) (Nat.le_of_ble_eq_true rfl) dX11_friends_33
    · skip
      have ha_26 : (mi 14).toInt ≤ z_b.toInt := ha_26
      refine lv_if_eq (pc := 24) (tgt := 32) E.1 E.2.1 dX11_friends_24 (by decide) (fun _ => ?_) (fun c_52 => absurd (meqE (a := 0) (b := 0) (by decide +kernel) (by decide +kernel) (by omega)) c_52)
      refine lv_iconst (pc := 32) (v := 0) E.1 E.2.1 dX11_friends_32 (by decide +kernel) ?_
      exact em_z (w1 := (fun (u : (Nat → Int32) × (Nat → Nat → Int32) × (Nat → Nat → Int64)) => (WZ_LfrP cI cJ mv mr u.1 u.2.1 u.2.2))) E hr hlk (mi, mf, mg) hw20 ⟨h0.1, h0.2, h1.1, h1.2, h2.1, h2.2, rfl, rfl, (show ((FRDC (mi 14).toInt z_a.toInt z_b.toInt ∧ (mf 13) = fru (mf 13) z_a z_b z_are) ∨ (¬ FRDC (mi 14).toInt z_a.toInt z_b.toInt ∧ (mf 13) = (mf 13))) from (Or.inr ⟨fun h => by obtain ⟨⟨h1, h2⟩, ⟨h3, h4⟩, h5⟩ := h; omega, rfl⟩))⟩ (by decide +kernel) (Nat.le_of_ble_eq_true rfl) (Nat.le_of_ble_eq_true rfl) dX11_friends_33
    · skip
      have ha_27 : 10 ≤ z_b.toInt := ha_27
      refine lv_if_eq (pc := 24) (tgt := 32) E.1 E.2.1 dX11_friends_24 (by decide) (fun _ => ?_) (fun c_53 => absurd (meqE (a := 0) (b := 0) (by decide +kernel) (by decide +kernel) (by omega)) c_53)
      refine lv_iconst (pc := 32) (v := 0) E.1 E.2.1 dX11_friends_32 (by decide +kernel) ?_
      exact em_z (w1 := (fun (u : (Nat → Int32) × (Nat → Nat → Int32) × (Nat → Nat → Int64)) => (WZ_LfrP cI cJ mv mr u.1 u.2.1 u.2.2))) E hr hlk (mi, mf, mg) hw20 ⟨h0.1, h0.2, h1.1, h1.2, h2.1, h2.2, rfl, rfl, (show ((FRDC (mi 14).toInt z_a.toInt z_b.toInt ∧ (mf 13) = fru (mf 13) z_a z_b z_are) ∨ (¬ FRDC (mi 14).toInt z_a.toInt z_b.toInt ∧ (mf 13) = (mf 13))) from (Or.inr ⟨fun h => by obtain ⟨⟨h1, h2⟩, ⟨h3, h4⟩, h5⟩ := h; omega, rfl⟩))⟩ (by decide +kernel) (Nat.le_of_ble_eq_true rfl) (Nat.le_of_ble_eq_true rfl) dX11_friends_33
  · skip
    have ha_13 : z_a.toInt + 1 ≤ 0 := ha_13
    refine lv_if_eq (pc := 15) (tgt := 32) E.1 E.2.1 dX11_friends_15 (by decide) (fun _ => ?_) (fun c_54 => absurd (meqE (a := 0) (b := 0) (by decide +kernel) (by decide +kernel) (by omega)) c_54)
    refine lv_iconst (pc := 32) (v := 0) E.1 E.2.1 dX11_friends_32 (by decide +kernel) ?_
    exact em_z (w1 := (fun (u : (Nat → Int32) × (Nat → Nat → Int32) × (Nat → Nat → Int64)) => (WZ_LfrP cI cJ mv mr u.1 u.2.1 u.2.2))) E hr hlk (mi, mf, mg) hw8 ⟨h0.1, h0.2, h1.1, h1.2, h2.1, h2.2, rfl, rfl, (show ((FRDC (mi 14).toInt z_a.toInt z_b.toInt ∧ (mf 13) = fru (mf 13) z_a z_b z_are) ∨ (¬ FRDC (mi 14).toInt z_a.toInt z_b.toInt ∧ (mf 13) = (mf 13))) from (Or.inr ⟨fun h => by obtain ⟨⟨h1, h2⟩, ⟨h3, h4⟩, h5⟩ := h; omega, rfl⟩))⟩ (by decide +kernel) (Nat.le_of_ble_eq_true rfl) (Nat.le_of_ble_eq_true rfl) dX11_friends_33
  · skip
    have ha_14 : (mi 14).toInt ≤ z_a.toInt := ha_14
    refine lv_if_eq (pc := 15) (tgt := 32) E.1 E.2.1 dX11_friends_15 (by decide) (fun _ => ?_) (fun c_55 => absurd (meqE (a := 0) (b := 0) (by decide +kernel) (by decide +kernel) (by omega)) c_55)
    refine lv_iconst (pc := 32) (v := 0) E.1 E.2.1 dX11_friends_32 (by decide +kernel) ?_
    exact em_z (w1 := (fun (u : (Nat → Int32) × (Nat → Nat → Int32) × (Nat → Nat → Int64)) => (WZ_LfrP cI cJ mv mr u.1 u.2.1 u.2.2))) E hr hlk (mi, mf, mg) hw8 ⟨h0.1, h0.2, h1.1, h1.2, h2.1, h2.2, rfl, rfl, (show ((FRDC (mi 14).toInt z_a.toInt z_b.toInt ∧ (mf 13) = fru (mf 13) z_a z_b z_are) ∨ (¬ FRDC (mi 14).toInt z_a.toInt z_b.toInt ∧ (mf 13) = (mf 13))) from (Or.inr ⟨fun h => by obtain ⟨⟨h1, h2⟩, ⟨h3, h4⟩, h5⟩ := h; omega, rfl⟩))⟩ (by decide +kernel) (Nat.le_of_ble_eq_true rfl) (Nat.le_of_ble_eq_true rfl) dX11_friends_33
  · skip
    have ha_15 : 10 ≤ z_a.toInt := ha_15
    refine lv_if_eq (pc := 15) (tgt := 32) E.1 E.2.1 dX11_friends_15 (by decide) (fun _ => ?_) (fun c_56 => absurd (meqE (a := 0) (b := 0) (by decide +kernel) (by decide +kernel) (by omega)) c_56)
    refine lv_iconst (pc := 32) (v := 0) E.1 E.2.1 dX11_friends_32 (by decide +kernel) ?_
    exact em_z (w1 := (fun (u : (Nat → Int32) × (Nat → Nat → Int32) × (Nat → Nat → Int64)) => (WZ_LfrP cI cJ mv mr u.1 u.2.1 u.2.2))) E hr hlk (mi, mf, mg) hw8 ⟨h0.1, h0.2, h1.1, h1.2, h2.1, h2.2, rfl, rfl, (show ((FRDC (mi 14).toInt z_a.toInt z_b.toInt ∧ (mf 13) = fru (mf 13) z_a z_b z_are) ∨ (¬ FRDC (mi 14).toInt z_a.toInt z_b.toInt ∧ (mf 13) = (mf 13))) from (Or.inr ⟨fun h => by obtain ⟨⟨h1, h2⟩, ⟨h3, h4⟩, h5⟩ := h; omega, rfl⟩))⟩ (by decide +kernel) (Nat.le_of_ble_eq_true rfl) (Nat.le_of_ble_eq_true rfl) dX11_friends_33
