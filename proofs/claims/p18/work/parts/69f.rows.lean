set_option maxHeartbeats 4000000 in
set_option maxRecDepth 100000 in
theorem t_setN (l : Launch) (D : va_G) (cI cJ : ClassId) (sz : Nat) (mr : Nat → Nat) (mi : Nat → Int32) (mf : Nat → Nat → Int32) (mg : Nat → Nat → Int64) (z_what : Int32) (z_who : Int32) (z_v : Int32) (t1 t2 : Nat) (mv : Nat → Value) (h0 : 0 ≤ (mi 1).toInt ∧ (mi 1).toInt ≤ 5) (h1 : 0 ≤ (mi 2).toInt ∧ (mi 2).toInt ≤ 6) (h2 : 0 ≤ (mi 24).toInt ∧ (mi 24).toInt ≤ 200) (h3 : 0 ≤ (mi 32).toInt ∧ (mi 32).toInt ≤ 10) (h4 : 0 ≤ (mi 40).toInt ∧ (mi 40).toInt ≤ 40) (h5 : 0 ≤ (mi 49).toInt ∧ (mi 49).toInt ≤ 10) (h6 : 0 ≤ (mi 72).toInt ∧ (mi 72).toInt ≤ 200) (h7 : 0 ≤ (mi 79).toInt ∧ (mi 79).toInt ≤ 8) (a_p_from : p9 (mf 36)) (a_p_to : p9 (mf 37)) (a_t_marks : m4 (mf 53)) (a_u_marks : m4 (mf 63)) : Met l yX11_set (Cond.code yX11_set cX11_set 4 (some .boolean) :: GW) ({ frames := 11, cells := 0, slots := 0, locals := 263 } : Room) (va_Pc [.ref (mr 0), .int z_what, .int z_who, .int z_v] (PW D cI cJ sz (WZ_LVN cI cJ mv mr mi mf mg) (xZ t1 t2 (va_A (WZ_LVN cI cJ mv mr mi mf mg) sz)))) (va_Qi (fun (r : Int32) (u : (Nat → Int32) × (Nat → Nat → Int32) × (Nat → Nat → Int64)) => (0 ≤ (u.1 1).toInt) ∧ ((u.1 1).toInt ≤ 5) ∧ (0 ≤ (u.1 2).toInt) ∧ ((u.1 2).toInt ≤ 6) ∧ (0 ≤ (u.1 24).toInt) ∧ ((u.1 24).toInt ≤ 200) ∧ (0 ≤ (u.1 32).toInt) ∧ ((u.1 32).toInt ≤ 10) ∧ (0 ≤ (u.1 40).toInt) ∧ ((u.1 40).toInt ≤ 40) ∧ (0 ≤ (u.1 49).toInt) ∧ ((u.1 49).toInt ≤ 10) ∧ (0 ≤ (u.1 72).toInt) ∧ ((u.1 72).toInt ≤ 200) ∧ (0 ≤ (u.1 79).toInt) ∧ ((u.1 79).toInt ≤ 8) ∧ ((u.1 32).toInt = (mi 32).toInt) ∧ ((u.1 79).toInt = (mi 79).toInt) ∧ (p9 (u.2.1 36)) ∧ (p9 (u.2.1 37)) ∧ (m4 (u.2.1 53)) ∧ (m4 (u.2.1 63)) ∧ ((Eq (mf 27)) (u.2.1 27)) ∧ ((Eq (mf 31)) (u.2.1 31))) (fun u => QW D cI cJ (va_A (WZ_LVN cI cJ mv mr mi mf mg) sz) ((fun (u : (Nat → Int32) × (Nat → Nat → Int32) × (Nat → Nat → Int64)) => (WZ_LVN cI cJ mv mr u.1 u.2.1 u.2.2)) u)) (va_A (WZ_LVN cI cJ mv mr mi mf mg) sz)) 0 0 (va_A (WZ_LVN cI cJ mv mr mi mf mg) sz) := by
  refine mk_metA (X := fun A => xZ t1 t2 A) (y := yX11_set) (bytes := cX11_set) (maxL := 4) (avs := [.ref (mr 0), .int z_what, .int z_who, .int z_v]) (WS := (WZ_LVN cI cJ mv mr mi mf mg)) (Qf := fun A => va_Qi (fun (r : Int32) (u : (Nat → Int32) × (Nat → Nat → Int32) × (Nat → Nat → Int64)) => (0 ≤ (u.1 1).toInt) ∧ ((u.1 1).toInt ≤ 5) ∧ (0 ≤ (u.1 2).toInt) ∧ ((u.1 2).toInt ≤ 6) ∧ (0 ≤ (u.1 24).toInt) ∧ ((u.1 24).toInt ≤ 200) ∧ (0 ≤ (u.1 32).toInt) ∧ ((u.1 32).toInt ≤ 10) ∧ (0 ≤ (u.1 40).toInt) ∧ ((u.1 40).toInt ≤ 40) ∧ (0 ≤ (u.1 49).toInt) ∧ ((u.1 49).toInt ≤ 10) ∧ (0 ≤ (u.1 72).toInt) ∧ ((u.1 72).toInt ≤ 200) ∧ (0 ≤ (u.1 79).toInt) ∧ ((u.1 79).toInt ≤ 8) ∧ ((u.1 32).toInt = (mi 32).toInt) ∧ ((u.1 79).toInt = (mi 79).toInt) ∧ (p9 (u.2.1 36)) ∧ (p9 (u.2.1 37)) ∧ (m4 (u.2.1 53)) ∧ (m4 (u.2.1 63)) ∧ ((Eq (mf 27)) (u.2.1 27)) ∧ ((Eq (mf 31)) (u.2.1 31))) (fun u => QW D cI cJ A ((fun (u : (Nat → Int32) × (Nat → Nat → Int32) × (Nat → Nat → Int64)) => (WZ_LVN cI cJ mv mr u.1 u.2.1 u.2.2)) u)) A) (by decide) (Nat.le_of_ble_eq_true rfl) ?_
  intro p e s m below meth c A ls E hr hlk hnm hX hw1 hl2
  have hl3 : lv_has ls 4 [(0, .ref (mr 0)), (1, .int z_what), (2, .int z_who), (3, .int z_v)] := hl2
  refine lv_iload_n (pc := 0) E.1 E.2.1 dX11_set_0 rfl (lv_at hl3 1 rfl) ?_
  refine lv_if_lt (pc := 1) (tgt := 20) E.1 E.2.1 dX11_set_1 (by decide) (fun c_4 => ?_) (fun c_4 => ?_)
  · skip
    have hc_4 := ltE (a := z_what.toInt) (b := 0) rfl (by decide +kernel) c_4
    refine lv_iconst (pc := 20) (v := 0) E.1 E.2.1 dX11_set_20 (by decide +kernel) ?_
    exact em_z (w1 := (fun (u : (Nat → Int32) × (Nat → Nat → Int32) × (Nat → Nat → Int64)) => (WZ_LVN cI cJ mv mr u.1 u.2.1 u.2.2))) E hr hlk (mi, mf, mg) hw1 ⟨h0.1, h0.2, h1.1, h1.2, h2.1, h2.2, h3.1, h3.2, h4.1, h4.2, h5.1, h5.2, h6.1, h6.2, h7.1, h7.2, rfl, rfl, a_p_from, a_p_to, a_t_marks, a_u_marks, rfl, rfl⟩ (by decide +kernel) (Nat.le_of_ble_eq_true rfl) (Nat.le_of_ble_eq_true rfl) dX11_set_21
  · skip
    have hc_4 := nltE (a := z_what.toInt) (b := 0) rfl (by decide +kernel) c_4
    refine lv_iload_n (pc := 4) E.1 E.2.1 dX11_set_4 rfl (lv_at hl3 1 rfl) ?_
    refine x_gets (pc := 5) E hw1 hX.1 q_670 rfl dX11_set_5 ?_
    refine x_tlen (pc := 8) E hw1 hX.2.1 (v := 11) (by decide +kernel) dX11_set_8 ?_
    refine lv_icmp_ge (pc := 9) (tgt := 20) E.1 E.2.1 dX11_set_9 (by decide) (fun c_5 => ?_) (fun c_5 => ?_)
    · skip
      have hc_5 := leE (a := 11) (b := z_what.toInt) (by decide +kernel) rfl c_5
      refine lv_iconst (pc := 20) (v := 0) E.1 E.2.1 dX11_set_20 (by decide +kernel) ?_
      exact em_z (w1 := (fun (u : (Nat → Int32) × (Nat → Nat → Int32) × (Nat → Nat → Int64)) => (WZ_LVN cI cJ mv mr u.1 u.2.1 u.2.2))) E hr hlk (mi, mf, mg) hw1 ⟨h0.1, h0.2, h1.1, h1.2, h2.1, h2.2, h3.1, h3.2, h4.1, h4.2, h5.1, h5.2, h6.1, h6.2, h7.1, h7.2, rfl, rfl, a_p_from, a_p_to, a_t_marks, a_u_marks, rfl, rfl⟩ (by decide +kernel) (Nat.le_of_ble_eq_true rfl) (Nat.le_of_ble_eq_true rfl) dX11_set_21
    · skip
      have hc_5 := nleE (a := 11) (b := z_what.toInt) (by decide +kernel) rfl c_5
      refine lv_iload_n (pc := 12) E.1 E.2.1 dX11_set_12 rfl (lv_at hl3 1 rfl) ?_
      refine x_gets (pc := 13) E hw1 hX.2.2.1 q_672 rfl dX11_set_13 ?_
      refine x_tlen (pc := 16) E hw1 hX.2.2.2 (v := 11) (by decide +kernel) dX11_set_16 ?_
      refine lv_icmp_lt (pc := 17) (tgt := 22) E.1 E.2.1 dX11_set_17 (by decide) (fun _ => ?_) (fun c_6 => absurd (mltE (a := z_what.toInt) (b := 11) rfl (by decide +kernel) (by omega)) c_6)
      refine lv_iload_n (pc := 22) E.1 E.2.1 dX11_set_22 rfl (lv_at hl3 3 rfl) ?_
      refine x_gets (pc := 23) E hw1 hX.1 q_670 rfl dX11_set_23 ?_
      refine lv_iload_n (pc := 26) E.1 E.2.1 dX11_set_26 rfl (lv_at hl3 1 rfl) ?_
      obtain ⟨v_7, ev_7⟩ : ∃ z : Int32, f_least z_what.toNatClampNeg = .int z := ⟨_, rfl⟩
      refine x_ti (pc := 27) E hw1 hX.2.1 (inbE (a := z_what.toInt) rfl (by omega)) ev_7 dX11_set_27 ?_
      refine lv_icmp_lt (pc := 28) (tgt := 40) E.1 E.2.1 dX11_set_28 (by decide) (fun c_8 => ?_) (fun c_8 => ?_)
      · skip
        have hc_8 := ltE (a := z_v.toInt) (b := v_7.toInt) rfl rfl c_8
        refine lv_iconst (pc := 40) (v := 0) E.1 E.2.1 dX11_set_40 (by decide +kernel) ?_
        exact em_z (w1 := (fun (u : (Nat → Int32) × (Nat → Nat → Int32) × (Nat → Nat → Int64)) => (WZ_LVN cI cJ mv mr u.1 u.2.1 u.2.2))) E hr hlk (mi, mf, mg) hw1 ⟨h0.1, h0.2, h1.1, h1.2, h2.1, h2.2, h3.1, h3.2, h4.1, h4.2, h5.1, h5.2, h6.1, h6.2, h7.1, h7.2, rfl, rfl, a_p_from, a_p_to, a_t_marks, a_u_marks, rfl, rfl⟩ (by decide +kernel) (Nat.le_of_ble_eq_true rfl) (Nat.le_of_ble_eq_true rfl) dX11_set_41
      · skip
        have hc_8 := nltE (a := z_v.toInt) (b := v_7.toInt) rfl rfl c_8
        refine lv_iload_n (pc := 31) E.1 E.2.1 dX11_set_31 rfl (lv_at hl3 3 rfl) ?_
        refine x_gets (pc := 32) E hw1 hX.2.2.1 q_672 rfl dX11_set_32 ?_
        refine lv_iload_n (pc := 35) E.1 E.2.1 dX11_set_35 rfl (lv_at hl3 1 rfl) ?_
        obtain ⟨v_9, ev_9⟩ : ∃ z : Int32, f_most z_what.toNatClampNeg = .int z := ⟨_, rfl⟩
        refine x_ti (pc := 36) E hw1 hX.2.2.2 (inbE (a := z_what.toInt) rfl (by omega)) ev_9 dX11_set_36 ?_
        refine lv_icmp_le (pc := 37) (tgt := 42) E.1 E.2.1 dX11_set_37 (by decide) (fun c_10 => ?_) (fun c_10 => ?_)
        · skip
          have hc_10 := leE (a := z_v.toInt) (b := v_9.toInt) rfl rfl c_10
          refine lv_iload_n (pc := 42) E.1 E.2.1 dX11_set_42 rfl (lv_at hl3 1 rfl) ?_
          refine lv_iconst (pc := 43) (v := 5) E.1 E.2.1 dX11_set_43 (by decide +kernel) ?_
          refine lv_icmp_ne (pc := 44) (tgt := 63) E.1 E.2.1 dX11_set_44 (by decide) (fun c_11 => ?_) (fun c_11 => ?_)
          · skip
            have hc_11 := neE (a := z_what.toInt) (b := 5) rfl (by decide +kernel) c_11
            refine lv_iload_n (pc := 63) E.1 E.2.1 dX11_set_63 rfl (lv_at hl3 1 rfl) ?_
            refine lv_iconst (pc := 64) (v := 5) E.1 E.2.1 dX11_set_64 (by decide +kernel) ?_
            refine lv_icmp_le (pc := 65) (tgt := 84) E.1 E.2.1 dX11_set_65 (by decide) (fun c_12 => ?_) (fun c_12 => ?_)
            · skip
              have hc_12 := leE (a := z_what.toInt) (b := 5) rfl (by decide +kernel) c_12
              refine lv_iload_n (pc := 84) E.1 E.2.1 dX11_set_84 rfl (lv_at hl3 1 rfl) ?_
              refine lv_iconst (pc := 85) (v := 5) E.1 E.2.1 dX11_set_85 (by decide +kernel) ?_
              refine lv_icmp_le (pc := 86) (tgt := 102) E.1 E.2.1 dX11_set_86 (by decide) (fun _ => ?_) (fun c_13 => absurd (mleE (a := z_what.toInt) (b := 5) rfl (by decide +kernel) (by omega)) c_13)
              refine lv_aload_n (pc := 102) E.1 E.2.1 dX11_set_102 rfl (lv_at hl3 0 rfl) ?_
              refine x_get (pc := 103) (T := TX11) (N := 13) (ci := 11) (v := .ref (mr 3)) E hw1 inX11 0 0 q_606 rfl rfl (by decide) rfl rfl dX11_set_103 ?_
              refine lv_iload_n (pc := 106) E.1 E.2.1 dX11_set_106 rfl (lv_at hl3 1 rfl) ?_
              refine lv_iload_n (pc := 107) E.1 E.2.1 dX11_set_107 rfl (lv_at hl3 3 rfl) ?_
              refine ck_v (pc := 108) (ws' := (fun (u : Int32 × Int32 × Int32 × Int32 × Int32 × Int32) => (WZ_LVN cI cJ mv mr (upd (upd (upd (upd (upd (upd mi 5 u.2.1) 6 u.2.2.1) 7 u.2.2.2.1) 8 u.2.2.2.2.1) 20 u.2.2.2.2.2) 22 u.1) mf mg))) [false, true, true, true, true, true, true, true, true, true, true, true, true, true, true, true, true, true, true, true, true, true, true, true, true, true, true, true, true, true, true, true, true, true, true, true, true, true, true, true, true, true, true, true, true, true, true, true, true, true, true] hw1 rfl (fun hC_ => (rn_V (As := [.int z_what, .int z_v]) (rest := []) E hw1 (t_tellOfAll l D cI cJ _ (shf 3 mr) (shf 3 mi) (shf 3 mf) (shf 3 mg) z_what z_v (vl [mv 9])) (gdV q_682 q_683 q_684 q_152 q_685) hdV_X10_tellOfAll ⟨rfl, rfl⟩ ⟨(Nat.le_of_ble_eq_true rfl), (Nat.le_of_ble_eq_true rfl)⟩ ⟨(Nat.le_of_ble_eq_true rfl), (Nat.le_of_ble_eq_true rfl)⟩ xT_b xT_at 1 10 rfl rfl rfl _ hC_ (nd_T _ 0) rfl hl3.1 rfl (Nat.le_of_ble_eq_true rfl) dX11_set_108)) rfl (fun _ => rfl) (fun _ => rfl) (fun u_14 H1 locs hp hw16 => ?_)
              obtain ⟨nnsnow_17, nflakes_18, nmargin_19, ndusk_20, ndue_21, nnlamp_22⟩ := u_14
              generalize H1 = H at hw16 ⊢
              have hw23 : WD D A s.heap (WZ_LVN cI cJ mv mr (upd (upd (upd (upd (upd (upd mi 5 nflakes_18) 6 nmargin_19) 7 ndusk_20) 8 ndue_21) 20 nnlamp_22) 22 nnsnow_17) mf mg) H locs := hw16
              refine lv_aload_n (pc := 111) E.1 E.2.1 dX11_set_111 rfl (lv_at hl3 0 rfl) ?_
              refine ck_v (pc := 112) (ws' := (fun (u : Int32 × Int32) => (WZ_LVN cI cJ mv mr (upd (upd (upd (upd (upd (upd (upd (upd mi 1 u.1) 2 u.2) 5 nflakes_18) 6 nmargin_19) 7 ndusk_20) 8 ndue_21) 20 nnlamp_22) 22 nnsnow_17) mf mg))) [true, false, false, false, false, false, false, false, false, false, false, false, false, false, false, false, false, false, false, false, false, false, false, false, false, false, false, false, false, false, false, false, false, false, false, false, false, false, false, false, false, false, false, false, false, false, false, false, false, false, false] hw23 rfl (fun hC_ => (rn_V (As := []) (rest := []) E hw23 (t_forgetNightsN l D cI cJ _ mr (upd (upd (upd (upd (upd (upd mi 5 nflakes_18) 6 nmargin_19) 7 ndusk_20) 8 ndue_21) 20 nnlamp_22) 22 nnsnow_17) mf mg (vl [.ref (mr 3), mv 0, mv 1, mv 2, mv 3, mv 4, mv 5, mv 6, mv 7, mv 8])) (gdV q_650 q_652 q_0 q_151 q_653) hdV_X11_forgetNights ⟨rfl, rfl⟩ ⟨(Nat.le_of_ble_eq_true rfl), (Nat.le_of_ble_eq_true rfl)⟩ ⟨(Nat.le_of_ble_eq_true rfl), (Nat.le_of_ble_eq_true rfl)⟩ xT_b xT_at 0 11 rfl rfl rfl _ hC_ (nd_T _ 0) rfl hl3.1 rfl (Nat.le_of_ble_eq_true rfl) dX11_set_112)) rfl (fun _ => rfl) (fun _ => rfl) (fun u_24 H1 locs hp hw26 => ?_)
              obtain ⟨noldest_27, nundoable_28⟩ := u_24
              generalize H1 = H at hw26 ⊢
              have hw29 : WD D A s.heap (WZ_LVN cI cJ mv mr (upd (upd (upd (upd (upd (upd (upd (upd mi 1 noldest_27) 2 nundoable_28) 5 nflakes_18) 6 nmargin_19) 7 ndusk_20) 8 ndue_21) 20 nnlamp_22) 22 nnsnow_17) mf mg) H locs := hw26
              obtain ⟨hp_30, hp_31⟩ := hp
              have hp_30 : noldest_27.toInt = 0 := hp_30
              have hp_31 : nundoable_28.toInt = 0 := hp_31
              refine lv_iconst (pc := 115) (v := 1) E.1 E.2.1 dX11_set_115 (by decide +kernel) ?_
              exact em_z (w1 := (fun (u : (Nat → Int32) × (Nat → Nat → Int32) × (Nat → Nat → Int64)) => (WZ_LVN cI cJ mv mr u.1 u.2.1 u.2.2))) E hr hlk ((upd (upd (upd (upd (upd (upd (upd (upd mi 1 noldest_27) 2 nundoable_28) 5 nflakes_18) 6 nmargin_19) 7 ndusk_20) 8 ndue_21) 20 nnlamp_22) 22 nnsnow_17), mf, mg) hw29 ⟨(by show 0 ≤ noldest_27.toInt; have k_0 : (1 : Int32).toInt = 1 := (by decide +kernel); omega), (by show noldest_27.toInt ≤ 5; have k_0 : (1 : Int32).toInt = 1 := (by decide +kernel); omega), (by show 0 ≤ nundoable_28.toInt; have k_0 : (1 : Int32).toInt = 1 := (by decide +kernel); omega), (by show nundoable_28.toInt ≤ 6; have k_0 : (1 : Int32).toInt = 1 := (by decide +kernel); omega), h2.1, h2.2, h3.1, h3.2, h4.1, h4.2, h5.1, h5.2, h6.1, h6.2, h7.1, h7.2, rfl, rfl, a_p_from, a_p_to, a_t_marks, a_u_marks, rfl, rfl⟩ (by decide +kernel) (Nat.le_of_ble_eq_true rfl) (Nat.le_of_ble_eq_true rfl) dX11_set_116
            · skip
              have hc_12 := nleE (a := z_what.toInt) (b := 5) rfl (by decide +kernel) c_12
              refine lv_aload_n (pc := 68) E.1 E.2.1 dX11_set_68 rfl (lv_at hl3 0 rfl) ?_
              refine x_get (pc := 69) (T := TX11) (N := 13) (ci := 11) (v := .ref (mr 3)) E hw1 inX11 0 0 q_606 rfl rfl (by decide) rfl rfl dX11_set_69 ?_
              refine x_get (pc := 72) (T := TX10) (N := 17) (ci := 10) (v := .ref (mr 26)) E hw1 inX10 1 1 q_463 rfl rfl (by decide) rfl rfl dX11_set_72 ?_
              refine lv_iload_n (pc := 75) E.1 E.2.1 dX11_set_75 rfl (lv_at hl3 2 rfl) ?_
              refine ck_i (pc := 76) (ws' := (fun (u : Unit) => (WZ_LVN cI cJ mv mr mi mf mg))) [false, false, false, false, false, false, false, false, false, false, false, false, false, true, true, true, true, true, true, true, true, false, false, false, false, false, false, false, false, false, false, false, false, false, false, false, false, false, false, false, false, false, false, false, false, false, false, false, false, false, false] hw1 rfl (fun hC_ => (rn_V (As := [.int z_who]) (rest := []) E hw1 (t_has l D cI cJ _ (shf 26 mr) (shf 26 mi) (shf 26 mf) (shf 26 mg) z_who (vl [mv 9])) (gdV q_674 q_675 q_676 q_154 q_677) hdV_X1_has ⟨rfl, rfl⟩ ⟨(Nat.le_of_ble_eq_true rfl), (Nat.le_of_ble_eq_true rfl)⟩ ⟨(Nat.le_of_ble_eq_true rfl), (Nat.le_of_ble_eq_true rfl)⟩ xT_b xT_at 13 1 rfl rfl rfl _ hC_ (nd_T _ 0) rfl hl3.1 rfl (Nat.le_of_ble_eq_true rfl) dX11_set_76)) rfl (fun _ => rfl) (fun _ => rfl) (fun r_33 u_32 H1 locs hp hw34 => ?_)
              generalize H1 = H at hw34 ⊢
              have hw35 : WD D A s.heap (WZ_LVN cI cJ mv mr mi mf mg) H locs := hw34
              have hp_36 := hp
              rcases hp_36 with ⟨rfl, ha_37, ha_38, ha_39⟩ | ⟨rfl, ha_40⟩ | ⟨rfl, ha_41⟩ | ⟨rfl, ha_42⟩
              · skip
                have ha_37 : 0 ≤ z_who.toInt := ha_37
                have ha_38 : z_who.toInt + 1 ≤ (mi 32).toInt := ha_38
                have ha_39 : z_who.toInt ≤ 9 := ha_39
                refine lv_if_ne (pc := 79) (tgt := 84) E.1 E.2.1 dX11_set_79 (by decide) (fun _ => ?_) (fun c_43 => absurd c_43 (mneE (a := 1) (b := 0) (by decide +kernel) (by decide +kernel) (by omega)))
                refine lv_iload_n (pc := 84) E.1 E.2.1 dX11_set_84 rfl (lv_at hl3 1 rfl) ?_
                refine lv_iconst (pc := 85) (v := 5) E.1 E.2.1 dX11_set_85 (by decide +kernel) ?_
                refine lv_icmp_le (pc := 86) (tgt := 102) E.1 E.2.1 dX11_set_86 (by decide) (fun c_44 => absurd c_44 (mnleE (a := z_what.toInt) (b := 5) rfl (by decide +kernel) (by omega))) (fun _ => ?_)
                refine lv_aload_n (pc := 89) E.1 E.2.1 dX11_set_89 rfl (lv_at hl3 0 rfl) ?_
                refine x_get (pc := 90) (T := TX11) (N := 13) (ci := 11) (v := .ref (mr 3)) E hw35 inX11 0 0 q_606 rfl rfl (by decide) rfl rfl dX11_set_90 ?_
                refine lv_iload_n (pc := 93) E.1 E.2.1 dX11_set_93 rfl (lv_at hl3 1 rfl) ?_
                refine lv_iload_n (pc := 94) E.1 E.2.1 dX11_set_94 rfl (lv_at hl3 2 rfl) ?_
                refine lv_iload_n (pc := 95) E.1 E.2.1 dX11_set_95 rfl (lv_at hl3 3 rfl) ?_
                refine ck_v (pc := 96) (ws' := (fun (u : (Nat → Int32) × (Nat → Int32) × (Nat → Int32) × (Nat → Int32) × (Nat → Int32)) => (WZ_LVN cI cJ mv mr mi (va_up (va_up (va_up (va_up (va_up mf 14 u.2.1) 15 u.2.2.1) 28 u.1) 29 u.2.2.2.1) 30 u.2.2.2.2) mg))) [false, true, true, true, true, true, true, true, true, true, true, true, true, true, true, true, true, true, true, true, true, true, true, true, true, true, true, true, true, true, true, true, true, true, true, true, true, true, true, true, true, true, true, true, true, true, true, true, true, true, true] hw35 rfl (fun hC_ => (rn_V (As := [.int z_what, .int z_who, .int z_v]) (rest := []) E hw35 (t_tellOfHouse l D cI cJ _ (shf 3 mr) (shf 3 mi) (shf 3 mf) (shf 3 mg) z_what z_who z_v (vl [mv 9]) (by show 0 ≤ z_who.toInt ∧ z_who.toInt ≤ 9; omega)) (gdV q_678 q_679 q_680 q_152 q_681) hdV_X10_tellOfHouse ⟨rfl, rfl⟩ ⟨(Nat.le_of_ble_eq_true rfl), (Nat.le_of_ble_eq_true rfl)⟩ ⟨(Nat.le_of_ble_eq_true rfl), (Nat.le_of_ble_eq_true rfl)⟩ xT_b xT_at 1 10 rfl rfl rfl _ hC_ (nd_T _ 0) rfl hl3.1 rfl (Nat.le_of_ble_eq_true rfl) dX11_set_96)) rfl (fun _ => rfl) (fun _ => rfl) (fun u_45 H1 locs hp hw47 => ?_)
                obtain ⟨ghpeople_48, gnoil_49, gnowed_50, ghbid_51, ghsays_52⟩ := u_45
                generalize H1 = H at hw47 ⊢
                have hw53 : WD D A s.heap (WZ_LVN cI cJ mv mr mi (va_up (va_up (va_up (va_up (va_up mf 14 gnoil_49) 15 gnowed_50) 28 ghpeople_48) 29 ghbid_51) 30 ghsays_52) mg) H locs := hw47
                refine lv_goto (pc := 99) (tgt := 111) E.1 E.2.1 dX11_set_99 (by decide) ?_
                refine lv_aload_n (pc := 111) E.1 E.2.1 dX11_set_111 rfl (lv_at hl3 0 rfl) ?_
                refine ck_v (pc := 112) (ws' := (fun (u : Int32 × Int32) => (WZ_LVN cI cJ mv mr (upd (upd mi 1 u.1) 2 u.2) (va_up (va_up (va_up (va_up (va_up mf 14 gnoil_49) 15 gnowed_50) 28 ghpeople_48) 29 ghbid_51) 30 ghsays_52) mg))) [true, false, false, false, false, false, false, false, false, false, false, false, false, false, false, false, false, false, false, false, false, false, false, false, false, false, false, false, false, false, false, false, false, false, false, false, false, false, false, false, false, false, false, false, false, false, false, false, false, false, false] hw53 rfl (fun hC_ => (rn_V (As := []) (rest := []) E hw53 (t_forgetNightsN l D cI cJ _ mr mi (va_up (va_up (va_up (va_up (va_up mf 14 gnoil_49) 15 gnowed_50) 28 ghpeople_48) 29 ghbid_51) 30 ghsays_52) mg (vl [.ref (mr 3), mv 0, mv 1, mv 2, mv 3, mv 4, mv 5, mv 6, mv 7, mv 8])) (gdV q_650 q_652 q_0 q_151 q_653) hdV_X11_forgetNights ⟨rfl, rfl⟩ ⟨(Nat.le_of_ble_eq_true rfl), (Nat.le_of_ble_eq_true rfl)⟩ ⟨(Nat.le_of_ble_eq_true rfl), (Nat.le_of_ble_eq_true rfl)⟩ xT_b xT_at 0 11 rfl rfl rfl _ hC_ (nd_T _ 0) rfl hl3.1 rfl (Nat.le_of_ble_eq_true rfl) dX11_set_112)) rfl (fun _ => rfl) (fun _ => rfl) (fun u_54 H1 locs hp hw56 => ?_)
                obtain ⟨noldest_57, nundoable_58⟩ := u_54
                generalize H1 = H at hw56 ⊢
                have hw59 : WD D A s.heap (WZ_LVN cI cJ mv mr (upd (upd mi 1 noldest_57) 2 nundoable_58) (va_up (va_up (va_up (va_up (va_up mf 14 gnoil_49) 15 gnowed_50) 28 ghpeople_48) 29 ghbid_51) 30 ghsays_52) mg) H locs := hw56
                obtain ⟨hp_60, hp_61⟩ := hp
                have hp_60 : noldest_57.toInt = 0 := hp_60
                have hp_61 : nundoable_58.toInt = 0 := hp_61
                refine lv_iconst (pc := 115) (v := 1) E.1 E.2.1 dX11_set_115 (by decide +kernel) ?_
                exact em_z (w1 := (fun (u : (Nat → Int32) × (Nat → Nat → Int32) × (Nat → Nat → Int64)) => (WZ_LVN cI cJ mv mr u.1 u.2.1 u.2.2))) E hr hlk ((upd (upd mi 1 noldest_57) 2 nundoable_58), (va_up (va_up (va_up (va_up (va_up mf 14 gnoil_49) 15 gnowed_50) 28 ghpeople_48) 29 ghbid_51) 30 ghsays_52), mg) hw59 ⟨(by show 0 ≤ noldest_57.toInt; have k_0 : (1 : Int32).toInt = 1 := (by decide +kernel); omega), (by show noldest_57.toInt ≤ 5; have k_0 : (1 : Int32).toInt = 1 := (by decide +kernel); omega), (by show 0 ≤ nundoable_58.toInt; have k_0 : (1 : Int32).toInt = 1 := (by decide +kernel); omega), (by show nundoable_58.toInt ≤ 6; have k_0 : (1 : Int32).toInt = 1 := (by decide +kernel); omega), h2.1, h2.2, h3.1, h3.2, h4.1, h4.2, h5.1, h5.2, h6.1, h6.2, h7.1, h7.2, rfl, rfl, a_p_from, a_p_to, a_t_marks, a_u_marks, rfl, rfl⟩ (by decide +kernel) (Nat.le_of_ble_eq_true rfl) (Nat.le_of_ble_eq_true rfl) dX11_set_116
              · skip
                have ha_40 : z_who.toInt + 1 ≤ 0 := ha_40
                refine lv_if_ne (pc := 79) (tgt := 84) E.1 E.2.1 dX11_set_79 (by decide) (fun c_62 => absurd (meqE (a := 0) (b := 0) (by decide +kernel) (by decide +kernel) (by omega)) c_62) (fun _ => ?_)
                refine lv_iconst (pc := 82) (v := 0) E.1 E.2.1 dX11_set_82 (by decide +kernel) ?_
                exact em_z (w1 := (fun (u : (Nat → Int32) × (Nat → Nat → Int32) × (Nat → Nat → Int64)) => (WZ_LVN cI cJ mv mr u.1 u.2.1 u.2.2))) E hr hlk (mi, mf, mg) hw35 ⟨h0.1, h0.2, h1.1, h1.2, h2.1, h2.2, h3.1, h3.2, h4.1, h4.2, h5.1, h5.2, h6.1, h6.2, h7.1, h7.2, rfl, rfl, a_p_from, a_p_to, a_t_marks, a_u_marks, rfl, rfl⟩ (by decide +kernel) (Nat.le_of_ble_eq_true rfl) (Nat.le_of_ble_eq_true rfl) dX11_set_83
              · skip
                have ha_41 : (mi 32).toInt ≤ z_who.toInt := ha_41
                refine lv_if_ne (pc := 79) (tgt := 84) E.1 E.2.1 dX11_set_79 (by decide) (fun c_63 => absurd (meqE (a := 0) (b := 0) (by decide +kernel) (by decide +kernel) (by omega)) c_63) (fun _ => ?_)
                refine lv_iconst (pc := 82) (v := 0) E.1 E.2.1 dX11_set_82 (by decide +kernel) ?_
                exact em_z (w1 := (fun (u : (Nat → Int32) × (Nat → Nat → Int32) × (Nat → Nat → Int64)) => (WZ_LVN cI cJ mv mr u.1 u.2.1 u.2.2))) E hr hlk (mi, mf, mg) hw35 ⟨h0.1, h0.2, h1.1, h1.2, h2.1, h2.2, h3.1, h3.2, h4.1, h4.2, h5.1, h5.2, h6.1, h6.2, h7.1, h7.2, rfl, rfl, a_p_from, a_p_to, a_t_marks, a_u_marks, rfl, rfl⟩ (by decide +kernel) (Nat.le_of_ble_eq_true rfl) (Nat.le_of_ble_eq_true rfl) dX11_set_83
              · skip
                have ha_42 : 10 ≤ z_who.toInt := ha_42
                refine lv_if_ne (pc := 79) (tgt := 84) E.1 E.2.1 dX11_set_79 (by decide) (fun c_64 => absurd (meqE (a := 0) (b := 0) (by decide +kernel) (by decide +kernel) (by omega)) c_64) (fun _ => ?_)
                refine lv_iconst (pc := 82) (v := 0) E.1 E.2.1 dX11_set_82 (by decide +kernel) ?_
                exact em_z (w1 := (fun (u : (Nat → Int32) × (Nat → Nat → Int32) × (Nat → Nat → Int64)) => (WZ_LVN cI cJ mv mr u.1 u.2.1 u.2.2))) E hr hlk (mi, mf, mg) hw35 ⟨h0.1, h0.2, h1.1, h1.2, h2.1, h2.2, h3.1, h3.2, h4.1, h4.2, h5.1, h5.2, h6.1, h6.2, h7.1, h7.2, rfl, rfl, a_p_from, a_p_to, a_t_marks, a_u_marks, rfl, rfl⟩ (by decide +kernel) (Nat.le_of_ble_eq_true rfl) (Nat.le_of_ble_eq_true rfl) dX11_set_83
          · skip
            have hc_11 := eqE (a := z_what.toInt) (b := 5) rfl (by decide +kernel) c_11
            refine lv_aload_n (pc := 47) E.1 E.2.1 dX11_set_47 rfl (lv_at hl3 0 rfl) ?_
            refine x_get (pc := 48) (T := TX11) (N := 13) (ci := 11) (v := .ref (mr 3)) E hw1 inX11 0 0 q_606 rfl rfl (by decide) rfl rfl dX11_set_48 ?_
            refine x_get (pc := 51) (T := TX10) (N := 17) (ci := 10) (v := .ref (mr 26)) E hw1 inX10 1 1 q_463 rfl rfl (by decide) rfl rfl dX11_set_51 ?_
            refine lv_iload_n (pc := 54) E.1 E.2.1 dX11_set_54 rfl (lv_at hl3 3 rfl) ?_
            refine ck_i (pc := 55) (ws' := (fun (u : Unit) => (WZ_LVN cI cJ mv mr mi mf mg))) [false, false, false, false, false, false, false, false, false, false, false, false, false, true, true, true, true, true, true, true, true, false, false, false, false, false, false, false, false, false, false, false, false, false, false, false, false, false, false, false, false, false, false, false, false, false, false, false, false, false, false] hw1 rfl (fun hC_ => (rn_V (As := [.int z_v]) (rest := []) E hw1 (t_has l D cI cJ _ (shf 26 mr) (shf 26 mi) (shf 26 mf) (shf 26 mg) z_v (vl [mv 9])) (gdV q_674 q_675 q_676 q_154 q_677) hdV_X1_has ⟨rfl, rfl⟩ ⟨(Nat.le_of_ble_eq_true rfl), (Nat.le_of_ble_eq_true rfl)⟩ ⟨(Nat.le_of_ble_eq_true rfl), (Nat.le_of_ble_eq_true rfl)⟩ xT_b xT_at 13 1 rfl rfl rfl _ hC_ (nd_T _ 0) rfl hl3.1 rfl (Nat.le_of_ble_eq_true rfl) dX11_set_55)) rfl (fun _ => rfl) (fun _ => rfl) (fun r_66 u_65 H1 locs hp hw67 => ?_)
            generalize H1 = H at hw67 ⊢
            have hw68 : WD D A s.heap (WZ_LVN cI cJ mv mr mi mf mg) H locs := hw67
            have hp_69 := hp
            rcases hp_69 with ⟨rfl, ha_70, ha_71, ha_72⟩ | ⟨rfl, ha_73⟩ | ⟨rfl, ha_74⟩ | ⟨rfl, ha_75⟩
            · skip
              have ha_70 : 0 ≤ z_v.toInt := ha_70
              have ha_71 : z_v.toInt + 1 ≤ (mi 32).toInt := ha_71
              have ha_72 : z_v.toInt ≤ 9 := ha_72
              refine lv_if_ne (pc := 58) (tgt := 63) E.1 E.2.1 dX11_set_58 (by decide) (fun _ => ?_) (fun c_76 => absurd c_76 (mneE (a := 1) (b := 0) (by decide +kernel) (by decide +kernel) (by omega)))
              refine lv_iload_n (pc := 63) E.1 E.2.1 dX11_set_63 rfl (lv_at hl3 1 rfl) ?_
              refine lv_iconst (pc := 64) (v := 5) E.1 E.2.1 dX11_set_64 (by decide +kernel) ?_
              refine lv_icmp_le (pc := 65) (tgt := 84) E.1 E.2.1 dX11_set_65 (by decide) (fun _ => ?_) (fun c_77 => absurd (mleE (a := z_what.toInt) (b := 5) rfl (by decide +kernel) (by omega)) c_77)
              refine lv_iload_n (pc := 84) E.1 E.2.1 dX11_set_84 rfl (lv_at hl3 1 rfl) ?_
              refine lv_iconst (pc := 85) (v := 5) E.1 E.2.1 dX11_set_85 (by decide +kernel) ?_
              refine lv_icmp_le (pc := 86) (tgt := 102) E.1 E.2.1 dX11_set_86 (by decide) (fun _ => ?_) (fun c_78 => absurd (mleE (a := z_what.toInt) (b := 5) rfl (by decide +kernel) (by omega)) c_78)
              refine lv_aload_n (pc := 102) E.1 E.2.1 dX11_set_102 rfl (lv_at hl3 0 rfl) ?_
              refine x_get (pc := 103) (T := TX11) (N := 13) (ci := 11) (v := .ref (mr 3)) E hw68 inX11 0 0 q_606 rfl rfl (by decide) rfl rfl dX11_set_103 ?_
              refine lv_iload_n (pc := 106) E.1 E.2.1 dX11_set_106 rfl (lv_at hl3 1 rfl) ?_
              refine lv_iload_n (pc := 107) E.1 E.2.1 dX11_set_107 rfl (lv_at hl3 3 rfl) ?_
              refine ck_v (pc := 108) (ws' := (fun (u : Int32 × Int32 × Int32 × Int32 × Int32 × Int32) => (WZ_LVN cI cJ mv mr (upd (upd (upd (upd (upd (upd mi 5 u.2.1) 6 u.2.2.1) 7 u.2.2.2.1) 8 u.2.2.2.2.1) 20 u.2.2.2.2.2) 22 u.1) mf mg))) [false, true, true, true, true, true, true, true, true, true, true, true, true, true, true, true, true, true, true, true, true, true, true, true, true, true, true, true, true, true, true, true, true, true, true, true, true, true, true, true, true, true, true, true, true, true, true, true, true, true, true] hw68 rfl (fun hC_ => (rn_V (As := [.int z_what, .int z_v]) (rest := []) E hw68 (t_tellOfAll l D cI cJ _ (shf 3 mr) (shf 3 mi) (shf 3 mf) (shf 3 mg) z_what z_v (vl [mv 9])) (gdV q_682 q_683 q_684 q_152 q_685) hdV_X10_tellOfAll ⟨rfl, rfl⟩ ⟨(Nat.le_of_ble_eq_true rfl), (Nat.le_of_ble_eq_true rfl)⟩ ⟨(Nat.le_of_ble_eq_true rfl), (Nat.le_of_ble_eq_true rfl)⟩ xT_b xT_at 1 10 rfl rfl rfl _ hC_ (nd_T _ 0) rfl hl3.1 rfl (Nat.le_of_ble_eq_true rfl) dX11_set_108)) rfl (fun _ => rfl) (fun _ => rfl) (fun u_79 H1 locs hp hw81 => ?_)
              obtain ⟨nnsnow_82, nflakes_83, nmargin_84, ndusk_85, ndue_86, nnlamp_87⟩ := u_79
              generalize H1 = H at hw81 ⊢
              have hw88 : WD D A s.heap (WZ_LVN cI cJ mv mr (upd (upd (upd (upd (upd (upd mi 5 nflakes_83) 6 nmargin_84) 7 ndusk_85) 8 ndue_86) 20 nnlamp_87) 22 nnsnow_82) mf mg) H locs := hw81
              refine lv_aload_n (pc := 111) E.1 E.2.1 dX11_set_111 rfl (lv_at hl3 0 rfl) ?_
              refine ck_v (pc := 112) (ws' := (fun (u : Int32 × Int32) => (WZ_LVN cI cJ mv mr (upd (upd (upd (upd (upd (upd (upd (upd mi 1 u.1) 2 u.2) 5 nflakes_83) 6 nmargin_84) 7 ndusk_85) 8 ndue_86) 20 nnlamp_87) 22 nnsnow_82) mf mg))) [true, false, false, false, false, false, false, false, false, false, false, false, false, false, false, false, false, false, false, false, false, false, false, false, false, false, false, false, false, false, false, false, false, false, false, false, false, false, false, false, false, false, false, false, false, false, false, false, false, false, false] hw88 rfl (fun hC_ => (rn_V (As := []) (rest := []) E hw88 (t_forgetNightsN l D cI cJ _ mr (upd (upd (upd (upd (upd (upd mi 5 nflakes_83) 6 nmargin_84) 7 ndusk_85) 8 ndue_86) 20 nnlamp_87) 22 nnsnow_82) mf mg (vl [.ref (mr 3), mv 0, mv 1, mv 2, mv 3, mv 4, mv 5, mv 6, mv 7, mv 8])) (gdV q_650 q_652 q_0 q_151 q_653) hdV_X11_forgetNights ⟨rfl, rfl⟩ ⟨(Nat.le_of_ble_eq_true rfl), (Nat.le_of_ble_eq_true rfl)⟩ ⟨(Nat.le_of_ble_eq_true rfl), (Nat.le_of_ble_eq_true rfl)⟩ xT_b xT_at 0 11 rfl rfl rfl _ hC_ (nd_T _ 0) rfl hl3.1 rfl (Nat.le_of_ble_eq_true rfl) dX11_set_112)) rfl (fun _ => rfl) (fun _ => rfl) (fun u_89 H1 locs hp hw91 => ?_)
              obtain ⟨noldest_92, nundoable_93⟩ := u_89
              generalize H1 = H at hw91 ⊢
              have hw94 : WD D A s.heap (WZ_LVN cI cJ mv mr (upd (upd (upd (upd (upd (upd (upd (upd mi 1 noldest_92) 2 nundoable_93) 5 nflakes_83) 6 nmargin_84) 7 ndusk_85) 8 ndue_86) 20 nnlamp_87) 22 nnsnow_82) mf mg) H locs := hw91
              obtain ⟨hp_95, hp_96⟩ := hp
              have hp_95 : noldest_92.toInt = 0 := hp_95
              have hp_96 : nundoable_93.toInt = 0 := hp_96
              refine lv_iconst (pc := 115) (v := 1) E.1 E.2.1 dX11_set_115 (by decide +kernel) ?_
              exact em_z (w1 := (fun (u : (Nat → Int32) × (Nat → Nat → Int32) × (Nat → Nat → Int64)) => (WZ_LVN cI cJ mv mr u.1 u.2.1 u.2.2))) E hr hlk ((upd (upd (upd (upd (upd (upd (upd (upd mi 1 noldest_92) 2 nundoable_93) 5 nflakes_83) 6 nmargin_84) 7 ndusk_85) 8 ndue_86) 20 nnlamp_87) 22 nnsnow_82), mf, mg) hw94 ⟨(by show 0 ≤ noldest_92.toInt; have k_0 : (1 : Int32).toInt = 1 := (by decide +kernel); omega), (by show noldest_92.toInt ≤ 5; have k_0 : (1 : Int32).toInt = 1 := (by decide +kernel); omega), (by show 0 ≤ nundoable_93.toInt; have k_0 : (1 : Int32).toInt = 1 := (by decide +kernel); omega), (by show nundoable_93.toInt ≤ 6; have k_0 : (1 : Int32).toInt = 1 := (by decide +kernel); omega), h2.1, h2.2, h3.1, h3.2, h4.1, h4.2, h5.1, h5.2, h6.1, h6.2, h7.1, h7.2, rfl, rfl, a_p_from, a_p_to, a_t_marks, a_u_marks, rfl, rfl⟩ (by decide +kernel) (Nat.le_of_ble_eq_true rfl) (Nat.le_of_ble_eq_true rfl) dX11_set_116
            · skip
              have ha_73 : z_v.toInt + 1 ≤ 0 := ha_73
              refine lv_if_ne (pc := 58) (tgt := 63) E.1 E.2.1 dX11_set_58 (by decide) (fun c_97 => absurd (meqE (a := 0) (b := 0) (by decide +kernel) (by decide +kernel) (by omega)) c_97) (fun _ => ?_)
              refine lv_iconst (pc := 61) (v := 0) E.1 E.2.1 dX11_set_61 (by decide +kernel) ?_
              exact em_z (w1 := (fun (u : (Nat → Int32) × (Nat → Nat → Int32) × (Nat → Nat → Int64)) => (WZ_LVN cI cJ mv mr u.1 u.2.1 u.2.2))) E hr hlk (mi, mf, mg) hw68 ⟨h0.1, h0.2, h1.1, h1.2, h2.1, h2.2, h3.1, h3.2, h4.1, h4.2, h5.1, h5.2, h6.1, h6.2, h7.1, h7.2, rfl, rfl, a_p_from, a_p_to, a_t_marks, a_u_marks, rfl, rfl⟩ (by decide +kernel) (Nat.le_of_ble_eq_true rfl) (Nat.le_of_ble_eq_true rfl) dX11_set_62
            · skip
              have ha_74 : (mi 32).toInt ≤ z_v.toInt := ha_74
              refine lv_if_ne (pc := 58) (tgt := 63) E.1 E.2.1 dX11_set_58 (by decide) (fun c_98 => absurd (meqE (a := 0) (b := 0) (by decide +kernel) (by decide +kernel) (by omega)) c_98) (fun _ => ?_)
              refine lv_iconst (pc := 61) (v := 0) E.1 E.2.1 dX11_set_61 (by decide +kernel) ?_
              exact em_z (w1 := (fun (u : (Nat → Int32) × (Nat → Nat → Int32) × (Nat → Nat → Int64)) => (WZ_LVN cI cJ mv mr u.1 u.2.1 u.2.2))) E hr hlk (mi, mf, mg) hw68 ⟨h0.1, h0.2, h1.1, h1.2, h2.1, h2.2, h3.1, h3.2, h4.1, h4.2, h5.1, h5.2, h6.1, h6.2, h7.1, h7.2, rfl, rfl, a_p_from, a_p_to, a_t_marks, a_u_marks, rfl, rfl⟩ (by decide +kernel) (Nat.le_of_ble_eq_true rfl) (Nat.le_of_ble_eq_true rfl) dX11_set_62
            · skip
              have ha_75 : 10 ≤ z_v.toInt := ha_75
              refine lv_if_ne (pc := 58) (tgt := 63) E.1 E.2.1 dX11_set_58 (by decide) (fun c_99 => absurd (meqE (a := 0) (b := 0) (by decide +kernel) (by decide +kernel) (by omega)) c_99) (fun _ => ?_)
              refine lv_iconst (pc := 61) (v := 0) E.1 E.2.1 dX11_set_61 (by decide +kernel) ?_
              exact em_z (w1 := (fun (u : (Nat → Int32) × (Nat → Nat → Int32) × (Nat → Nat → Int64)) => (WZ_LVN cI cJ mv mr u.1 u.2.1 u.2.2))) E hr hlk (mi, mf, mg) hw68 ⟨h0.1, h0.2, h1.1, h1.2, h2.1, h2.2, h3.1, h3.2, h4.1, h4.2, h5.1, h5.2, h6.1, h6.2, h7.1, h7.2, rfl, rfl, a_p_from, a_p_to, a_t_marks, a_u_marks, rfl, rfl⟩ (by decide +kernel) (Nat.le_of_ble_eq_true rfl) (Nat.le_of_ble_eq_true rfl) dX11_set_62
        · skip
          have hc_10 := nleE (a := z_v.toInt) (b := v_9.toInt) rfl rfl c_10
          refine lv_iconst (pc := 40) (v := 0) E.1 E.2.1 dX11_set_40 (by decide +kernel) ?_
          exact em_z (w1 := (fun (u : (Nat → Int32) × (Nat → Nat → Int32) × (Nat → Nat → Int64)) => (WZ_LVN cI cJ mv mr u.1 u.2.1 u.2.2))) E hr hlk (mi, mf, mg) hw1 ⟨h0.1, h0.2, h1.1, h1.2, h2.1, h2.2, h3.1, h3.2, h4.1, h4.2, h5.1, h5.2, h6.1, h6.2, h7.1, h7.2, rfl, rfl, a_p_from, a_p_to, a_t_marks, a_u_marks, rfl, rfl⟩ (by decide +kernel) (Nat.le_of_ble_eq_true rfl) (Nat.le_of_ble_eq_true rfl) dX11_set_41
