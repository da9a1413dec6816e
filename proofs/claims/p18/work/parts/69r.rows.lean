set_option maxHeartbeats 4000000 in
set_option maxRecDepth 100000 in
theorem t_setP (l : Launch) (D : va_G) (cI cJ : ClassId) (sz : Nat) (mr : Nat → Nat) (mi : Nat → Int32) (mf : Nat → Nat → Int32) (mg : Nat → Nat → Int64) (z_what : Int32) (z_who : Int32) (z_v : Int32) (t1 t2 : Nat) (mv : Nat → Value) (h0 : 0 ≤ (mi 1).toInt ∧ (mi 1).toInt ≤ 5) (h1 : 0 ≤ (mi 2).toInt ∧ (mi 2).toInt ≤ 6) (h2 : 0 ≤ (mi 24).toInt ∧ (mi 24).toInt ≤ 200) (h3 : 0 ≤ (mi 32).toInt ∧ (mi 32).toInt ≤ 10) (h4 : 0 ≤ (mi 40).toInt ∧ (mi 40).toInt ≤ 40) (h5 : 0 ≤ (mi 49).toInt ∧ (mi 49).toInt ≤ 10) (h6 : 0 ≤ (mi 72).toInt ∧ (mi 72).toInt ≤ 200) (h7 : 0 ≤ (mi 79).toInt ∧ (mi 79).toInt ≤ 8) (a_p_from : p9 (mf 36)) (a_p_to : p9 (mf 37)) (a_t_marks : m4 (mf 53)) (a_u_marks : m4 (mf 63)) : Met l yX11_set (Cond.code yX11_set cX11_set 4 (some .boolean) :: GW) ({ frames := 11, cells := 0, slots := 0, locals := 263 } : Room) (va_Pc [.ref (mr 0), .int z_what, .int z_who, .int z_v] (PW D cI cJ sz (WZ_LVP cI cJ mv mr mi mf mg) (xZ t1 t2 (va_A (WZ_LVP cI cJ mv mr mi mf mg) sz)))) (va_Qi (fun (r : Int32) (u : (Nat → Int32) × (Nat → Nat → Int32) × (Nat → Nat → Int64)) => (0 ≤ (u.1 1).toInt) ∧ ((u.1 1).toInt ≤ 5) ∧ (0 ≤ (u.1 2).toInt) ∧ ((u.1 2).toInt ≤ 6) ∧ (0 ≤ (u.1 24).toInt) ∧ ((u.1 24).toInt ≤ 200) ∧ (0 ≤ (u.1 32).toInt) ∧ ((u.1 32).toInt ≤ 10) ∧ (0 ≤ (u.1 40).toInt) ∧ ((u.1 40).toInt ≤ 40) ∧ (0 ≤ (u.1 49).toInt) ∧ ((u.1 49).toInt ≤ 10) ∧ (0 ≤ (u.1 72).toInt) ∧ ((u.1 72).toInt ≤ 200) ∧ (0 ≤ (u.1 79).toInt) ∧ ((u.1 79).toInt ≤ 8) ∧ ((u.1 32).toInt = (mi 32).toInt) ∧ ((u.1 79).toInt = (mi 79).toInt) ∧ (p9 (u.2.1 36)) ∧ (p9 (u.2.1 37)) ∧ (m4 (u.2.1 53)) ∧ (m4 (u.2.1 63)) ∧ ((Eq (mf 27)) (u.2.1 27)) ∧ ((Eq (mf 31)) (u.2.1 31))) (fun u => QW D cI cJ (va_A (WZ_LVP cI cJ mv mr mi mf mg) sz) ((fun (u : (Nat → Int32) × (Nat → Nat → Int32) × (Nat → Nat → Int64)) => (WZ_LVP cI cJ mv mr u.1 u.2.1 u.2.2)) u)) (va_A (WZ_LVP cI cJ mv mr mi mf mg) sz)) 0 0 (va_A (WZ_LVP cI cJ mv mr mi mf mg) sz) := by
  refine mk_metA (X := fun A => xZ t1 t2 A) (y := yX11_set) (bytes := cX11_set) (maxL := 4) (avs := [.ref (mr 0), .int z_what, .int z_who, .int z_v]) (WS := (WZ_LVP cI cJ mv mr mi mf mg)) (Qf := fun A => va_Qi (fun (r : Int32) (u : (Nat → Int32) × (Nat → Nat → Int32) × (Nat → Nat → Int64)) => (0 ≤ (u.1 1).toInt) ∧ ((u.1 1).toInt ≤ 5) ∧ (0 ≤ (u.1 2).toInt) ∧ ((u.1 2).toInt ≤ 6) ∧ (0 ≤ (u.1 24).toInt) ∧ ((u.1 24).toInt ≤ 200) ∧ (0 ≤ (u.1 32).toInt) ∧ ((u.1 32).toInt ≤ 10) ∧ (0 ≤ (u.1 40).toInt) ∧ ((u.1 40).toInt ≤ 40) ∧ (0 ≤ (u.1 49).toInt) ∧ ((u.1 49).toInt ≤ 10) ∧ (0 ≤ (u.1 72).toInt) ∧ ((u.1 72).toInt ≤ 200) ∧ (0 ≤ (u.1 79).toInt) ∧ ((u.1 79).toInt ≤ 8) ∧ ((u.1 32).toInt = (mi 32).toInt) ∧ ((u.1 79).toInt = (mi 79).toInt) ∧ (p9 (u.2.1 36)) ∧ (p9 (u.2.1 37)) ∧ (m4 (u.2.1 53)) ∧ (m4 (u.2.1 63)) ∧ ((Eq (mf 27)) (u.2.1 27)) ∧ ((Eq (mf 31)) (u.2.1 31))) (fun u => QW D cI cJ A ((fun (u : (Nat → Int32) × (Nat → Nat → Int32) × (Nat → Nat → Int64)) => (WZ_LVP cI cJ mv mr u.1 u.2.1 u.2.2)) u)) A) (by decide) (Nat.le_of_ble_eq_true rfl) ?_
  intro p e s m below meth c A ls E hr hlk hnm hX hw1 hl2
  have hl3 : lv_has ls 4 [(0, .ref (mr 0)), (1, .int z_what), (2, .int z_who), (3, .int z_v)] := hl2
  refine lv_iload_n (pc := 0) E.1 E.2.1 dX11_set_0 rfl (lv_at hl3 1 rfl) ?_
  refine lv_if_lt (pc := 1) (tgt := 20) E.1 E.2.1 dX11_set_1 (by decide) (fun c_4 => ?_) (fun c_4 => ?_)
  · skip
    have hc_4 := ltE (a := z_what.toInt) (b := 0) rfl (by decide +kernel) c_4
    refine lv_iconst (pc := 20) (v := 0) E.1 E.2.1 dX11_set_20 (by decide +kernel) ?_
    exact em_z (w1 := (fun (u : (Nat → Int32) × (Nat → Nat → Int32) × (Nat → Nat → Int64)) => (WZ_LVP cI cJ mv mr u.1 u.2.1 u.2.2))) E hr hlk (mi, mf, mg) hw1 ⟨h0.1, h0.2, h1.1, h1.2, h2.1, h2.2, h3.1, h3.2, h4.1, h4.2, h5.1, h5.2, h6.1, h6.2, h7.1, h7.2, rfl, rfl, a_p_from, a_p_to, a_t_marks, a_u_marks, rfl, rfl⟩ (by decide +kernel) (Nat.le_of_ble_eq_true rfl) (Nat.le_of_ble_eq_true rfl) dX11_set_21
  · skip
    have hc_4 := nltE (a := z_what.toInt) (b := 0) rfl (by decide +kernel) c_4
    refine lv_iload_n (pc := 4) E.1 E.2.1 dX11_set_4 rfl (lv_at hl3 1 rfl) ?_
    refine x_gets (pc := 5) E hw1 hX.1 q_670 rfl dX11_set_5 ?_
    refine x_tlen (pc := 8) E hw1 hX.2.1 (v := 11) (by decide +kernel) dX11_set_8 ?_
    refine lv_icmp_ge (pc := 9) (tgt := 20) E.1 E.2.1 dX11_set_9 (by decide) (fun c_5 => ?_) (fun c_5 => ?_)
    · skip
      have hc_5 := leE (a := 11) (b := z_what.toInt) (by decide +kernel) rfl c_5
      refine lv_iconst (pc := 20) (v := 0) E.1 E.2.1 dX11_set_20 (by decide +kernel) ?_
      exact em_z (w1 := (fun (u : (Nat → Int32) × (Nat → Nat → Int32) × (Nat → Nat → Int64)) => (WZ_LVP cI cJ mv mr u.1 u.2.1 u.2.2))) E hr hlk (mi, mf, mg) hw1 ⟨h0.1, h0.2, h1.1, h1.2, h2.1, h2.2, h3.1, h3.2, h4.1, h4.2, h5.1, h5.2, h6.1, h6.2, h7.1, h7.2, rfl, rfl, a_p_from, a_p_to, a_t_marks, a_u_marks, rfl, rfl⟩ (by decide +kernel) (Nat.le_of_ble_eq_true rfl) (Nat.le_of_ble_eq_true rfl) dX11_set_21
    · skip
      have hc_5 := nleE (a := 11) (b := z_what.toInt) (by decide +kernel) rfl c_5
      refine lv_iload_n (pc := 12) E.1 E.2.1 dX11_set_12 rfl (lv_at hl3 1 rfl) ?_
      refine x_gets (pc := 13) E hw1 hX.2.2.1 q_672 rfl dX11_set_13 ?_
      refine x_tlen (pc := 16) E hw1 hX.2.2.2 (v := 11) (by decide +kernel) dX11_set_16 ?_
      refine lv_icmp_lt (pc := 17) (tgt := 22) E.1 E.2.1 dX11_set_17 (by decide) (fun _ => ?_) (fun c_6 => absurd (mltE (a := z_what.toInt) (b := 11) rfl (by decide +kernel) (by omega)) c_6)
      refine lv_iload_n (pc := 22) E.1 E.2.1 dX11_set_22 rfl (lv_at hl3 3 rfl) ?_
      refine x_gets (pc := 23) E hw1 hX.1 q_670 rfl dX11_set_23 ?_
      refine lv_iload_n (pc := 26) E.1 E.2.1 dX11_set_26 rfl (lv_at hl3 1 rfl) ?_
      obtain ⟨v_7, ev_7⟩ : ∃ z : Int32, f_least z_what.toNatClampNeg = .int z := ⟨_, rfl⟩
      refine x_ti (pc := 27) E hw1 hX.2.1 (inbE (a := z_what.toInt) rfl (by omega)) ev_7 dX11_set_27 ?_
      refine lv_icmp_lt (pc := 28) (tgt := 40) E.1 E.2.1 dX11_set_28 (by decide) (fun c_8 => ?_) (fun c_8 => ?_)
      · skip
        have hc_8 := ltE (a := z_v.toInt) (b := v_7.toInt) rfl rfl c_8
        refine lv_iconst (pc := 40) (v := 0) E.1 E.2.1 dX11_set_40 (by decide +kernel) ?_
        exact em_z (w1 := (fun (u : (Nat → Int32) × (Nat → Nat → Int32) × (Nat → Nat → Int64)) => (WZ_LVP cI cJ mv mr u.1 u.2.1 u.2.2))) E hr hlk (mi, mf, mg) hw1 ⟨h0.1, h0.2, h1.1, h1.2, h2.1, h2.2, h3.1, h3.2, h4.1, h4.2, h5.1, h5.2, h6.1, h6.2, h7.1, h7.2, rfl, rfl, a_p_from, a_p_to, a_t_marks, a_u_marks, rfl, rfl⟩ (by decide +kernel) (Nat.le_of_ble_eq_true rfl) (Nat.le_of_ble_eq_true rfl) dX11_set_41
      · skip
        have hc_8 := nltE (a := z_v.toInt) (b := v_7.toInt) rfl rfl c_8
        refine lv_iload_n (pc := 31) E.1 E.2.1 dX11_set_31 rfl (lv_at hl3 3 rfl) ?_
        refine x_gets (pc := 32) E hw1 hX.2.2.1 q_672 rfl dX11_set_32 ?_
        refine lv_iload_n (pc := 35) E.1 E.2.1 dX11_set_35 rfl (lv_at hl3 1 rfl) ?_
        obtain ⟨v_9, ev_9⟩ : ∃ z : Int32, f_most z_what.toNatClampNeg = .int z := ⟨_, rfl⟩
        refine x_ti (pc := 36) E hw1 hX.2.2.2 (inbE (a := z_what.toInt) rfl (by omega)) ev_9 dX11_set_36 ?_
        refine lv_icmp_le (pc := 37) (tgt := 42) E.1 E.2.1 dX11_set_37 (by decide) (fun c_10 => ?_) (fun c_10 => ?_)
        · skip
          have hc_10 := leE (a := z_v.toInt) (b := v_9.toInt) rfl rfl c_10
          refine lv_iload_n (pc := 42) E.1 E.2.1 dX11_set_42 rfl (lv_at hl3 1 rfl) ?_
          refine lv_iconst (pc := 43) (v := 5) E.1 E.2.1 dX11_set_43 (by decide +kernel) ?_
          refine lv_icmp_ne (pc := 44) (tgt := 63) E.1 E.2.1 dX11_set_44 (by decide) (fun c_11 => ?_) (fun c_11 => ?_)
          · skip
            have hc_11 := neE (a := z_what.toInt) (b := 5) rfl (by decide +kernel) c_11
            refine lv_iload_n (pc := 63) E.1 E.2.1 dX11_set_63 rfl (lv_at hl3 1 rfl) ?_
            refine lv_iconst (pc := 64) (v := 5) E.1 E.2.1 dX11_set_64 (by decide +kernel) ?_
            refine lv_icmp_le (pc := 65) (tgt := 84) E.1 E.2.1 dX11_set_65 (by decide) (fun c_12 => ?_) (fun c_12 => ?_)
            · skip
              have hc_12 := leE (a := z_what.toInt) (b := 5) rfl (by decide +kernel) c_12
              refine lv_iload_n (pc := 84) E.1 E.2.1 dX11_set_84 rfl (lv_at hl3 1 rfl) ?_
              refine lv_iconst (pc := 85) (v := 5) E.1 E.2.1 dX11_set_85 (by decide +kernel) ?_
              refine lv_icmp_le (pc := 86) (tgt := 102) E.1 E.2.1 dX11_set_86 (by decide) (fun _ => ?_) (fun c_13 => absurd (mleE (a := z_what.toInt) (b := 5) rfl (by decide +kernel) (by omega)) c_13)
              refine lv_aload_n (pc := 102) E.1 E.2.1 dX11_set_102 rfl (lv_at hl3 0 rfl) ?_
              refine x_get (pc := 103) (T := TX11) (N := 13) (ci := 11) (v := .ref (mr 3)) E hw1 inX11 0 0 q_606 rfl rfl (by decide) rfl rfl dX11_set_103 ?_
              refine lv_iload_n (pc := 106) E.1 E.2.1 dX11_set_106 rfl (lv_at hl3 1 rfl) ?_
              refine lv_iload_n (pc := 107) E.1 E.2.1 dX11_set_107 rfl (lv_at hl3 3 rfl) ?_
              refine ck_v (pc := 108) (ws' := (fun (u : Int32 × Int32 × Int32 × Int32 × Int32 × Int32) => (WZ_LVP cI cJ mv mr (upd (upd (upd (upd (upd (upd mi 5 u.2.1) 6 u.2.2.1) 7 u.2.2.2.1) 8 u.2.2.2.2.1) 20 u.2.2.2.2.2) 22 u.1) mf mg))) [false, true, true, true, true, true, true, true, true, true, true, true, true, true, true, true, true, true, true, true, true, true, true, true, true, true, true, true, true, true, true, true, true, true, true, true, true, true, true, true, true, true, true, true, true, true, true, true, true, true, true, false] hw1 rfl (fun hC_ => (rn_V (As := [.int z_what, .int z_v]) (rest := []) E hw1 (t_tellOfAll l D cI cJ _ (shf 3 mr) (shf 3 mi) (shf 3 mf) (shf 3 mg) z_what z_v (vl [mv 9])) (gdV q_682 q_683 q_684 q_152 q_685) hdV_X10_tellOfAll ⟨rfl, rfl⟩ ⟨(Nat.le_of_ble_eq_true rfl), (Nat.le_of_ble_eq_true rfl)⟩ ⟨(Nat.le_of_ble_eq_true rfl), (Nat.le_of_ble_eq_true rfl)⟩ xT_b xT_at 1 10 rfl rfl rfl _ hC_ (nd_T _ 0) rfl hl3.1 rfl (Nat.le_of_ble_eq_true rfl) dX11_set_108)) rfl (fun _ => rfl) (fun _ => rfl) (fun u_14 H1 locs hp hw16 => ?_)
              obtain ⟨nnsnow_17, nflakes_18, nmargin_19, ndusk_20, ndue_21, nnlamp_22⟩ := u_14
              generalize H1 = H at hw16 ⊢
              have hw23 : WD D A s.heap (WZ_LVP cI cJ mv mr (upd (upd (upd (upd (upd (upd mi 5 nflakes_18) 6 nmargin_19) 7 ndusk_20) 8 ndue_21) 20 nnlamp_22) 22 nnsnow_17) mf mg) H locs := hw16
              refine lv_aload_n (pc := 111) E.1 E.2.1 dX11_set_111 rfl (lv_at hl3 0 rfl) ?_
              refine ck_v (pc := 112) (ws' := (fun (u : Int32 × Int32 × Int32) => (WZ_LVP cI cJ mv mr (upd (upd (upd (upd (upd (upd (upd (upd (upd mi 1 u.1) 2 u.2.1) 5 nflakes_18) 6 nmargin_19) 7 ndusk_20) 8 ndue_21) 20 nnlamp_22) 22 nnsnow_17) 81 u.2.2) mf mg))) [true, false, false, false, false, false, false, false, false, false, false, false, false, false, false, false, false, false, false, false, false, false, false, false, false, false, false, false, false, false, false, false, false, false, false, false, false, false, false, false, false, false, false, false, false, false, false, false, false, false, false, true] hw23 rfl (fun hC_ => (rn_V (As := []) (rest := []) E hw23 (t_forgetNightsP l D cI cJ _ (shg 3 0 77 mr) (shg 3 0 77 (upd (upd (upd (upd (upd (upd mi 5 nflakes_18) 6 nmargin_19) 7 ndusk_20) 8 ndue_21) 20 nnlamp_22) 22 nnsnow_17)) (shg 3 0 77 mf) (shg 3 0 77 mg) (vl [.ref (mr 3), mv 0, mv 1, mv 2, mv 3, mv 4, mv 5, mv 6, mv 7, mv 8, mv 10, mv 11, mv 12, mv 13, mv 14, mv 15])) (gdV q_650 q_652 q_0 q_151 q_653) hdV_X11_forgetNights ⟨rfl, rfl⟩ ⟨(Nat.le_of_ble_eq_true rfl), (Nat.le_of_ble_eq_true rfl)⟩ ⟨(Nat.le_of_ble_eq_true rfl), (Nat.le_of_ble_eq_true rfl)⟩ xT_b xT_at 0 11 rfl rfl rfl _ hC_ (nd_T _ 0) rfl hl3.1 rfl (Nat.le_of_ble_eq_true rfl) dX11_set_112)) rfl (fun _ => rfl) (fun _ => rfl) (fun u_24 H1 locs hp hw26 => ?_)
              obtain ⟨noldest_27, nundoable_28, nplplanned_29⟩ := u_24
              generalize H1 = H at hw26 ⊢
              have hw30 : WD D A s.heap (WZ_LVP cI cJ mv mr (upd (upd (upd (upd (upd (upd (upd (upd (upd mi 1 noldest_27) 2 nundoable_28) 5 nflakes_18) 6 nmargin_19) 7 ndusk_20) 8 ndue_21) 20 nnlamp_22) 22 nnsnow_17) 81 nplplanned_29) mf mg) H locs := hw26
              obtain ⟨hp_31, hp_32⟩ := hp
              have hp_31 : noldest_27.toInt = 0 := hp_31
              have hp_32 : nundoable_28.toInt = 0 := hp_32
              refine lv_iconst (pc := 115) (v := 1) E.1 E.2.1 dX11_set_115 (by decide +kernel) ?_
              exact em_z (w1 := (fun (u : (Nat → Int32) × (Nat → Nat → Int32) × (Nat → Nat → Int64)) => (WZ_LVP cI cJ mv mr u.1 u.2.1 u.2.2))) E hr hlk ((upd (upd (upd (upd (upd (upd (upd (upd (upd mi 1 noldest_27) 2 nundoable_28) 5 nflakes_18) 6 nmargin_19) 7 ndusk_20) 8 ndue_21) 20 nnlamp_22) 22 nnsnow_17) 81 nplplanned_29), mf, mg) hw30 ⟨(by show 0 ≤ noldest_27.toInt; have k_0 : (1 : Int32).toInt = 1 := (by decide +kernel); omega), (by show noldest_27.toInt ≤ 5; have k_0 : (1 : Int32).toInt = 1 := (by decide +kernel); omega), (by show 0 ≤ nundoable_28.toInt; have k_0 : (1 : Int32).toInt = 1 := (by decide +kernel); omega), (by show nundoable_28.toInt ≤ 6; have k_0 : (1 : Int32).toInt = 1 := (by decide +kernel); omega), h2.1, h2.2, h3.1, h3.2, h4.1, h4.2, h5.1, h5.2, h6.1, h6.2, h7.1, h7.2, rfl, rfl, a_p_from, a_p_to, a_t_marks, a_u_marks, rfl, rfl⟩ (by decide +kernel) (Nat.le_of_ble_eq_true rfl) (Nat.le_of_ble_eq_true rfl) dX11_set_116
            · skip
              have hc_12 := nleE (a := z_what.toInt) (b := 5) rfl (by decide +kernel) c_12
              refine lv_aload_n (pc := 68) E.1 E.2.1 dX11_set_68 rfl (lv_at hl3 0 rfl) ?_
              refine x_get (pc := 69) (T := TX11) (N := 13) (ci := 11) (v := .ref (mr 3)) E hw1 inX11 0 0 q_606 rfl rfl (by decide) rfl rfl dX11_set_69 ?_
              refine x_get (pc := 72) (T := TX10) (N := 17) (ci := 10) (v := .ref (mr 26)) E hw1 inX10 1 1 q_463 rfl rfl (by decide) rfl rfl dX11_set_72 ?_
              refine lv_iload_n (pc := 75) E.1 E.2.1 dX11_set_75 rfl (lv_at hl3 2 rfl) ?_
              refine ck_i (pc := 76) (ws' := (fun (u : Unit) => (WZ_LVP cI cJ mv mr mi mf mg))) [false, false, false, false, false, false, false, false, false, false, false, false, false, true, true, true, true, true, true, true, true, false, false, false, false, false, false, false, false, false, false, false, false, false, false, false, false, false, false, false, false, false, false, false, false, false, false, false, false, false, false, false] hw1 rfl (fun hC_ => (rn_V (As := [.int z_who]) (rest := []) E hw1 (t_has l D cI cJ _ (shf 26 mr) (shf 26 mi) (shf 26 mf) (shf 26 mg) z_who (vl [mv 9])) (gdV q_674 q_675 q_676 q_154 q_677) hdV_X1_has ⟨rfl, rfl⟩ ⟨(Nat.le_of_ble_eq_true rfl), (Nat.le_of_ble_eq_true rfl)⟩ ⟨(Nat.le_of_ble_eq_true rfl), (Nat.le_of_ble_eq_true rfl)⟩ xT_b xT_at 13 1 rfl rfl rfl _ hC_ (nd_T _ 0) rfl hl3.1 rfl (Nat.le_of_ble_eq_true rfl) dX11_set_76)) rfl (fun _ => rfl) (fun _ => rfl) (fun r_34 u_33 H1 locs hp hw35 => ?_)
              generalize H1 = H at hw35 ⊢
              have hw36 : WD D A s.heap (WZ_LVP cI cJ mv mr mi mf mg) H locs := hw35
              have hp_37 := hp
              rcases hp_37 with ⟨rfl, ha_38, ha_39, ha_40⟩ | ⟨rfl, ha_41⟩ | ⟨rfl, ha_42⟩ | ⟨rfl, ha_43⟩
              · skip
                have ha_38 : 0 ≤ z_who.toInt := ha_38
                have ha_39 : z_who.toInt + 1 ≤ (mi 32).toInt := ha_39
                have ha_40 : z_who.toInt ≤ 9 := ha_40
                refine lv_if_ne (pc := 79) (tgt := 84) E.1 E.2.1 dX11_set_79 (by decide) (fun _ => ?_) (fun c_44 => absurd c_44 (mneE (a := 1) (b := 0) (by decide +kernel) (by decide +kernel) (by omega)))
                refine lv_iload_n (pc := 84) E.1 E.2.1 dX11_set_84 rfl (lv_at hl3 1 rfl) ?_
                refine lv_iconst (pc := 85) (v := 5) E.1 E.2.1 dX11_set_85 (by decide +kernel) ?_
                refine lv_icmp_le (pc := 86) (tgt := 102) E.1 E.2.1 dX11_set_86 (by decide) (fun c_45 => absurd c_45 (mnleE (a := z_what.toInt) (b := 5) rfl (by decide +kernel) (by omega))) (fun _ => ?_)
                refine lv_aload_n (pc := 89) E.1 E.2.1 dX11_set_89 rfl (lv_at hl3 0 rfl) ?_
                refine x_get (pc := 90) (T := TX11) (N := 13) (ci := 11) (v := .ref (mr 3)) E hw36 inX11 0 0 q_606 rfl rfl (by decide) rfl rfl dX11_set_90 ?_
                refine lv_iload_n (pc := 93) E.1 E.2.1 dX11_set_93 rfl (lv_at hl3 1 rfl) ?_
                refine lv_iload_n (pc := 94) E.1 E.2.1 dX11_set_94 rfl (lv_at hl3 2 rfl) ?_
                refine lv_iload_n (pc := 95) E.1 E.2.1 dX11_set_95 rfl (lv_at hl3 3 rfl) ?_
                refine ck_v (pc := 96) (ws' := (fun (u : (Nat → Int32) × (Nat → Int32) × (Nat → Int32) × (Nat → Int32) × (Nat → Int32)) => (WZ_LVP cI cJ mv mr mi (va_up (va_up (va_up (va_up (va_up mf 14 u.2.1) 15 u.2.2.1) 28 u.1) 29 u.2.2.2.1) 30 u.2.2.2.2) mg))) [false, true, true, true, true, true, true, true, true, true, true, true, true, true, true, true, true, true, true, true, true, true, true, true, true, true, true, true, true, true, true, true, true, true, true, true, true, true, true, true, true, true, true, true, true, true, true, true, true, true, true, false] hw36 rfl (fun hC_ => (rn_V (As := [.int z_what, .int z_who, .int z_v]) (rest := []) E hw36 (t_tellOfHouse l D cI cJ _ (shf 3 mr) (shf 3 mi) (shf 3 mf) (shf 3 mg) z_what z_who z_v (vl [mv 9]) (by show 0 ≤ z_who.toInt ∧ z_who.toInt ≤ 9; omega)) (gdV q_678 q_679 q_680 q_152 q_681) hdV_X10_tellOfHouse ⟨rfl, rfl⟩ ⟨(Nat.le_of_ble_eq_true rfl), (Nat.le_of_ble_eq_true rfl)⟩ ⟨(Nat.le_of_ble_eq_true rfl), (Nat.le_of_ble_eq_true rfl)⟩ xT_b xT_at 1 10 rfl rfl rfl _ hC_ (nd_T _ 0) rfl hl3.1 rfl (Nat.le_of_ble_eq_true rfl) dX11_set_96)) rfl (fun _ => rfl) (fun _ => rfl) (fun u_46 H1 locs hp hw48 => ?_)
                obtain ⟨ghpeople_49, gnoil_50, gnowed_51, ghbid_52, ghsays_53⟩ := u_46
                generalize H1 = H at hw48 ⊢
                have hw54 : WD D A s.heap (WZ_LVP cI cJ mv mr mi (va_up (va_up (va_up (va_up (va_up mf 14 gnoil_50) 15 gnowed_51) 28 ghpeople_49) 29 ghbid_52) 30 ghsays_53) mg) H locs := hw48
                refine lv_goto (pc := 99) (tgt := 111) E.1 E.2.1 dX11_set_99 (by decide) ?_
                refine lv_aload_n (pc := 111) E.1 E.2.1 dX11_set_111 rfl (lv_at hl3 0 rfl) ?_
                refine ck_v (pc := 112) (ws' := (fun (u : Int32 × Int32 × Int32) => (WZ_LVP cI cJ mv mr (upd (upd (upd mi 1 u.1) 2 u.2.1) 81 u.2.2) (va_up (va_up (va_up (va_up (va_up mf 14 gnoil_50) 15 gnowed_51) 28 ghpeople_49) 29 ghbid_52) 30 ghsays_53) mg))) [true, false, false, false, false, false, false, false, false, false, false, false, false, false, false, false, false, false, false, false, false, false, false, false, false, false, false, false, false, false, false, false, false, false, false, false, false, false, false, false, false, false, false, false, false, false, false, false, false, false, false, true] hw54 rfl (fun hC_ => (rn_V (As := []) (rest := []) E hw54 (t_forgetNightsP l D cI cJ _ (shg 3 0 77 mr) (shg 3 0 77 mi) (shg 3 0 77 (va_up (va_up (va_up (va_up (va_up mf 14 gnoil_50) 15 gnowed_51) 28 ghpeople_49) 29 ghbid_52) 30 ghsays_53)) (shg 3 0 77 mg) (vl [.ref (mr 3), mv 0, mv 1, mv 2, mv 3, mv 4, mv 5, mv 6, mv 7, mv 8, mv 10, mv 11, mv 12, mv 13, mv 14, mv 15])) (gdV q_650 q_652 q_0 q_151 q_653) hdV_X11_forgetNights ⟨rfl, rfl⟩ ⟨(Nat.le_of_ble_eq_true rfl), (Nat.le_of_ble_eq_true rfl)⟩ ⟨(Nat.le_of_ble_eq_true rfl), (Nat.le_of_ble_eq_true rfl)⟩ xT_b xT_at 0 11 rfl rfl rfl _ hC_ (nd_T _ 0) rfl hl3.1 rfl (Nat.le_of_ble_eq_true rfl) dX11_set_112)) rfl (fun _ => rfl) (fun _ => rfl) (fun u_55 H1 locs hp hw57 => ?_)
                obtain ⟨noldest_58, nundoable_59, nplplanned_60⟩ := u_55
                generalize H1 = H at hw57 ⊢
                have hw61 : WD D A s.heap (WZ_LVP cI cJ mv mr (upd (upd (upd mi 1 noldest_58) 2 nundoable_59) 81 nplplanned_60) (va_up (va_up (va_up (va_up (va_up mf 14 gnoil_50) 15 gnowed_51) 28 ghpeople_49) 29 ghbid_52) 30 ghsays_53) mg) H locs := hw57
                obtain ⟨hp_62, hp_63⟩ := hp
                have hp_62 : noldest_58.toInt = 0 := hp_62
                have hp_63 : nundoable_59.toInt = 0 := hp_63
                refine lv_iconst (pc := 115) (v := 1) E.1 E.2.1 dX11_set_115 (by decide +kernel) ?_
                exact em_z (w1 := (fun (u : (Nat → Int32) × (Nat → Nat → Int32) × (Nat → Nat → Int64)) => (WZ_LVP cI cJ mv mr u.1 u.2.1 u.2.2))) E hr hlk ((upd (upd (upd mi 1 noldest_58) 2 nundoable_59) 81 nplplanned_60), (va_up (va_up (va_up (va_up (va_up mf 14 gnoil_50) 15 gnowed_51) 28 ghpeople_49) 29 ghbid_52) 30 ghsays_53), mg) hw61 ⟨(by show 0 ≤ noldest_58.toInt; have k_0 : (1 : Int32).toInt = 1 := (by decide +kernel); omega), (by show noldest_58.toInt ≤ 5; have k_0 : (1 : Int32).toInt = 1 := (by decide +kernel); omega), (by show 0 ≤ nundoable_59.toInt; have k_0 : (1 : Int32).toInt = 1 := (by decide +kernel); omega), (by show nundoable_59.toInt ≤ 6; have k_0 : (1 : Int32).toInt = 1 := (by decide +kernel); omega), h2.1, h2.2, h3.1, h3.2, h4.1, h4.2, h5.1, h5.2, h6.1, h6.2, h7.1, h7.2, rfl, rfl, a_p_from, a_p_to, a_t_marks, a_u_marks, rfl, rfl⟩ (by decide +kernel) (Nat.le_of_ble_eq_true rfl) (Nat.le_of_ble_eq_true rfl) dX11_set_116
              · skip
                have ha_41 : z_who.toInt + 1 ≤ 0 := ha_41
                refine lv_if_ne (pc := 79) (tgt := 84) E.1 E.2.1 dX11_set_79 (by decide) (fun c_64 => absurd (meqE (a := 0) (b := 0) (by decide +kernel) (by decide +kernel) (by omega)) c_64) (fun _ => ?_)
                refine lv_iconst (pc := 82) (v := 0) E.1 E.2.1 dX11_set_82 (by decide +kernel) ?_
                exact em_z (w1 := (fun (u : (Nat → Int32) × (Nat → Nat → Int32) × (Nat → Nat → Int64)) => (WZ_LVP cI cJ mv mr u.1 u.2.1 u.2.2))) E hr hlk (mi, mf, mg) hw36 ⟨h0.1, h0.2, h1.1, h1.2, h2.1, h2.2, h3.1, h3.2, h4.1, h4.2, h5.1, h5.2, h6.1, h6.2, h7.1, h7.2, rfl, rfl, a_p_from, a_p_to, a_t_marks, a_u_marks, rfl, rfl⟩ (by decide +kernel) (Nat.le_of_ble_eq_true rfl) (Nat.le_of_ble_eq_true rfl) dX11_set_83
              · skip
                have ha_42 : (mi 32).toInt ≤ z_who.toInt := ha_42
                refine lv_if_ne (pc := 79) (tgt := 84) E.1 E.2.1 dX11_set_79 (by decide) (fun c_65 => absurd (meqE (a := 0) (b := 0) (by decide +kernel) (by decide +kernel) (by omega)) c_65) (fun _ => ?_)
                refine lv_iconst (pc := 82) (v := 0) E.1 E.2.1 dX11_set_82 (by decide +kernel) ?_
                exact em_z (w1 := (fun (u : (Nat → Int32) × (Nat → Nat → Int32) × (Nat → Nat → Int64)) => (WZ_LVP cI cJ mv mr u.1 u.2.1 u.2.2))) E hr hlk (mi, mf, mg) hw36 ⟨h0.1, h0.2, h1.1, h1.2, h2.1, h2.2, h3.1, h3.2, h4.1, h4.2, h5.1, h5.2, h6.1, h6.2, h7.1, h7.2, rfl, rfl, a_p_from, a_p_to, a_t_marks, a_u_marks, rfl, rfl⟩ (by decide +kernel) (Nat.le_of_ble_eq_true rfl) (Nat.le_of_ble_eq_true rfl) dX11_set_83
              · skip
                have ha_43 : 10 ≤ z_who.toInt := ha_43
                refine lv_if_ne (pc := 79) (tgt := 84) E.1 E.2.1 dX11_set_79 (by decide) (fun c_66 => absurd (meqE (a := 0) (b := 0) (by decide +kernel) (by decide +kernel) (by omega)) c_66) (fun _ => ?_)
                refine lv_iconst (pc := 82) (v := 0) E.1 E.2.1 dX11_set_82 (by decide +kernel) ?_
                exact em_z (w1 := (fun (u : (Nat → Int32) × (Nat → Nat → Int32) × (Nat → Nat → Int64)) => (WZ_LVP cI cJ mv mr u.1 u.2.1 u.2.2))) E hr hlk (mi, mf, mg) hw36 ⟨h0.1, h0.2, h1.1, h1.2, h2.1, h2.2, h3.1, h3.2, h4.1, h4.2, h5.1, h5.2, h6.1, h6.2, h7.1, h7.2, rfl, rfl, a_p_from, a_p_to, a_t_marks, a_u_marks, rfl, rfl⟩ (by decide +kernel) (Nat.le_of_ble_eq_true rfl) (Nat.le_of_ble_eq_true rfl) dX11_set_83
          · skip
            have hc_11 := eqE (a := z_what.toInt) (b := 5) rfl (by decide +kernel) c_11
            refine lv_aload_n (pc := 47) E.1 E.2.1 dX11_set_47 rfl (lv_at hl3 0 rfl) ?_
            refine x_get (pc := 48) (T := TX11) (N := 13) (ci := 11) (v := .ref (mr 3)) E hw1 inX11 0 0 q_606 rfl rfl (by decide) rfl rfl dX11_set_48 ?_
            refine x_get (pc := 51) (T := TX10) (N := 17) (ci := 10) (v := .ref (mr 26)) E hw1 inX10 1 1 q_463 rfl rfl (by decide) rfl rfl dX11_set_51 ?_
            refine lv_iload_n (pc := 54) E.1 E.2.1 dX11_set_54 rfl (lv_at hl3 3 rfl) ?_
            refine ck_i (pc := 55) (ws' := (fun (u : Unit) => (WZ_LVP cI cJ mv mr mi mf mg))) [false, false, false, false, false, false, false, false, false, false, false, false, false, true, true, true, true, true, true, true, true, false, false, false, false, false, false, false, false, false, false, false, false, false, false, false, false, false, false, false, false, false, false, false, false, false, false, false, false, false, false, false] hw1 rfl (fun hC_ => (rn_V (As := [.int z_v]) (rest := []) E hw1 (t_has l D cI cJ _ (shf 26 mr) (shf 26 mi) (shf 26 mf) (shf 26 mg) z_v (vl [mv 9])) (gdV q_674 q_675 q_676 q_154 q_677) hdV_X1_has ⟨rfl, rfl⟩ ⟨(Nat.le_of_ble_eq_true rfl), (Nat.le_of_ble_eq_true rfl)⟩ ⟨(Nat.le_of_ble_eq_true rfl), (Nat.le_of_ble_eq_true rfl)⟩ xT_b xT_at 13 1 rfl rfl rfl _ hC_ (nd_T _ 0) rfl hl3.1 rfl (Nat.le_of_ble_eq_true rfl) dX11_set_55)) rfl (fun _ => rfl) (fun _ => rfl) (fun r_68 u_67 H1 locs hp hw69 => ?_)
            generalize H1 = H at hw69 ⊢
            have hw70 : WD D A s.heap (WZ_LVP cI cJ mv mr mi mf mg) H locs := hw69
            have hp_71 := hp
            rcases hp_71 with ⟨rfl, ha_72, ha_73, ha_74⟩ | ⟨rfl, ha_75⟩ | ⟨rfl, ha_76⟩ | ⟨rfl, ha_77⟩
            · skip
              have ha_72 : 0 ≤ z_v.toInt := ha_72
              have ha_73 : z_v.toInt + 1 ≤ (mi 32).toInt := ha_73
              have ha_74 : z_v.toInt ≤ 9 := ha_74
              refine lv_if_ne (pc := 58) (tgt := 63) E.1 E.2.1 dX11_set_58 (by decide) (fun _ => ?_) (fun c_78 => absurd c_78 (mneE (a := 1) (b := 0) (by decide +kernel) (by decide +kernel) (by omega)))
              refine lv_iload_n (pc := 63) E.1 E.2.1 dX11_set_63 rfl (lv_at hl3 1 rfl) ?_
              refine lv_iconst (pc := 64) (v := 5) E.1 E.2.1 dX11_set_64 (by decide +kernel) ?_
              refine lv_icmp_le (pc := 65) (tgt := 84) E.1 E.2.1 dX11_set_65 (by decide) (fun _ => ?_) (fun c_79 => absurd (mleE (a := z_what.toInt) (b := 5) rfl (by decide +kernel) (by omega)) c_79)
              refine lv_iload_n (pc := 84) E.1 E.2.1 dX11_set_84 rfl (lv_at hl3 1 rfl) ?_
              refine lv_iconst (pc := 85) (v := 5) E.1 E.2.1 dX11_set_85 (by decide +kernel) ?_
              refine lv_icmp_le (pc := 86) (tgt := 102) E.1 E.2.1 dX11_set_86 (by decide) (fun _ => ?_) (fun c_80 => absurd (mleE (a := z_what.toInt) (b := 5) rfl (by decide +kernel) (by omega)) c_80)
              refine lv_aload_n (pc := 102) E.1 E.2.1 dX11_set_102 rfl (lv_at hl3 0 rfl) ?_
              refine x_get (pc := 103) (T := TX11) (N := 13) (ci := 11) (v := .ref (mr 3)) E hw70 inX11 0 0 q_606 rfl rfl (by decide) rfl rfl dX11_set_103 ?_
              refine lv_iload_n (pc := 106) E.1 E.2.1 dX11_set_106 rfl (lv_at hl3 1 rfl) ?_
              refine lv_iload_n (pc := 107) E.1 E.2.1 dX11_set_107 rfl (lv_at hl3 3 rfl) ?_
              refine ck_v (pc := 108) (ws' := (fun (u : Int32 × Int32 × Int32 × Int32 × Int32 × Int32) => (WZ_LVP cI cJ mv mr (upd (upd (upd (upd (upd (upd mi 5 u.2.1) 6 u.2.2.1) 7 u.2.2.2.1) 8 u.2.2.2.2.1) 20 u.2.2.2.2.2) 22 u.1) mf mg))) [false, true, true, true, true, true, true, true, true, true, true, true, true, true, true, true, true, true, true, true, true, true, true, true, true, true, true, true, true, true, true, true, true, true, true, true, true, true, true, true, true, true, true, true, true, true, true, true, true, true, true, false] hw70 rfl (fun hC_ => (rn_V (As := [.int z_what, .int z_v]) (rest := []) E hw70 (t_tellOfAll l D cI cJ _ (shf 3 mr) (shf 3 mi) (shf 3 mf) (shf 3 mg) z_what z_v (vl [mv 9])) (gdV q_682 q_683 q_684 q_152 q_685) hdV_X10_tellOfAll ⟨rfl, rfl⟩ ⟨(Nat.le_of_ble_eq_true rfl), (Nat.le_of_ble_eq_true rfl)⟩ ⟨(Nat.le_of_ble_eq_true rfl), (Nat.le_of_ble_eq_true rfl)⟩ xT_b xT_at 1 10 rfl rfl rfl _ hC_ (nd_T _ 0) rfl hl3.1 rfl (Nat.le_of_ble_eq_true rfl) dX11_set_108)) rfl (fun _ => rfl) (fun _ => rfl) (fun u_81 H1 locs hp hw83 => ?_)
              obtain ⟨nnsnow_84, nflakes_85, nmargin_86, ndusk_87, ndue_88, nnlamp_89⟩ := u_81
              generalize H1 = H at hw83 ⊢
              have hw90 : WD D A s.heap (WZ_LVP cI cJ mv mr (upd (upd (upd (upd (upd (upd mi 5 nflakes_85) 6 nmargin_86) 7 ndusk_87) 8 ndue_88) 20 nnlamp_89) 22 nnsnow_84) mf mg) H locs := hw83
              refine lv_aload_n (pc := 111) E.1 E.2.1 dX11_set_111 rfl (lv_at hl3 0 rfl) ?_
              refine ck_v (pc := 112) (ws' := (fun (u : Int32 × Int32 × Int32) => (WZ_LVP cI cJ mv mr (upd (upd (upd (upd (upd (upd (upd (upd (upd mi 1 u.1) 2 u.2.1) 5 nflakes_85) 6 nmargin_86) 7 ndusk_87) 8 ndue_88) 20 nnlamp_89) 22 nnsnow_84) 81 u.2.2) mf mg))) [true, false, false, false, false, false, false, false, false, false, false, false, false, false, false, false, false, false, false, false, false, false, false, false, false, false, false, false, false, false, false, false, false, false, false, false, false, false, false, false, false, false, false, false, false, false, false, false, false, false, false, true] hw90 rfl (fun hC_ => (rn_V (As := []) (rest := []) E hw90 (t_forgetNightsP l D cI cJ _ (shg 3 0 77 mr) (shg 3 0 77 (upd (upd (upd (upd (upd (upd mi 5 nflakes_85) 6 nmargin_86) 7 ndusk_87) 8 ndue_88) 20 nnlamp_89) 22 nnsnow_84)) (shg 3 0 77 mf) (shg 3 0 77 mg) (vl [.ref (mr 3), mv 0, mv 1, mv 2, mv 3, mv 4, mv 5, mv 6, mv 7, mv 8, mv 10, mv 11, mv 12, mv 13, mv 14, mv 15])) (gdV q_650 q_652 q_0 q_151 q_653) hdV_X11_forgetNights ⟨rfl, rfl⟩ ⟨(Nat.le_of_ble_eq_true rfl), (Nat.le_of_ble_eq_true rfl)⟩ ⟨(Nat.le_of_ble_eq_true rfl), (Nat.le_of_ble_eq_true rfl)⟩ xT_b xT_at 0 11 rfl rfl rfl _ hC_ (nd_T _ 0) rfl hl3.1 rfl (Nat.le_of_ble_eq_true rfl) dX11_set_112)) rfl (fun _ => rfl) (fun _ => rfl) (fun u_91 H1 locs hp hw93 => ?_)
              obtain ⟨noldest_94, nundoable_95, nplplanned_96⟩ := u_91
              generalize H1 = H at hw93 ⊢
              have hw97 : WD D A s.heap (WZ_LVP cI cJ mv mr (upd (upd (upd (upd (upd (upd (upd (upd (upd mi 1 noldest_94) 2 nundoable_95) 5 nflakes_85) 6 nmargin_86) 7 ndusk_87) 8 ndue_88) 20 nnlamp_89) 22 nnsnow_84) 81 nplplanned_96) mf mg) H locs := hw93
              obtain ⟨hp_98, hp_99⟩ := hp
              have hp_98 : noldest_94.toInt = 0 := hp_98
              have hp_99 : nundoable_95.toInt = 0 := hp_99
              refine lv_iconst (pc := 115) (v := 1) E.1 E.2.1 dX11_set_115 (by decide +kernel) ?_
              exact em_z (w1 := (fun (u : (Nat → Int32) × (Nat → Nat → Int32) × (Nat → Nat → Int64)) => (WZ_LVP cI cJ mv mr u.1 u.2.1 u.2.2))) E hr hlk ((upd (upd (upd (upd (upd (upd (upd (upd (upd mi 1 noldest_94) 2 nundoable_95) 5 nflakes_85) 6 nmargin_86) 7 ndusk_87) 8 ndue_88) 20 nnlamp_89) 22 nnsnow_84) 81 nplplanned_96), mf, mg) hw97 ⟨(by show 0 ≤ noldest_94.toInt; have k_0 : (1 : Int32).toInt = 1 := (by decide +kernel); omega), (by show noldest_94.toInt ≤ 5; have k_0 : (1 : Int32).toInt = 1 := (by decide +kernel); omega), (by show 0 ≤ nundoable_95.toInt; have k_0 : (1 : Int32).toInt = 1 := (by decide +kernel); omega), (by show nundoable_95.toInt ≤ 6; have k_0 : (1 : Int32).toInt = 1 := (by decide +kernel); omega), h2.1, h2.2, h3.1, h3.2, h4.1, h4.2, h5.1, h5.2, h6.1, h6.2, h7.1, h7.2, rfl, rfl, a_p_from, a_p_to, a_t_marks, a_u_marks, rfl, rfl⟩ (by decide +kernel) (Nat.le_of_ble_eq_true rfl) (Nat.le_of_ble_eq_true rfl) dX11_set_116
            · skip
              have ha_75 : z_v.toInt + 1 ≤ 0 := ha_75
              refine lv_if_ne (pc := 58) (tgt := 63) E.1 E.2.1 dX11_set_58 (by decide) (fun c_100 => absurd (meqE (a := 0) (b := 0) (by decide +kernel) (by decide +kernel) (by omega)) c_100) (fun _ => ?_)
              refine lv_iconst (pc := 61) (v := 0) E.1 E.2.1 dX11_set_61 (by decide +kernel) ?_
              exact em_z (w1 := (fun (u : (Nat → Int32) × (Nat → Nat → Int32) × (Nat → Nat → Int64)) => (WZ_LVP cI cJ mv mr u.1 u.2.1 u.2.2))) E hr hlk (mi, mf, mg) hw70 ⟨h0.1, h0.2, h1.1, h1.2, h2.1, h2.2, h3.1, h3.2, h4.1, h4.2, h5.1, h5.2, h6.1, h6.2, h7.1, h7.2, rfl, rfl, a_p_from, a_p_to, a_t_marks, a_u_marks, rfl, rfl⟩ (by decide +kernel) (Nat.le_of_ble_eq_true rfl) (Nat.le_of_ble_eq_true rfl) dX11_set_62
            · skip
              have ha_76 : (mi 32).toInt ≤ z_v.toInt := ha_76
              refine lv_if_ne (pc := 58) (tgt := 63) E.1 E.2.1 dX11_set_58 (by decide) (fun c_101 => absurd (meqE (a := 0) (b := 0) (by decide +kernel) (by decide +kernel) (by omega)) c_101) (fun _ => ?_)
              refine lv_iconst (pc := 61) (v := 0) E.1 E.2.1 dX11_set_61 (by decide +kernel) ?_
              exact em_z (w1 := (fun (u : (Nat → Int32) × (Nat → Nat → Int32) × (Nat → Nat → Int64)) => (WZ_LVP cI cJ mv mr u.1 u.2.1 u.2.2))) E hr hlk (mi, mf, mg) hw70 ⟨h0.1, h0.2, h1.1, h1.2, h2.1, h2.2, h3.1, h3.2, h4.1, h4.2, h5.1, h5.2, h6.1, h6.2, h7.1, h7.2, rfl, rfl, a_p_from, a_p_to, a_t_marks, a_u_marks, rfl, rfl⟩ (by decide +kernel) (Nat.le_of_ble_eq_true rfl) (Nat.le_of_ble_eq_true rfl) dX11_set_62
            · skip
              have ha_77 : 10 ≤ z_v.toInt := ha_77
              refine lv_if_ne (pc := 58) (tgt := 63) E.1 E.2.1 dX11_set_58 (by decide) (fun c_102 => absurd (meqE (a := 0) (b := 0) (by decide +kernel) (by decide +kernel) (by omega)) c_102) (fun _ => ?_)
              refine lv_iconst (pc := 61) (v := 0) E.1 E.2.1 dX11_set_61 (by decide +kernel) ?_
              exact em_z (w1 := (fun (u : (Nat → Int32) × (Nat → Nat → Int32) × (Nat → Nat → Int64)) => (WZ_LVP cI cJ mv mr u.1 u.2.1 u.2.2))) E hr hlk (mi, mf, mg) hw70 ⟨h0.1, h0.2, h1.1, h1.2, h2.1, h2.2, h3.1, h3.2, h4.1, h4.2, h5.1, h5.2, h6.1, h6.2, h7.1, h7.2, rfl, rfl, a_p_from, a_p_to, a_t_marks, a_u_marks, rfl, rfl⟩ (by decide +kernel) (Nat.le_of_ble_eq_true rfl) (Nat.le_of_ble_eq_true rfl) dX11_set_62
        · skip
          have hc_10 := nleE (a := z_v.toInt) (b := v_9.toInt) rfl rfl c_10
          refine lv_iconst (pc := 40) (v := 0) E.1 E.2.1 dX11_set_40 (by decide +kernel) ?_
          exact em_z (w1 := (fun (u : (Nat → Int32) × (Nat → Nat → Int32) × (Nat → Nat → Int64)) => (WZ_LVP cI cJ mv mr u.1 u.2.1 u.2.2))) E hr hlk (mi, mf, mg) hw1 ⟨h0.1, h0.2, h1.1, h1.2, h2.1, h2.2, h3.1, h3.2, h4.1, h4.2, h5.1, h5.2, h6.1, h6.2, h7.1, h7.2, rfl, rfl, a_p_from, a_p_to, a_t_marks, a_u_marks, rfl, rfl⟩ (by decide +kernel) (Nat.le_of_ble_eq_true rfl) (Nat.le_of_ble_eq_true rfl) dX11_set_41
