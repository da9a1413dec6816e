set_option maxHeartbeats 4000000 in
set_option maxRecDepth 100000 in
theorem s_notesU (l : Launch) (D : va_G) (cI cJ : ClassId) (sz M : Nat) (mr : Nat → Nat) (mi : Nat → Int32) (mf : Nat → Nat → Int32) (mg : Nat → Nat → Int64) (z_h : Int32) (z_lit : Int32) (z_burnt : Int32) (z_done : Int32) (h0 : 0 ≤ ((mf 1) 2).toInt ∧ ((mf 1) 2).toInt ≤ 150) : Met l yX12_notes (Cond.code yX12_notes cX12_notes 6 none :: GW) ({ frames := 1, cells := 0, slots := 0, locals := 40 } : Room) (va_Pc [.ref M, .int z_h, .int z_lit, .int z_burnt, .int z_done] (PW D cI cJ sz (MW cI cJ M mr mi mf mg) xT)) (va_Qv (fun (u : (Nat → Int32) × (Nat → Int32)) => (0 ≤ (u.1 2).toInt ∧ (u.1 2).toInt ≤ 150) ∧ ((u.1 3).toInt = ((mf 1) 3).toInt) ∧ ((u.1 5).toInt = ((mf 1) 5).toInt) ∧ ((u.1 0).toInt = ((mf 1) 0).toInt)) (fun u => QW D cI cJ (va_A (MW cI cJ M mr mi mf mg) sz) ((fun (u : (Nat → Int32) × (Nat → Int32)) => (MW cI cJ M mr mi (va_up (va_up mf 1 u.1) 16 u.2) mg)) u)) (va_A (MW cI cJ M mr mi mf mg) sz)) 0 0 (va_A (MW cI cJ M mr mi mf mg) sz) := by
  refine mk_met (y := yX12_notes) (bytes := cX12_notes) (maxL := 6) (avs := [.ref M, .int z_h, .int z_lit, .int z_burnt, .int z_done]) (WS := (MW cI cJ M mr mi mf mg)) (Qf := fun A => va_Qv (fun (u : (Nat → Int32) × (Nat → Int32)) => (0 ≤ (u.1 2).toInt ∧ (u.1 2).toInt ≤ 150) ∧ ((u.1 3).toInt = ((mf 1) 3).toInt) ∧ ((u.1 5).toInt = ((mf 1) 5).toInt) ∧ ((u.1 0).toInt = ((mf 1) 0).toInt)) (fun u => QW D cI cJ A ((fun (u : (Nat → Int32) × (Nat → Int32)) => (MW cI cJ M mr mi (va_up (va_up mf 1 u.1) 16 u.2) mg)) u)) A) (by decide) (Nat.le_of_ble_eq_true rfl) ?_
  intro p e s m below meth c A ls E hr hlk hnm hX hw1 hl2
  have hl3 : lv_has ls 6 [(0, .ref M), (1, .int z_h), (2, .int z_lit), (3, .int z_burnt), (4, .int z_done)] := hl2
  refine lv_aload_n (pc := 0) E.1 E.2.1 dX12_notes_0 rfl (lv_at hl3 0 rfl) ?_
  refine x_get (pc := 1) (T := TX12) (N := 70) (ci := 12) (v := .int (mi 5)) E hw1 inX12 0 5 q_1404 rfl rfl (by decide) rfl rfl dX12_notes_1 ?_
  refine lv_if_ne (pc := 4) (tgt := 19) E.1 E.2.1 dX12_notes_4 (by decide) (fun c_4 => ?_) (fun c_4 => ?_)
  · skip
    have hc_4 := neE (a := (mi 5).toInt) (b := 0) rfl (by decide +kernel) c_4
    exact em_v (w1 := (fun (u : (Nat → Int32) × (Nat → Int32)) => (MW cI cJ M mr mi (va_up (va_up mf 1 u.1) 16 u.2) mg))) E hr hlk ((mf 1), (mf 16)) hw1 ⟨(by show 0 ≤ ((mf 1) 2).toInt ∧ ((mf 1) 2).toInt ≤ 150; omega), (by show ((mf 1) 3).toInt = ((mf 1) 3).toInt; omega), (by show ((mf 1) 5).toInt = ((mf 1) 5).toInt; omega), (by show ((mf 1) 0).toInt = ((mf 1) 0).toInt; omega)⟩ (Nat.le_of_ble_eq_true rfl) (Nat.le_of_ble_eq_true rfl) dX12_notes_19
  · skip
    have hc_4 := eqE (a := (mi 5).toInt) (b := 0) rfl (by decide +kernel) c_4
    refine lv_aload_n (pc := 7) E.1 E.2.1 dX12_notes_7 rfl (lv_at hl3 0 rfl) ?_
    refine x_get (pc := 8) (T := TX12) (N := 70) (ci := 12) (v := .ref (mr 1)) E hw1 inX12 0 1 q_1400 rfl rfl (by decide) rfl rfl dX12_notes_8 ?_
    refine lv_iconst (pc := 11) (v := 2) E.1 E.2.1 dX12_notes_11 (by decide +kernel) ?_
    refine x_iald (pc := 12) (f := (mf 1)) E hw1 1 rfl (inbE (a := 2) (by decide +kernel) (by omega)) dX12_notes_12 ?_
    refine lv_topi (fun v_5 ev_5 => ?_)
    have hv_5 : v_5.toInt = ((mf 1) 2).toInt := by rw [ev_5]; rfl
    refine lv_sipush (pc := 13) (v := 150) E.1 E.2.1 dX12_notes_13 (by decide +kernel) ?_
    refine lv_icmp_ne (pc := 16) (tgt := 20) E.1 E.2.1 dX12_notes_16 (by decide) (fun c_6 => ?_) (fun c_6 => ?_)
    · skip
      have hc_6 := neE (a := v_5.toInt) (b := 150) rfl (by decide +kernel) c_6
      refine lv_bipush (pc := 20) (v := 6) E.1 E.2.1 dX12_notes_20 (by decide +kernel) ?_
      refine lv_aload_n (pc := 22) E.1 E.2.1 dX12_notes_22 rfl (lv_at hl3 0 rfl) ?_
      refine x_get (pc := 23) (T := TX12) (N := 70) (ci := 12) (v := .ref (mr 1)) E hw1 inX12 0 1 q_1400 rfl rfl (by decide) rfl rfl dX12_notes_23 ?_
      refine lv_iconst (pc := 26) (v := 2) E.1 E.2.1 dX12_notes_26 (by decide +kernel) ?_
      refine x_iald (pc := 27) (f := (mf 1)) E hw1 1 rfl (inbE (a := 2) (by decide +kernel) (by omega)) dX12_notes_27 ?_
      refine lv_topi (fun v_7 ev_7 => ?_)
      have hv_7 : v_7.toInt = ((mf 1) 2).toInt := by rw [ev_7]; rfl
      have hsv_7 : v_7.toInt = v_5.toInt := by rw [ev_7, ev_5]
      refine lv_imul (pc := 28) E.1 E.2.1 dX12_notes_28 ?_
      refine lv_topi (fun v_8 ev_8 => ?_)
      have hv_8 : v_8.toInt = 6 * v_7.toInt := by rw [ev_8]; exact mulE (by decide +kernel) rfl (by omega)
      refine lv_istore (pc := 29) (lv' := [(5, .int v_8), (0, .ref M), (1, .int z_h), (2, .int z_lit), (3, .int z_burnt), (4, .int z_done)]) E.1 E.2.1 dX12_notes_29 hl3 (by decide) rfl (fun ls hl9 => ?_)
      refine lv_aload_n (pc := 31) E.1 E.2.1 dX12_notes_31 rfl (lv_at hl9 1 rfl) ?_
      refine x_get (pc := 32) (T := TX12) (N := 70) (ci := 12) (v := .ref (mr 16)) E hw1 inX12 0 16 q_1415 rfl rfl (by decide) rfl rfl dX12_notes_32 ?_
      refine lv_iload (pc := 35) E.1 E.2.1 dX12_notes_35 (lv_at hl9 0 rfl) ?_
      refine lv_aload_n (pc := 37) E.1 E.2.1 dX12_notes_37 rfl (lv_at hl9 1 rfl) ?_
      refine x_get (pc := 38) (T := TX12) (N := 70) (ci := 12) (v := .ref (mr 1)) E hw1 inX12 0 1 q_1400 rfl rfl (by decide) rfl rfl dX12_notes_38 ?_
      refine lv_iconst (pc := 41) (v := 0) E.1 E.2.1 dX12_notes_41 (by decide +kernel) ?_
      refine x_iald (pc := 42) (f := (mf 1)) E hw1 1 rfl (inbE (a := 0) (by decide +kernel) (by omega)) dX12_notes_42 ?_
      refine lv_topi (fun v_10 ev_10 => ?_)
      have hv_10 : v_10.toInt = ((mf 1) 0).toInt := by rw [ev_10]; rfl
      refine x_iastG (pc := 43) (f := (mf 16)) (wf := fun g => (MW cI cJ M mr mi (va_up mf 16 g) mg)) E hw1 9 rfl (inbE (a := v_8.toInt) rfl (by omega)) (fun _ => rfl) dX12_notes_43 (fun g_11 H locs eg_11 hw12 => ?_)
      refine lv_aload_n (pc := 44) E.1 E.2.1 dX12_notes_44 rfl (lv_at hl9 1 rfl) ?_
      refine x_get (pc := 45) (T := TX12) (N := 70) (ci := 12) (v := .ref (mr 16)) E hw12 inX12 0 16 q_1415 rfl rfl (by decide) rfl rfl dX12_notes_45 ?_
      refine lv_iload (pc := 48) E.1 E.2.1 dX12_notes_48 (lv_at hl9 0 rfl) ?_
      refine lv_iconst (pc := 50) (v := 1) E.1 E.2.1 dX12_notes_50 (by decide +kernel) ?_
      refine lv_iadd (pc := 51) E.1 E.2.1 dX12_notes_51 ?_
      refine lv_topi (fun v_13 ev_13 => ?_)
      have hv_13 : v_13.toInt = v_8.toInt + 1 := by rw [ev_13]; exact addE rfl (by decide +kernel) (by omega)
      refine lv_iload_n (pc := 52) E.1 E.2.1 dX12_notes_52 rfl (lv_at hl9 2 rfl) ?_
      refine x_iastG (pc := 53) (f := g_11) (wf := fun g => (MW cI cJ M mr mi (va_up mf 16 g) mg)) E hw12 9 rfl (inbE (a := v_13.toInt) rfl (by omega)) (fun _ => rfl) dX12_notes_53 (fun g_14 H locs eg_14 hw15 => ?_)
      refine lv_aload_n (pc := 54) E.1 E.2.1 dX12_notes_54 rfl (lv_at hl9 1 rfl) ?_
      refine x_get (pc := 55) (T := TX12) (N := 70) (ci := 12) (v := .ref (mr 16)) E hw15 inX12 0 16 q_1415 rfl rfl (by decide) rfl rfl dX12_notes_55 ?_
      refine lv_iload (pc := 58) E.1 E.2.1 dX12_notes_58 (lv_at hl9 0 rfl) ?_
      refine lv_iconst (pc := 60) (v := 2) E.1 E.2.1 dX12_notes_60 (by decide +kernel) ?_
      refine lv_iadd (pc := 61) E.1 E.2.1 dX12_notes_61 ?_
      refine lv_topi (fun v_16 ev_16 => ?_)
      have hv_16 : v_16.toInt = v_8.toInt + 2 := by rw [ev_16]; exact addE rfl (by decide +kernel) (by omega)
      refine lv_iload_n (pc := 62) E.1 E.2.1 dX12_notes_62 rfl (lv_at hl9 3 rfl) ?_
      refine lv_if_eq (pc := 63) (tgt := 70) E.1 E.2.1 dX12_notes_63 (by decide) (fun c_17 => ?_) (fun c_17 => ?_)
      · skip
        have hc_17 := eqE (a := z_lit.toInt) (b := 0) rfl (by decide +kernel) c_17
        refine lv_iconst (pc := 70) (v := 0) E.1 E.2.1 dX12_notes_70 (by decide +kernel) ?_
        refine x_iastG (pc := 71) (f := g_14) (wf := fun g => (MW cI cJ M mr mi (va_up mf 16 g) mg)) E hw15 9 rfl (inbE (a := v_16.toInt) rfl (by omega)) (fun _ => rfl) dX12_notes_71 (fun g_18 H locs eg_18 hw19 => ?_)
        refine lv_aload_n (pc := 72) E.1 E.2.1 dX12_notes_72 rfl (lv_at hl9 1 rfl) ?_
        refine x_get (pc := 73) (T := TX12) (N := 70) (ci := 12) (v := .ref (mr 16)) E hw19 inX12 0 16 q_1415 rfl rfl (by decide) rfl rfl dX12_notes_73 ?_
        refine lv_iload (pc := 76) E.1 E.2.1 dX12_notes_76 (lv_at hl9 0 rfl) ?_
        refine lv_iconst (pc := 78) (v := 3) E.1 E.2.1 dX12_notes_78 (by decide +kernel) ?_
        refine lv_iadd (pc := 79) E.1 E.2.1 dX12_notes_79 ?_
        refine lv_topi (fun v_20 ev_20 => ?_)
        have hv_20 : v_20.toInt = v_8.toInt + 3 := by rw [ev_20]; exact addE rfl (by decide +kernel) (by omega)
        refine lv_iload_n (pc := 80) E.1 E.2.1 dX12_notes_80 rfl (lv_at hl9 4 rfl) ?_
        refine x_iastG (pc := 81) (f := g_18) (wf := fun g => (MW cI cJ M mr mi (va_up mf 16 g) mg)) E hw19 9 rfl (inbE (a := v_20.toInt) rfl (by omega)) (fun _ => rfl) dX12_notes_81 (fun g_21 H locs eg_21 hw22 => ?_)
        refine lv_aload_n (pc := 82) E.1 E.2.1 dX12_notes_82 rfl (lv_at hl9 1 rfl) ?_
        refine x_get (pc := 83) (T := TX12) (N := 70) (ci := 12) (v := .ref (mr 16)) E hw22 inX12 0 16 q_1415 rfl rfl (by decide) rfl rfl dX12_notes_83 ?_
        refine lv_iload (pc := 86) E.1 E.2.1 dX12_notes_86 (lv_at hl9 0 rfl) ?_
        refine lv_iconst (pc := 88) (v := 4) E.1 E.2.1 dX12_notes_88 (by decide +kernel) ?_
        refine lv_iadd (pc := 89) E.1 E.2.1 dX12_notes_89 ?_
        refine lv_topi (fun v_23 ev_23 => ?_)
        have hv_23 : v_23.toInt = v_8.toInt + 4 := by rw [ev_23]; exact addE rfl (by decide +kernel) (by omega)
        refine lv_aload_n (pc := 90) E.1 E.2.1 dX12_notes_90 rfl (lv_at hl9 1 rfl) ?_
        refine x_get (pc := 91) (T := TX12) (N := 70) (ci := 12) (v := .ref (mr 1)) E hw22 inX12 0 1 q_1400 rfl rfl (by decide) rfl rfl dX12_notes_91 ?_
        refine lv_iconst (pc := 94) (v := 4) E.1 E.2.1 dX12_notes_94 (by decide +kernel) ?_
        refine x_iald (pc := 95) (f := (mf 1)) E hw22 1 rfl (inbE (a := 4) (by decide +kernel) (by omega)) dX12_notes_95 ?_
        refine lv_topi (fun v_24 ev_24 => ?_)
        refine x_iastG (pc := 96) (f := g_21) (wf := fun g => (MW cI cJ M mr mi (va_up mf 16 g) mg)) E hw22 9 rfl (inbE (a := v_23.toInt) rfl (by omega)) (fun _ => rfl) dX12_notes_96 (fun g_25 H locs eg_25 hw26 => ?_)
        refine lv_aload_n (pc := 97) E.1 E.2.1 dX12_notes_97 rfl (lv_at hl9 1 rfl) ?_
        refine x_get (pc := 98) (T := TX12) (N := 70) (ci := 12) (v := .ref (mr 16)) E hw26 inX12 0 16 q_1415 rfl rfl (by decide) rfl rfl dX12_notes_98 ?_
        refine lv_iload (pc := 101) E.1 E.2.1 dX12_notes_101 (lv_at hl9 0 rfl) ?_
        refine lv_iconst (pc := 103) (v := 5) E.1 E.2.1 dX12_notes_103 (by decide +kernel) ?_
        refine lv_iadd (pc := 104) E.1 E.2.1 dX12_notes_104 ?_
        refine lv_topi (fun v_27 ev_27 => ?_)
        have hv_27 : v_27.toInt = v_8.toInt + 5 := by rw [ev_27]; exact addE rfl (by decide +kernel) (by omega)
        refine lv_iload (pc := 105) E.1 E.2.1 dX12_notes_105 (lv_at hl9 5 rfl) ?_
        refine x_iastG (pc := 107) (f := g_25) (wf := fun g => (MW cI cJ M mr mi (va_up mf 16 g) mg)) E hw26 9 rfl (inbE (a := v_27.toInt) rfl (by omega)) (fun _ => rfl) dX12_notes_107 (fun g_28 H locs eg_28 hw29 => ?_)
        refine lv_aload_n (pc := 108) E.1 E.2.1 dX12_notes_108 rfl (lv_at hl9 1 rfl) ?_
        refine x_get (pc := 109) (T := TX12) (N := 70) (ci := 12) (v := .ref (mr 1)) E hw29 inX12 0 1 q_1400 rfl rfl (by decide) rfl rfl dX12_notes_109 ?_
        refine lv_iconst (pc := 112) (v := 2) E.1 E.2.1 dX12_notes_112 (by decide +kernel) ?_
        refine lv_aload_n (pc := 113) E.1 E.2.1 dX12_notes_113 rfl (lv_at hl9 1 rfl) ?_
        refine x_get (pc := 114) (T := TX12) (N := 70) (ci := 12) (v := .ref (mr 1)) E hw29 inX12 0 1 q_1400 rfl rfl (by decide) rfl rfl dX12_notes_114 ?_
        refine lv_iconst (pc := 117) (v := 2) E.1 E.2.1 dX12_notes_117 (by decide +kernel) ?_
        refine x_iald (pc := 118) (f := (mf 1)) E hw29 1 rfl (inbE (a := 2) (by decide +kernel) (by omega)) dX12_notes_118 ?_
        refine lv_topi (fun v_30 ev_30 => ?_)
        have hv_30 : v_30.toInt = ((mf 1) 2).toInt := by rw [ev_30]; rfl
        have hsv_30 : v_30.toInt = v_7.toInt := by rw [ev_30, ev_7]
        refine lv_iconst (pc := 119) (v := 1) E.1 E.2.1 dX12_notes_119 (by decide +kernel) ?_
        refine lv_iadd (pc := 120) E.1 E.2.1 dX12_notes_120 ?_
        refine lv_topi (fun v_31 ev_31 => ?_)
        have hv_31 : v_31.toInt = v_30.toInt + 1 := by rw [ev_31]; exact addE rfl (by decide +kernel) (by omega)
        refine x_iastG (pc := 121) (f := (mf 1)) (wf := fun g => (MW cI cJ M mr mi (va_up (va_up mf 1 g) 16 g_28) mg)) E hw29 1 rfl (inbE (a := 2) (by decide +kernel) (by omega)) (fun _ => rfl) dX12_notes_121 (fun g_32 H locs eg_32 hw33 => ?_)
        have ht_34 : (g_32 0).toInt = ((mf 1) 0).toInt := by rw [eg_32]; rfl
        have ht_35 : (g_32 2).toInt = (v_31 : Int32).toInt := by rw [eg_32]; rfl
        have ht_36 : (g_32 3).toInt = ((mf 1) 3).toInt := by rw [eg_32]; rfl
        have ht_37 : (g_32 5).toInt = ((mf 1) 5).toInt := by rw [eg_32]; rfl
        exact em_v (w1 := (fun (u : (Nat → Int32) × (Nat → Int32)) => (MW cI cJ M mr mi (va_up (va_up mf 1 u.1) 16 u.2) mg))) E hr hlk (g_32, g_28) hw33 ⟨(by show 0 ≤ (g_32 2).toInt ∧ (g_32 2).toInt ≤ 150; omega), (by show (g_32 3).toInt = ((mf 1) 3).toInt; omega), (by show (g_32 5).toInt = ((mf 1) 5).toInt; omega), (by show (g_32 0).toInt = ((mf 1) 0).toInt; omega)⟩ (Nat.le_of_ble_eq_true rfl) (Nat.le_of_ble_eq_true rfl) dX12_notes_122
      · skip
        have hc_17 := neE (a := z_lit.toInt) (b := 0) rfl (by decide +kernel) c_17
        refine lv_iconst (pc := 66) (v := 1) E.1 E.2.1 dX12_notes_66 (by decide +kernel) ?_
        refine lv_goto (pc := 67) (tgt := 71) E.1 E.2.1 dX12_notes_67 (by decide) ?_
        refine x_iastG (pc := 71) (f := g_14) (wf := fun g => (MW cI cJ M mr mi (va_up mf 16 g) mg)) E hw15 9 rfl (inbE (a := v_16.toInt) rfl (by omega)) (fun _ => rfl) dX12_notes_71 (fun g_38 H locs eg_38 hw39 => ?_)
        refine lv_aload_n (pc := 72) E.1 E.2.1 dX12_notes_72 rfl (lv_at hl9 1 rfl) ?_
        refine x_get (pc := 73) (T := TX12) (N := 70) (ci := 12) (v := .ref (mr 16)) E hw39 inX12 0 16 q_1415 rfl rfl (by decide) rfl rfl dX12_notes_73 ?_
        refine lv_iload (pc := 76) E.1 E.2.1 dX12_notes_76 (lv_at hl9 0 rfl) ?_
        refine lv_iconst (pc := 78) (v := 3) E.1 E.2.1 dX12_notes_78 (by decide +kernel) ?_
        refine lv_iadd (pc := 79) E.1 E.2.1 dX12_notes_79 ?_
        refine lv_topi (fun v_40 ev_40 => ?_)
        have hv_40 : v_40.toInt = v_8.toInt + 3 := by rw [ev_40]; exact addE rfl (by decide +kernel) (by omega)
        refine lv_iload_n (pc := 80) E.1 E.2.1 dX12_notes_80 rfl (lv_at hl9 4 rfl) ?_
        refine x_iastG (pc := 81) (f := g_38) (wf := fun g => (MW cI cJ M mr mi (va_up mf 16 g) mg)) E hw39 9 rfl (inbE (a := v_40.toInt) rfl (by omega)) (fun _ => rfl) dX12_notes_81 (fun g_41 H locs eg_41 hw42 => ?_)
        refine lv_aload_n (pc := 82) E.1 E.2.1 dX12_notes_82 rfl (lv_at hl9 1 rfl) ?_
        refine x_get (pc := 83) (T := TX12) (N := 70) (ci := 12) (v := .ref (mr 16)) E hw42 inX12 0 16 q_1415 rfl rfl (by decide) rfl rfl dX12_notes_83 ?_
        refine lv_iload (pc := 86) E.1 E.2.1 dX12_notes_86 (lv_at hl9 0 rfl) ?_
        refine lv_iconst (pc := 88) (v := 4) E.1 E.2.1 dX12_notes_88 (by decide +kernel) ?_
        refine lv_iadd (pc := 89) E.1 E.2.1 dX12_notes_89 ?_
        refine lv_topi (fun v_43 ev_43 => ?_)
        have hv_43 : v_43.toInt = v_8.toInt + 4 := by rw [ev_43]; exact addE rfl (by decide +kernel) (by omega)
        refine lv_aload_n (pc := 90) E.1 E.2.1 dX12_notes_90 rfl (lv_at hl9 1 rfl) ?_
        refine x_get (pc := 91) (T := TX12) (N := 70) (ci := 12) (v := .ref (mr 1)) E hw42 inX12 0 1 q_1400 rfl rfl (by decide) rfl rfl dX12_notes_91 ?_
        refine lv_iconst (pc := 94) (v := 4) E.1 E.2.1 dX12_notes_94 (by decide +kernel) ?_
        refine x_iald (pc := 95) (f := (mf 1)) E hw42 1 rfl (inbE (a := 4) (by decide +kernel) (by omega)) dX12_notes_95 ?_
        refine lv_topi (fun v_44 ev_44 => ?_)
        refine x_iastG (pc := 96) (f := g_41) (wf := fun g => (MW cI cJ M mr mi (va_up mf 16 g) mg)) E hw42 9 rfl (inbE (a := v_43.toInt) rfl (by omega)) (fun _ => rfl) dX12_notes_96 (fun g_45 H locs eg_45 hw46 => ?_)
        refine lv_aload_n (pc := 97) E.1 E.2.1 dX12_notes_97 rfl (lv_at hl9 1 rfl) ?_
        refine x_get (pc := 98) (T := TX12) (N := 70) (ci := 12) (v := .ref (mr 16)) E hw46 inX12 0 16 q_1415 rfl rfl (by decide) rfl rfl dX12_notes_98 ?_
        refine lv_iload (pc := 101) E.1 E.2.1 dX12_notes_101 (lv_at hl9 0 rfl) ?_
        refine lv_iconst (pc := 103) (v := 5) E.1 E.2.1 dX12_notes_103 (by decide +kernel) ?_
        refine lv_iadd (pc := 104) E.1 E.2.1 dX12_notes_104 ?_
        refine lv_topi (fun v_47 ev_47 => ?_)
        have hv_47 : v_47.toInt = v_8.toInt + 5 := by rw [ev_47]; exact addE rfl (by decide +kernel) (by omega)
        refine lv_iload (pc := 105) E.1 E.2.1 dX12_notes_105 (lv_at hl9 5 rfl) ?_
        refine x_iastG (pc := 107) (f := g_45) (wf := fun g => (MW cI cJ M mr mi (va_up mf 16 g) mg)) E hw46 9 rfl (inbE (a := v_47.toInt) rfl (by omega)) (fun _ => rfl) dX12_notes_107 (fun g_48 H locs eg_48 hw49 => ?_)
        refine lv_aload_n (pc := 108) E.1 E.2.1 dX12_notes_108 rfl (lv_at hl9 1 rfl) ?_
        refine x_get (pc := 109) (T := TX12) (N := 70) (ci := 12) (v := .ref (mr 1)) E hw49 inX12 0 1 q_1400 rfl rfl (by decide) rfl rfl dX12_notes_109 ?_
        refine lv_iconst (pc := 112) (v := 2) E.1 E.2.1 dX12_notes_112 (by decide +kernel) ?_
        refine lv_aload_n (pc := 113) E.1 E.2.1 dX12_notes_113 rfl (lv_at hl9 1 rfl) ?_
        refine x_get (pc := 114) (T := TX12) (N := 70) (ci := 12) (v := .ref (mr 1)) E hw49 inX12 0 1 q_1400 rfl rfl (by decide) rfl rfl dX12_notes_114 ?_
        refine lv_iconst (pc := 117) (v := 2) E.1 E.2.1 dX12_notes_117 (by decide +kernel) ?_
        refine x_iald (pc := 118) (f := (mf 1)) E hw49 1 rfl (inbE (a := 2) (by decide +kernel) (by omega)) dX12_notes_118 ?_
        refine lv_topi (fun v_50 ev_50 => ?_)
        have hv_50 : v_50.toInt = ((mf 1) 2).toInt := by rw [ev_50]; rfl
        have hsv_50 : v_50.toInt = v_7.toInt := by rw [ev_50, ev_7]
        refine lv_iconst (pc := 119) (v := 1) E.1 E.2.1 dX12_notes_119 (by decide +kernel) ?_
        refine lv_iadd (pc := 120) E.1 E.2.1 dX12_notes_120 ?_
        refine lv_topi (fun v_51 ev_51 => ?_)
        have hv_51 : v_51.toInt = v_50.toInt + 1 := by rw [ev_51]; exact addE rfl (by decide +kernel) (by omega)
        refine x_iastG (pc := 121) (f := (mf 1)) (wf := fun g => (MW cI cJ M mr mi (va_up (va_up mf 1 g) 16 g_48) mg)) E hw49 1 rfl (inbE (a := 2) (by decide +kernel) (by omega)) (fun _ => rfl) dX12_notes_121 (fun g_52 H locs eg_52 hw53 => ?_)
        have ht_54 : (g_52 0).toInt = ((mf 1) 0).toInt := by rw [eg_52]; rfl
        have ht_55 : (g_52 2).toInt = (v_51 : Int32).toInt := by rw [eg_52]; rfl
        have ht_56 : (g_52 3).toInt = ((mf 1) 3).toInt := by rw [eg_52]; rfl
        have ht_57 : (g_52 5).toInt = ((mf 1) 5).toInt := by rw [eg_52]; rfl
        exact em_v (w1 := (fun (u : (Nat → Int32) × (Nat → Int32)) => (MW cI cJ M mr mi (va_up (va_up mf 1 u.1) 16 u.2) mg))) E hr hlk (g_52, g_48) hw53 ⟨(by show 0 ≤ (g_52 2).toInt ∧ (g_52 2).toInt ≤ 150; omega), (by show (g_52 3).toInt = ((mf 1) 3).toInt; omega), (by show (g_52 5).toInt = ((mf 1) 5).toInt; omega), (by show (g_52 0).toInt = ((mf 1) 0).toInt; omega)⟩ (Nat.le_of_ble_eq_true rfl) (Nat.le_of_ble_eq_true rfl) dX12_notes_122
    · skip
      have hc_6 := eqE (a := v_5.toInt) (b := 150) rfl (by decide +kernel) c_6
      exact em_v (w1 := (fun (u : (Nat → Int32) × (Nat → Int32)) => (MW cI cJ M mr mi (va_up (va_up mf 1 u.1) 16 u.2) mg))) E hr hlk ((mf 1), (mf 16)) hw1 ⟨(by show 0 ≤ ((mf 1) 2).toInt ∧ ((mf 1) 2).toInt ≤ 150; omega), (by show ((mf 1) 3).toInt = ((mf 1) 3).toInt; omega), (by show ((mf 1) 5).toInt = ((mf 1) 5).toInt; omega), (by show ((mf 1) 0).toInt = ((mf 1) 0).toInt; omega)⟩ (Nat.le_of_ble_eq_true rfl) (Nat.le_of_ble_eq_true rfl) dX12_notes_19

set_option maxHeartbeats 4000000 in
set_option maxRecDepth 100000 in
theorem s_snowsU (l : Launch) (D : va_G) (cI cJ : ClassId) (sz M : Nat) (mr : Nat → Nat) (mi : Nat → Int32) (mf : Nat → Nat → Int32) (mg : Nat → Nat → Int64)   : Met l yX12_snows (Cond.code yX12_snows cX12_snows 1 none :: GW) ({ frames := 2, cells := 0, slots := 0, locals := 63 } : Room) (va_Pc [.ref M] (PW D cI cJ sz (MW cI cJ M mr mi mf mg) xT)) (va_Qv (fun (u : (Nat → Int32)) => ((u 2).toInt = ((mf 1) 2).toInt) ∧ ((u 3).toInt = ((mf 1) 3).toInt) ∧ ((u 5).toInt = ((mf 1) 5).toInt) ∧ ((u 0).toInt = ((mf 1) 0).toInt)) (fun u => QW D cI cJ (va_A (MW cI cJ M mr mi mf mg) sz) ((fun (u : (Nat → Int32)) => (MW cI cJ M mr mi (va_up mf 1 u) mg)) u)) (va_A (MW cI cJ M mr mi mf mg) sz)) 0 0 (va_A (MW cI cJ M mr mi mf mg) sz) := by
  refine mk_met (y := yX12_snows) (bytes := cX12_snows) (maxL := 1) (avs := [.ref M]) (WS := (MW cI cJ M mr mi mf mg)) (Qf := fun A => va_Qv (fun (u : (Nat → Int32)) => ((u 2).toInt = ((mf 1) 2).toInt) ∧ ((u 3).toInt = ((mf 1) 3).toInt) ∧ ((u 5).toInt = ((mf 1) 5).toInt) ∧ ((u 0).toInt = ((mf 1) 0).toInt)) (fun u => QW D cI cJ A ((fun (u : (Nat → Int32)) => (MW cI cJ M mr mi (va_up mf 1 u) mg)) u)) A) (by decide) (Nat.le_of_ble_eq_true rfl) ?_
  intro p e s m below meth c A ls E hr hlk hnm hX hw1 hl2
  have hl3 : lv_has ls 1 [(0, .ref M)] := hl2
  refine lv_aload_n (pc := 0) E.1 E.2.1 dX12_snows_0 rfl (lv_at hl3 0 rfl) ?_
  refine x_get (pc := 1) (T := TX12) (N := 70) (ci := 12) (v := .int (mi 5)) E hw1 inX12 0 5 q_1404 rfl rfl (by decide) rfl rfl dX12_snows_1 ?_
  refine lv_if_ne (pc := 4) (tgt := 14) E.1 E.2.1 dX12_snows_4 (by decide) (fun c_4 => ?_) (fun c_4 => ?_)
  · skip
    have hc_4 := neE (a := (mi 5).toInt) (b := 0) rfl (by decide +kernel) c_4
    exact em_v (w1 := (fun (u : (Nat → Int32)) => (MW cI cJ M mr mi (va_up mf 1 u) mg))) E hr hlk (mf 1) hw1 ⟨(by show ((mf 1) 2).toInt = ((mf 1) 2).toInt; omega), (by show ((mf 1) 3).toInt = ((mf 1) 3).toInt; omega), (by show ((mf 1) 5).toInt = ((mf 1) 5).toInt; omega), (by show ((mf 1) 0).toInt = ((mf 1) 0).toInt; omega)⟩ (Nat.le_of_ble_eq_true rfl) (Nat.le_of_ble_eq_true rfl) dX12_snows_14
  · skip
    have hc_4 := eqE (a := (mi 5).toInt) (b := 0) rfl (by decide +kernel) c_4
    refine lv_aload_n (pc := 7) E.1 E.2.1 dX12_snows_7 rfl (lv_at hl3 0 rfl) ?_
    refine x_get (pc := 8) (T := TX12) (N := 70) (ci := 12) (v := .int (mi 12)) E hw1 inX12 0 12 q_1411 rfl rfl (by decide) rfl rfl dX12_snows_8 ?_
    refine lv_if_ne (pc := 11) (tgt := 15) E.1 E.2.1 dX12_snows_11 (by decide) (fun c_5 => ?_) (fun c_5 => ?_)
    · skip
      have hc_5 := neE (a := (mi 12).toInt) (b := 0) rfl (by decide +kernel) c_5
      refine lv_aload_n (pc := 15) E.1 E.2.1 dX12_snows_15 rfl (lv_at hl3 0 rfl) ?_
      refine x_get (pc := 16) (T := TX12) (N := 70) (ci := 12) (v := .ref (mr 1)) E hw1 inX12 0 1 q_1400 rfl rfl (by decide) rfl rfl dX12_snows_16 ?_
      refine lv_iconst (pc := 19) (v := 4) E.1 E.2.1 dX12_snows_19 (by decide +kernel) ?_
      refine lv_aload_n (pc := 20) E.1 E.2.1 dX12_snows_20 rfl (lv_at hl3 0 rfl) ?_
      refine lv_sipush (pc := 21) (v := 1000) E.1 E.2.1 dX12_snows_21 (by decide +kernel) ?_
      refine cm_i (pc := 24) hw1 (rn_M (As := [.int 1000]) (rest := [.int 4, .ref (mr 1)]) E hw1 (s_drawU l D cI cJ _ M mr mi mf mg 1000 (by show 1 ≤ (1000 : Int32).toInt; have k_0 : (1000 : Int32).toInt = 1000 := (by decide +kernel); omega)) (gdV q_1923 q_1925 q_113 q_162 q_1926) hdV_X12_draw ⟨rfl, rfl⟩ ⟨(Nat.le_of_ble_eq_true rfl), (Nat.le_of_ble_eq_true rfl)⟩ ⟨(Nat.le_of_ble_eq_true rfl), (Nat.le_of_ble_eq_true rfl)⟩ 12 rfl rfl rfl rfl hl3.1 rfl (Nat.le_of_ble_eq_true rfl) dX12_snows_24) (fun r_7 u_6 H1 locs hp hw8 => ?_)
      obtain ⟨gnow_9, rfl⟩ : ∃ z, z = u_6 := ⟨_, rfl⟩
      generalize H1 = H at hw8 ⊢
      have hw10 : WD D A s.heap (MW cI cJ M mr mi (va_up mf 1 gnow_9) mg) H locs := hw8
      obtain ⟨hp_11, hp_12, hp_13, hp_14⟩ := hp
      have hp_11 : (gnow_9 2).toInt = ((mf 1) 2).toInt := hp_11
      have hp_12 : (gnow_9 3).toInt = ((mf 1) 3).toInt := hp_12
      have hp_13 : (gnow_9 5).toInt = ((mf 1) 5).toInt := hp_13
      have hp_14 : (gnow_9 0).toInt = ((mf 1) 0).toInt := hp_14
      refine lv_aload_n (pc := 27) E.1 E.2.1 dX12_snows_27 rfl (lv_at hl3 0 rfl) ?_
      refine x_get (pc := 28) (T := TX12) (N := 70) (ci := 12) (v := .int (mi 12)) E hw10 inX12 0 12 q_1411 rfl rfl (by decide) rfl rfl dX12_snows_28 ?_
      refine lv_icmp_ge (pc := 31) (tgt := 52) E.1 E.2.1 dX12_snows_31 (by decide) (fun c_15 => ?_) (fun c_15 => ?_)
      · skip
        have hc_15 := leE (a := (mi 12).toInt) (b := r_7.toInt) rfl rfl c_15
        refine lv_aload_n (pc := 52) E.1 E.2.1 dX12_snows_52 rfl (lv_at hl3 0 rfl) ?_
        refine lv_aload_n (pc := 53) E.1 E.2.1 dX12_snows_53 rfl (lv_at hl3 0 rfl) ?_
        refine x_get (pc := 54) (T := TX12) (N := 70) (ci := 12) (v := .ref (mr 1)) E hw10 inX12 0 1 q_1400 rfl rfl (by decide) rfl rfl dX12_snows_54 ?_
        refine lv_iconst (pc := 57) (v := 4) E.1 E.2.1 dX12_snows_57 (by decide +kernel) ?_
        refine x_iald (pc := 58) (f := gnow_9) E hw10 1 rfl (inbE (a := 4) (by decide +kernel) (by omega)) dX12_snows_58 ?_
        refine lv_topi (fun v_16 ev_16 => ?_)
        refine lv_iconst (pc := 59) (v := 1) E.1 E.2.1 dX12_snows_59 (by decide +kernel) ?_
        refine lv_isub (pc := 60) E.1 E.2.1 dX12_snows_60 ?_
        refine lv_topi (fun v_17 ev_17 => ?_)
        refine lv_iconst (pc := 61) (v := 0) E.1 E.2.1 dX12_snows_61 (by decide +kernel) ?_
        refine lv_bipush (pc := 62) (v := 9) E.1 E.2.1 dX12_snows_62 (by decide +kernel) ?_
        refine cm_i (pc := 64) hw10 (rn_M (As := [.int v_17, .int 0, .int 9]) (rest := [.int 4, .ref (mr 1)]) E hw10 (s_held l D cI cJ _ M mr mi (va_up mf 1 gnow_9) mg v_17 0 9 (by show (0 : Int32).toInt ≤ (9 : Int32).toInt; have k_0 : (0 : Int32).toInt = 0 := (by decide +kernel); have k_1 : (9 : Int32).toInt = 9 := (by decide +kernel); omega)) (gdV q_1895 q_1897 q_106 q_162 q_1898) hdV_X12_held ⟨rfl, rfl⟩ ⟨(Nat.le_of_ble_eq_true rfl), (Nat.le_of_ble_eq_true rfl)⟩ ⟨(Nat.le_of_ble_eq_true rfl), (Nat.le_of_ble_eq_true rfl)⟩ 12 rfl rfl rfl rfl hl3.1 rfl (Nat.le_of_ble_eq_true rfl) dX12_snows_64) (fun r_19 u_18 H1 locs hp hw20 => ?_)
        generalize H1 = H at hw20 ⊢
        have hw21 : WD D A s.heap (MW cI cJ M mr mi (va_up mf 1 gnow_9) mg) H locs := hw20
        have hp_22 := hp
        have hp_22 : (0 : Int32).toInt ≤ r_19.toInt ∧ r_19.toInt ≤ (9 : Int32).toInt := hp_22
        rw [show (0 : Int32).toInt = 0 from by decide +kernel] at hp_22
        rw [show (9 : Int32).toInt = 9 from by decide +kernel] at hp_22
        refine x_iastG (pc := 67) (f := gnow_9) (wf := fun g => (MW cI cJ M mr mi (va_up mf 1 g) mg)) E hw21 1 rfl (inbE (a := 4) (by decide +kernel) (by omega)) (fun _ => rfl) dX12_snows_67 (fun g_23 H locs eg_23 hw24 => ?_)
        have ht_25 : (g_23 0).toInt = (gnow_9 0).toInt := by rw [eg_23]; rfl
        have ht_26 : (g_23 2).toInt = (gnow_9 2).toInt := by rw [eg_23]; rfl
        have ht_27 : (g_23 3).toInt = (gnow_9 3).toInt := by rw [eg_23]; rfl
        have ht_28 : (g_23 5).toInt = (gnow_9 5).toInt := by rw [eg_23]; rfl
        exact em_v (w1 := (fun (u : (Nat → Int32)) => (MW cI cJ M mr mi (va_up mf 1 u) mg))) E hr hlk g_23 hw24 ⟨(by show (g_23 2).toInt = ((mf 1) 2).toInt; omega), (by show (g_23 3).toInt = ((mf 1) 3).toInt; omega), (by show (g_23 5).toInt = ((mf 1) 5).toInt; omega), (by show (g_23 0).toInt = ((mf 1) 0).toInt; omega)⟩ (Nat.le_of_ble_eq_true rfl) (Nat.le_of_ble_eq_true rfl) dX12_snows_68
      · skip
        have hc_15 := nleE (a := (mi 12).toInt) (b := r_7.toInt) rfl rfl c_15
        refine lv_aload_n (pc := 34) E.1 E.2.1 dX12_snows_34 rfl (lv_at hl3 0 rfl) ?_
        refine lv_aload_n (pc := 35) E.1 E.2.1 dX12_snows_35 rfl (lv_at hl3 0 rfl) ?_
        refine x_get (pc := 36) (T := TX12) (N := 70) (ci := 12) (v := .ref (mr 1)) E hw10 inX12 0 1 q_1400 rfl rfl (by decide) rfl rfl dX12_snows_36 ?_
        refine lv_iconst (pc := 39) (v := 4) E.1 E.2.1 dX12_snows_39 (by decide +kernel) ?_
        refine x_iald (pc := 40) (f := gnow_9) E hw10 1 rfl (inbE (a := 4) (by decide +kernel) (by omega)) dX12_snows_40 ?_
        refine lv_topi (fun v_29 ev_29 => ?_)
        refine lv_iconst (pc := 41) (v := 1) E.1 E.2.1 dX12_snows_41 (by decide +kernel) ?_
        refine lv_iadd (pc := 42) E.1 E.2.1 dX12_snows_42 ?_
        refine lv_topi (fun v_30 ev_30 => ?_)
        refine lv_iconst (pc := 43) (v := 0) E.1 E.2.1 dX12_snows_43 (by decide +kernel) ?_
        refine lv_bipush (pc := 44) (v := 9) E.1 E.2.1 dX12_snows_44 (by decide +kernel) ?_
        refine cm_i (pc := 46) hw10 (rn_M (As := [.int v_30, .int 0, .int 9]) (rest := [.int 4, .ref (mr 1)]) E hw10 (s_held l D cI cJ _ M mr mi (va_up mf 1 gnow_9) mg v_30 0 9 (by show (0 : Int32).toInt ≤ (9 : Int32).toInt; have k_0 : (0 : Int32).toInt = 0 := (by decide +kernel); have k_1 : (9 : Int32).toInt = 9 := (by decide +kernel); omega)) (gdV q_1895 q_1897 q_106 q_162 q_1898) hdV_X12_held ⟨rfl, rfl⟩ ⟨(Nat.le_of_ble_eq_true rfl), (Nat.le_of_ble_eq_true rfl)⟩ ⟨(Nat.le_of_ble_eq_true rfl), (Nat.le_of_ble_eq_true rfl)⟩ 12 rfl rfl rfl rfl hl3.1 rfl (Nat.le_of_ble_eq_true rfl) dX12_snows_46) (fun r_32 u_31 H1 locs hp hw33 => ?_)
        generalize H1 = H at hw33 ⊢
        have hw34 : WD D A s.heap (MW cI cJ M mr mi (va_up mf 1 gnow_9) mg) H locs := hw33
        have hp_35 := hp
        have hp_35 : (0 : Int32).toInt ≤ r_32.toInt ∧ r_32.toInt ≤ (9 : Int32).toInt := hp_35
        rw [show (0 : Int32).toInt = 0 from by decide +kernel] at hp_35
        rw [show (9 : Int32).toInt = 9 from by decide +kernel] at hp_35
        refine lv_goto (pc := 49) (tgt := 67) E.1 E.2.1 dX12_snows_49 (by decide) ?_
        refine x_iastG (pc := 67) (f := gnow_9) (wf := fun g => (MW cI cJ M mr mi (va_up mf 1 g) mg)) E hw34 1 rfl (inbE (a := 4) (by decide +kernel) (by omega)) (fun _ => rfl) dX12_snows_67 (fun g_36 H locs eg_36 hw37 => ?_)
        have ht_38 : (g_36 0).toInt = (gnow_9 0).toInt := by rw [eg_36]; rfl
        have ht_39 : (g_36 2).toInt = (gnow_9 2).toInt := by rw [eg_36]; rfl
        have ht_40 : (g_36 3).toInt = (gnow_9 3).toInt := by rw [eg_36]; rfl
        have ht_41 : (g_36 5).toInt = (gnow_9 5).toInt := by rw [eg_36]; rfl
        exact em_v (w1 := (fun (u : (Nat → Int32)) => (MW cI cJ M mr mi (va_up mf 1 u) mg))) E hr hlk g_36 hw37 ⟨(by show (g_36 2).toInt = ((mf 1) 2).toInt; omega), (by show (g_36 3).toInt = ((mf 1) 3).toInt; omega), (by show (g_36 5).toInt = ((mf 1) 5).toInt; omega), (by show (g_36 0).toInt = ((mf 1) 0).toInt; omega)⟩ (Nat.le_of_ble_eq_true rfl) (Nat.le_of_ble_eq_true rfl) dX12_snows_68
    · skip
      have hc_5 := eqE (a := (mi 12).toInt) (b := 0) rfl (by decide +kernel) c_5
      exact em_v (w1 := (fun (u : (Nat → Int32)) => (MW cI cJ M mr mi (va_up mf 1 u) mg))) E hr hlk (mf 1) hw1 ⟨(by show ((mf 1) 2).toInt = ((mf 1) 2).toInt; omega), (by show ((mf 1) 3).toInt = ((mf 1) 3).toInt; omega), (by show ((mf 1) 5).toInt = ((mf 1) 5).toInt; omega), (by show ((mf 1) 0).toInt = ((mf 1) 0).toInt; omega)⟩ (Nat.le_of_ble_eq_true rfl) (Nat.le_of_ble_eq_true rfl) dX12_snows_14

set_option maxHeartbeats 4000000 in
set_option maxRecDepth 100000 in
theorem s_nextByRoundU (l : Launch) (D : va_G) (cI cJ : ClassId) (sz M : Nat) (mr : Nat → Nat) (mi : Nat → Int32) (mf : Nat → Nat → Int32) (mg : Nat → Nat → Int64)  (h0 : 0 ≤ ((mf 1) 3).toInt) (h1 : ((mf 1) 3).toInt + 1 ≤ (mi 6).toInt) (h2 : (mi 6).toInt ≤ 10) (h3 : 0 ≤ ((mf 1) 5).toInt) (h4 : ((mf 1) 5).toInt + 1 ≤ (mi 49).toInt) (h5 : (mi 49).toInt ≤ 200) (lf_round : rndOK (mi 49).toInt (mi 6).toInt (mf 50)) : Met l yX12_nextByRound (Cond.code yX12_nextByRound cX12_nextByRound 2 (some .int) :: GW) ({ frames := 3, cells := 0, slots := 0, locals := 82 } : Room) (va_Pc [.ref M] (PW D cI cJ sz (MW cI cJ M mr mi mf mg) xT)) (va_Qi (fun (r : Int32) (u : (Nat → Int32)) => (0 ≤ r.toInt) ∧ (r.toInt + 1 ≤ (mi 6).toInt) ∧ ((u 2).toInt = ((mf 1) 2).toInt) ∧ ((u 3).toInt = ((mf 1) 3).toInt) ∧ ((u 5).toInt = ((mf 1) 5).toInt + 1) ∧ ((u 0).toInt = ((mf 1) 0).toInt)) (fun u => QW D cI cJ (va_A (MW cI cJ M mr mi mf mg) sz) ((fun (u : (Nat → Int32)) => (MW cI cJ M mr mi (va_up mf 1 u) mg)) u)) (va_A (MW cI cJ M mr mi mf mg) sz)) 0 0 (va_A (MW cI cJ M mr mi mf mg) sz) := by
  refine mk_met (y := yX12_nextByRound) (bytes := cX12_nextByRound) (maxL := 2) (avs := [.ref M]) (WS := (MW cI cJ M mr mi mf mg)) (Qf := fun A => va_Qi (fun (r : Int32) (u : (Nat → Int32)) => (0 ≤ r.toInt) ∧ (r.toInt + 1 ≤ (mi 6).toInt) ∧ ((u 2).toInt = ((mf 1) 2).toInt) ∧ ((u 3).toInt = ((mf 1) 3).toInt) ∧ ((u 5).toInt = ((mf 1) 5).toInt + 1) ∧ ((u 0).toInt = ((mf 1) 0).toInt)) (fun u => QW D cI cJ A ((fun (u : (Nat → Int32)) => (MW cI cJ M mr mi (va_up mf 1 u) mg)) u)) A) (by decide) (Nat.le_of_ble_eq_true rfl) ?_
  intro p e s m below meth c A ls E hr hlk hnm hX hw1 hl2
  have hl3 : lv_has ls 2 [(0, .ref M)] := hl2
  refine lv_aload_n (pc := 0) E.1 E.2.1 dX12_nextByRound_0 rfl (lv_at hl3 0 rfl) ?_
  refine x_get (pc := 1) (T := TX12) (N := 70) (ci := 12) (v := .ref (mr 50)) E hw1 inX12 0 50 q_1449 rfl rfl (by decide) rfl rfl dX12_nextByRound_1 ?_
  refine lv_aload_n (pc := 4) E.1 E.2.1 dX12_nextByRound_4 rfl (lv_at hl3 0 rfl) ?_
  refine x_get (pc := 5) (T := TX12) (N := 70) (ci := 12) (v := .ref (mr 1)) E hw1 inX12 0 1 q_1400 rfl rfl (by decide) rfl rfl dX12_nextByRound_5 ?_
  refine lv_iconst (pc := 8) (v := 5) E.1 E.2.1 dX12_nextByRound_8 (by decide +kernel) ?_
  refine x_iald (pc := 9) (f := (mf 1)) E hw1 1 rfl (inbE (a := 5) (by decide +kernel) (by omega)) dX12_nextByRound_9 ?_
  refine lv_topi (fun v_4 ev_4 => ?_)
  have hv_4 : v_4.toInt = ((mf 1) 5).toInt := by rw [ev_4]; rfl
  refine x_iald (pc := 10) (f := (mf 50)) E hw1 25 rfl (inbE (a := v_4.toInt) rfl (by omega)) dX12_nextByRound_10 ?_
  refine lv_topi (fun v_5 ev_5 => ?_)
  have hr9 := rndOK_at lf_round ev_5 (by omega)
  refine lv_istore_n (pc := 11) (lv' := [(1, .int v_5), (0, .ref M)]) E.1 E.2.1 dX12_nextByRound_11 rfl hl3 (by decide) rfl (fun ls hl6 => ?_)
  refine lv_aload_n (pc := 12) E.1 E.2.1 dX12_nextByRound_12 rfl (lv_at hl6 1 rfl) ?_
  refine x_get (pc := 13) (T := TX12) (N := 70) (ci := 12) (v := .ref (mr 1)) E hw1 inX12 0 1 q_1400 rfl rfl (by decide) rfl rfl dX12_nextByRound_13 ?_
  refine lv_iconst (pc := 16) (v := 5) E.1 E.2.1 dX12_nextByRound_16 (by decide +kernel) ?_
  refine lv_aload_n (pc := 17) E.1 E.2.1 dX12_nextByRound_17 rfl (lv_at hl6 1 rfl) ?_
  refine x_get (pc := 18) (T := TX12) (N := 70) (ci := 12) (v := .ref (mr 1)) E hw1 inX12 0 1 q_1400 rfl rfl (by decide) rfl rfl dX12_nextByRound_18 ?_
  refine lv_iconst (pc := 21) (v := 5) E.1 E.2.1 dX12_nextByRound_21 (by decide +kernel) ?_
  refine x_iald (pc := 22) (f := (mf 1)) E hw1 1 rfl (inbE (a := 5) (by decide +kernel) (by omega)) dX12_nextByRound_22 ?_
  refine lv_topi (fun v_7 ev_7 => ?_)
  have hv_7 : v_7.toInt = ((mf 1) 5).toInt := by rw [ev_7]; rfl
  have hsv_7 : v_7.toInt = v_4.toInt := by rw [ev_7, ev_4]
  refine lv_iconst (pc := 23) (v := 1) E.1 E.2.1 dX12_nextByRound_23 (by decide +kernel) ?_
  refine lv_iadd (pc := 24) E.1 E.2.1 dX12_nextByRound_24 ?_
  refine lv_topi (fun v_8 ev_8 => ?_)
  have hv_8 : v_8.toInt = v_7.toInt + 1 := by rw [ev_8]; exact addE rfl (by decide +kernel) (by omega)
  refine x_iastG (pc := 25) (f := (mf 1)) (wf := fun g => (MW cI cJ M mr mi (va_up mf 1 g) mg)) E hw1 1 rfl (inbE (a := 5) (by decide +kernel) (by omega)) (fun _ => rfl) dX12_nextByRound_25 (fun g_9 H locs eg_9 hw10 => ?_)
  have ht_11 : (g_9 0).toInt = ((mf 1) 0).toInt := by rw [eg_9]; rfl
  have ht_12 : (g_9 2).toInt = ((mf 1) 2).toInt := by rw [eg_9]; rfl
  have ht_13 : (g_9 3).toInt = ((mf 1) 3).toInt := by rw [eg_9]; rfl
  have ht_14 : (g_9 5).toInt = (v_8 : Int32).toInt := by rw [eg_9]; rfl
  refine lv_iload_n (pc := 26) E.1 E.2.1 dX12_nextByRound_26 rfl (lv_at hl6 0 rfl) ?_
  refine lv_iconst (pc := 27) (v := (-1)) E.1 E.2.1 dX12_nextByRound_27 (by decide +kernel) ?_
  refine lv_icmp_eq (pc := 28) (tgt := 49) E.1 E.2.1 dX12_nextByRound_28 (by decide) (fun c_15 => ?_) (fun c_15 => ?_)
  · skip
    have hc_15 := eqE (a := v_5.toInt) (b := (-1)) rfl (by decide +kernel) c_15
    refine lv_aload_n (pc := 49) E.1 E.2.1 dX12_nextByRound_49 rfl (lv_at hl6 1 rfl) ?_
    refine x_get (pc := 50) (T := TX12) (N := 70) (ci := 12) (v := .ref (mr 1)) E hw10 inX12 0 1 q_1400 rfl rfl (by decide) rfl rfl dX12_nextByRound_50 ?_
    refine lv_iconst (pc := 53) (v := 3) E.1 E.2.1 dX12_nextByRound_53 (by decide +kernel) ?_
    refine x_iald (pc := 54) (f := g_9) E hw10 1 rfl (inbE (a := 3) (by decide +kernel) (by omega)) dX12_nextByRound_54 ?_
    refine lv_topi (fun v_16 ev_16 => ?_)
    have hv_16 : v_16.toInt = (g_9 3).toInt := by rw [ev_16]; rfl
    exact em_i (w1 := (fun (u : (Nat → Int32)) => (MW cI cJ M mr mi (va_up mf 1 u) mg))) E hr hlk g_9 hw10 ⟨(by show 0 ≤ v_16.toInt; omega), (by show v_16.toInt + 1 ≤ (mi 6).toInt; omega), (by show (g_9 2).toInt = ((mf 1) 2).toInt; omega), (by show (g_9 3).toInt = ((mf 1) 3).toInt; omega), (by show (g_9 5).toInt = ((mf 1) 5).toInt + 1; omega), (by show (g_9 0).toInt = ((mf 1) 0).toInt; omega)⟩ (Nat.le_of_ble_eq_true rfl) (Nat.le_of_ble_eq_true rfl) dX12_nextByRound_55
  · skip
    have hc_15 := neE (a := v_5.toInt) (b := (-1)) rfl (by decide +kernel) c_15
    refine lv_aload_n (pc := 31) E.1 E.2.1 dX12_nextByRound_31 rfl (lv_at hl6 1 rfl) ?_
    refine lv_aload_n (pc := 32) E.1 E.2.1 dX12_nextByRound_32 rfl (lv_at hl6 1 rfl) ?_
    refine x_get (pc := 33) (T := TX12) (N := 70) (ci := 12) (v := .ref (mr 1)) E hw10 inX12 0 1 q_1400 rfl rfl (by decide) rfl rfl dX12_nextByRound_33 ?_
    refine lv_iconst (pc := 36) (v := 3) E.1 E.2.1 dX12_nextByRound_36 (by decide +kernel) ?_
    refine x_iald (pc := 37) (f := g_9) E hw10 1 rfl (inbE (a := 3) (by decide +kernel) (by omega)) dX12_nextByRound_37 ?_
    refine lv_topi (fun v_17 ev_17 => ?_)
    have hv_17 : v_17.toInt = (g_9 3).toInt := by rw [ev_17]; rfl
    refine lv_iload_n (pc := 38) E.1 E.2.1 dX12_nextByRound_38 rfl (lv_at hl6 0 rfl) ?_
    refine cm_i (pc := 39) hw10 (rn_M (As := [.int v_17, .int v_5]) (rest := []) E hw10 (s_isReached l D cI cJ _ M mr mi (va_up mf 1 g_9) mg v_17 v_5 (by show 0 ≤ v_17.toInt ∧ v_17.toInt ≤ 9; omega) (by show 0 ≤ v_5.toInt ∧ v_5.toInt ≤ 9; omega)) (gdV q_1843 q_1845 q_93 q_162 q_1846) hdV_X12_isReached ⟨rfl, rfl⟩ ⟨(Nat.le_of_ble_eq_true rfl), (Nat.le_of_ble_eq_true rfl)⟩ ⟨(Nat.le_of_ble_eq_true rfl), (Nat.le_of_ble_eq_true rfl)⟩ 12 rfl rfl rfl rfl hl6.1 rfl (Nat.le_of_ble_eq_true rfl) dX12_nextByRound_39) (fun r_19 u_18 H1 locs hp hw20 => ?_)
    generalize H1 = H at hw20 ⊢
    have hw21 : WD D A s.heap (MW cI cJ M mr mi (va_up mf 1 g_9) mg) H locs := hw20
    have hp_22 := hp
    rcases hp_22 with ⟨rfl, ha_23⟩ | rfl | ⟨rfl, ha_24⟩
    · skip
      have ha_23 : v_17.toInt = v_5.toInt := ha_23
      refine lv_if_eq (pc := 42) (tgt := 49) E.1 E.2.1 dX12_nextByRound_42 (by decide) (fun c_25 => absurd c_25 (mneE (a := 1) (b := 0) (by decide +kernel) (by decide +kernel) (by omega))) (fun _ => ?_)
      refine lv_iload_n (pc := 45) E.1 E.2.1 dX12_nextByRound_45 rfl (lv_at hl6 0 rfl) ?_
      refine lv_goto (pc := 46) (tgt := 55) E.1 E.2.1 dX12_nextByRound_46 (by decide) ?_
      exact em_i (w1 := (fun (u : (Nat → Int32)) => (MW cI cJ M mr mi (va_up mf 1 u) mg))) E hr hlk g_9 hw21 ⟨(by show 0 ≤ v_5.toInt; omega), (by show v_5.toInt + 1 ≤ (mi 6).toInt; omega), (by show (g_9 2).toInt = ((mf 1) 2).toInt; omega), (by show (g_9 3).toInt = ((mf 1) 3).toInt; omega), (by show (g_9 5).toInt = ((mf 1) 5).toInt + 1; omega), (by show (g_9 0).toInt = ((mf 1) 0).toInt; omega)⟩ (Nat.le_of_ble_eq_true rfl) (Nat.le_of_ble_eq_true rfl) dX12_nextByRound_55
    · skip
      refine lv_if_eq (pc := 42) (tgt := 49) E.1 E.2.1 dX12_nextByRound_42 (by decide) (fun c_26 => absurd c_26 (mneE (a := 1) (b := 0) (by decide +kernel) (by decide +kernel) (by omega))) (fun _ => ?_)
      refine lv_iload_n (pc := 45) E.1 E.2.1 dX12_nextByRound_45 rfl (lv_at hl6 0 rfl) ?_
      refine lv_goto (pc := 46) (tgt := 55) E.1 E.2.1 dX12_nextByRound_46 (by decide) ?_
      exact em_i (w1 := (fun (u : (Nat → Int32)) => (MW cI cJ M mr mi (va_up mf 1 u) mg))) E hr hlk g_9 hw21 ⟨(by show 0 ≤ v_5.toInt; omega), (by show v_5.toInt + 1 ≤ (mi 6).toInt; omega), (by show (g_9 2).toInt = ((mf 1) 2).toInt; omega), (by show (g_9 3).toInt = ((mf 1) 3).toInt; omega), (by show (g_9 5).toInt = ((mf 1) 5).toInt + 1; omega), (by show (g_9 0).toInt = ((mf 1) 0).toInt; omega)⟩ (Nat.le_of_ble_eq_true rfl) (Nat.le_of_ble_eq_true rfl) dX12_nextByRound_55
    · skip
      have ha_24 : ¬ v_17.toInt = v_5.toInt := ha_24
      refine lv_if_eq (pc := 42) (tgt := 49) E.1 E.2.1 dX12_nextByRound_42 (by decide) (fun _ => ?_) (fun c_27 => absurd (meqE (a := 0) (b := 0) (by decide +kernel) (by decide +kernel) (by omega)) c_27)
      refine lv_aload_n (pc := 49) E.1 E.2.1 dX12_nextByRound_49 rfl (lv_at hl6 1 rfl) ?_
      refine x_get (pc := 50) (T := TX12) (N := 70) (ci := 12) (v := .ref (mr 1)) E hw21 inX12 0 1 q_1400 rfl rfl (by decide) rfl rfl dX12_nextByRound_50 ?_
      refine lv_iconst (pc := 53) (v := 3) E.1 E.2.1 dX12_nextByRound_53 (by decide +kernel) ?_
      refine x_iald (pc := 54) (f := g_9) E hw21 1 rfl (inbE (a := 3) (by decide +kernel) (by omega)) dX12_nextByRound_54 ?_
      refine lv_topi (fun v_28 ev_28 => ?_)
      have hv_28 : v_28.toInt = (g_9 3).toInt := by rw [ev_28]; rfl
      have hsv_28 : v_28.toInt = v_17.toInt := by rw [ev_28, ev_17]
      exact em_i (w1 := (fun (u : (Nat → Int32)) => (MW cI cJ M mr mi (va_up mf 1 u) mg))) E hr hlk g_9 hw21 ⟨(by show 0 ≤ v_28.toInt; omega), (by show v_28.toInt + 1 ≤ (mi 6).toInt; omega), (by show (g_9 2).toInt = ((mf 1) 2).toInt; omega), (by show (g_9 3).toInt = ((mf 1) 3).toInt; omega), (by show (g_9 5).toInt = ((mf 1) 5).toInt + 1; omega), (by show (g_9 0).toInt = ((mf 1) 0).toInt; omega)⟩ (Nat.le_of_ble_eq_true rfl) (Nat.le_of_ble_eq_true rfl) dX12_nextByRound_55

