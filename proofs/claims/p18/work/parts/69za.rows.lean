set_option maxHeartbeats 4000000 in
set_option maxRecDepth 100000 in
theorem t_text1 (l : Launch) (D : va_G) (cI cJ : ClassId) (sz : Nat) (mr : Nat → Nat) (mi : Nat → Int32) (mf : Nat → Nat → Int32) (mg : Nat → Nat → Int64) (z_k : Int32) (ad av : Nat → Nat) (tf : Value) (mv : Nat → Value) (h0 : 0 ≤ (mi 1).toInt ∧ (mi 1).toInt ≤ 5) (h1 : 0 ≤ (mi 2).toInt ∧ (mi 2).toInt ≤ 6) (h2 : 0 ≤ (mi 9).toInt ∧ (mi 9).toInt ≤ 10) (h3 : 0 ≤ (mi 22).toInt ∧ (mi 22).toInt ≤ 400) (h4 : 0 ≤ (mi 23).toInt ∧ (mi 23).toInt ≤ 6) (h5 : 0 ≤ (mi 28).toInt ∧ (mi 28).toInt ≤ 4) (h6 : z_k.toInt = 1) (a_u_marks : m4 (mf 13)) (a_dl_marks : m4 (mf 33)) : Met l yX11_text (Cond.code yX11_text cX11_text 3 (some .int) :: GW) ({ frames := 11, cells := 0, slots := 0, locals := 263 } : Room) (va_Pc [.ref (mr 0), .int z_k] (PW D cI cJ sz (WZ_Mtext1 cI cJ ad mv mr mi mf mg) (xT8 ad av tf (va_A (WZ_Mtext1 cI cJ ad mv mr mi mf mg) sz)))) (va_Qi (fun (r : Int32) (u : (Nat → Int32) × (Nat → Nat → Int32) × (Nat → Nat → Int64)) => (0 ≤ (u.1 1).toInt) ∧ ((u.1 1).toInt ≤ 5) ∧ (0 ≤ (u.1 2).toInt) ∧ ((u.1 2).toInt ≤ 6) ∧ (0 ≤ (u.1 9).toInt) ∧ ((u.1 9).toInt ≤ 10) ∧ (0 ≤ (u.1 22).toInt) ∧ ((u.1 22).toInt ≤ 400) ∧ (0 ≤ (u.1 23).toInt) ∧ ((u.1 23).toInt ≤ 6) ∧ (0 ≤ (u.1 28).toInt) ∧ ((u.1 28).toInt ≤ 4) ∧ ((u.1 22).toInt = 0) ∧ ((u.1 9).toInt = (mi 9).toInt) ∧ (m4 (u.2.1 13)) ∧ (m4 (u.2.1 33))) (fun u => QW D cI cJ (va_A (WZ_Mtext1 cI cJ ad mv mr mi mf mg) sz) ((fun (u : (Nat → Int32) × (Nat → Nat → Int32) × (Nat → Nat → Int64)) => (WZ_Mtext1 cI cJ ad mv mr u.1 u.2.1 u.2.2)) u)) (va_A (WZ_Mtext1 cI cJ ad mv mr mi mf mg) sz)) 0 0 (va_A (WZ_Mtext1 cI cJ ad mv mr mi mf mg) sz) := by
  refine mk_metA (X := fun A => xT8 ad av tf A) (y := yX11_text) (bytes := cX11_text) (maxL := 3) (avs := [.ref (mr 0), .int z_k]) (WS := (WZ_Mtext1 cI cJ ad mv mr mi mf mg)) (Qf := fun A => va_Qi (fun (r : Int32) (u : (Nat → Int32) × (Nat → Nat → Int32) × (Nat → Nat → Int64)) => (0 ≤ (u.1 1).toInt) ∧ ((u.1 1).toInt ≤ 5) ∧ (0 ≤ (u.1 2).toInt) ∧ ((u.1 2).toInt ≤ 6) ∧ (0 ≤ (u.1 9).toInt) ∧ ((u.1 9).toInt ≤ 10) ∧ (0 ≤ (u.1 22).toInt) ∧ ((u.1 22).toInt ≤ 400) ∧ (0 ≤ (u.1 23).toInt) ∧ ((u.1 23).toInt ≤ 6) ∧ (0 ≤ (u.1 28).toInt) ∧ ((u.1 28).toInt ≤ 4) ∧ ((u.1 22).toInt = 0) ∧ ((u.1 9).toInt = (mi 9).toInt) ∧ (m4 (u.2.1 13)) ∧ (m4 (u.2.1 33))) (fun u => QW D cI cJ A ((fun (u : (Nat → Int32) × (Nat → Nat → Int32) × (Nat → Nat → Int64)) => (WZ_Mtext1 cI cJ ad mv mr u.1 u.2.1 u.2.2)) u)) A) (by decide) (Nat.le_of_ble_eq_true rfl) ?_
  intro p e s m below meth c A ls E hr hlk hnm hX hw1 hl2
  have hl3 : lv_has ls 3 [(0, .ref (mr 0)), (1, .int z_k)] := hl2
  refine lv_aload_n (pc := 0) E.1 E.2.1 dX11_text_0 rfl (lv_at hl3 0 rfl) ?_
  refine x_get (pc := 1) (T := TX11) (N := 13) (ci := 11) (v := .ref (mr 3)) E hw1 inX11 0 0 q_606 rfl rfl (by decide) rfl rfl dX11_text_1 ?_
  refine x_get (pc := 4) (T := TX10) (N := 17) (ci := 10) (v := .ref (mr 8)) E hw1 inX10 1 1 q_463 rfl rfl (by decide) rfl rfl dX11_text_4 ?_
  refine x_get (pc := 7) (T := TX1) (N := 9) (ci := 1) (v := .int (mi 9)) E hw1 inX1 2 5 q_282 rfl rfl (by decide) rfl rfl dX11_text_7 ?_
  refine lv_istore_n (pc := 10) (lv' := [(2, .int (mi 9)), (0, .ref (mr 0)), (1, .int z_k)]) E.1 E.2.1 dX11_text_10 rfl hl3 (by decide) rfl (fun ls hl4 => ?_)
  refine lv_aload_n (pc := 11) E.1 E.2.1 dX11_text_11 rfl (lv_at hl4 1 rfl) ?_
  refine x_get (pc := 12) (T := TX11) (N := 13) (ci := 11) (v := .ref (mr 20)) E hw1 inX11 0 2 q_608 rfl rfl (by decide) rfl rfl dX11_text_12 ?_
  refine lv_iload_n (pc := 15) E.1 E.2.1 dX11_text_15 rfl (lv_at hl4 2 rfl) ?_
  refine ck_v (pc := 16) (ws' := (fun (u : Int32 × Int32 × Int32 × Int32 × Int32 × Int32 × Int32) => (WZ_Mtext1 cI cJ ad mv mr (upd (upd (upd (upd (upd (upd (upd mi 23 u.2.2.2.2.1) 24 u.1) 25 u.2.2.1) 26 u.2.2.2.1) 27 u.2.1) 28 u.2.2.2.2.2.1) 29 u.2.2.2.2.2.2) mf mg))) [false, false, false, false, false, false, false, false, true, true, false, false, false, false, false] hw1 rfl (fun hC_ => (rn_V (As := [.int z_k]) (rest := []) E hw1 (t_open l D cI cJ _ (shf 20 mr) (shf 20 mi) (shf 20 mf) (shf 20 mg) z_k ad av tf h3) (gdV q_710 q_711 q_712 q_160 q_713) hdV_X8_open ⟨rfl, rfl⟩ ⟨(Nat.le_of_ble_eq_true rfl), (Nat.le_of_ble_eq_true rfl)⟩ ⟨(Nat.le_of_ble_eq_true rfl), (Nat.le_of_ble_eq_true rfl)⟩ xT8_b (xT8_at hX hw1.2.2.1 (va_free hw1.2.1 hw1.2.2.1 hw1.2.2.2 _ hC_)) 8 8 rfl rfl rfl _ hC_ (nd_T _ 0) rfl hl4.1 rfl (Nat.le_of_ble_eq_true rfl) dX11_text_16)) rfl (fun _ => rfl) (fun _ => rfl) (fun u_5 H1 locs hp hw7 => ?_)
  obtain ⟨nat_8, nplace_9, nkind_10, nvalue_11, nwords_12, nfault_13, nfaultPlace_14⟩ := u_5
  generalize H1 = H at hw7 ⊢
  have hw15 : WD D A s.heap (WZ_Mtext1 cI cJ ad mv mr (upd (upd (upd (upd (upd (upd (upd mi 23 nwords_12) 24 nat_8) 25 nkind_10) 26 nvalue_11) 27 nplace_9) 28 nfault_13) 29 nfaultPlace_14) mf mg) H locs := hw7
  obtain ⟨hp_16, hp_17, hp_18, hp_19, hp_20⟩ := hp
  have hp_16 : 0 ≤ nat_8.toInt := hp_16
  have hp_17 : nat_8.toInt ≤ (mi 22).toInt := hp_17
  have hp_18 : 0 ≤ nwords_12.toInt := hp_18
  have hp_19 : nwords_12.toInt ≤ 6 := hp_19
  have hp_20 : nfault_13.toInt = 0 := hp_20
  refine lv_iload_n (pc := 19) E.1 E.2.1 dX11_text_19 rfl (lv_at hl4 2 rfl) ?_
  rcases swt (x := z_k) 0 4 with hsw_21 | ⟨hsw_21k, hsw_211, hsw_212, hsw_21⟩
  · skip
    exfalso; omega
  · skip
    rcases (show hsw_21k = 0 ∨ hsw_21k = 1 ∨ hsw_21k = 2 ∨ hsw_21k = 3 ∨ hsw_21k = 4 from by omega) with rfl | rfl | rfl | rfl | rfl
    · skip
      have hsw_21v : z_k.toInt = 0 := hsw_21
      have hsw_21e : z_k = 0 := Int32.toInt_inj.mp (by rw [hsw_21]; decide +kernel)
      refine lv_tableIn (pc := 20) (off := 36) (tgt := 56) E.1 E.2.1 dX11_text_20 (by rw [hsw_21e]; decide +kernel) (by rw [hsw_21e]; decide +kernel) (by rw [hsw_21e]; decide +kernel) (by decide) ?_
      exfalso; omega
    · skip
      have hsw_21v : z_k.toInt = 1 := hsw_21
      have hsw_21e : z_k = 1 := Int32.toInt_inj.mp (by rw [hsw_21]; decide +kernel)
      refine lv_tableIn (pc := 20) (off := 36) (tgt := 56) E.1 E.2.1 dX11_text_20 (by rw [hsw_21e]; decide +kernel) (by rw [hsw_21e]; decide +kernel) (by rw [hsw_21e]; decide +kernel) (by decide) ?_
      refine lv_aload_n (pc := 56) E.1 E.2.1 dX11_text_56 rfl (lv_at hl4 1 rfl) ?_
      refine x_get (pc := 57) (T := TX11) (N := 13) (ci := 11) (v := .ref (mr 30)) E hw15 inX11 0 3 q_609 rfl rfl (by decide) rfl rfl dX11_text_57 ?_
      refine lv_aload_n (pc := 60) E.1 E.2.1 dX11_text_60 rfl (lv_at hl4 1 rfl) ?_
      refine x_get (pc := 61) (T := TX11) (N := 13) (ci := 11) (v := .ref (mr 20)) E hw15 inX11 0 2 q_608 rfl rfl (by decide) rfl rfl dX11_text_61 ?_
      refine cq_v (pc := 64) (ws' := (fun (u : Int32 × Int32 × Int32 × Int32 × Int32 × Int32 × (Nat → Int32) × Int32 × Int32 × Int32 × Int32 × (Nat → Int32) × (Nat → Int32) × Int32) => (WZ_Mtext1 cI cJ ad mv mr (upd (upd (upd (upd (upd (upd (upd (upd (upd (upd (upd (upd mi 23 nwords_12) 24 u.1) 25 u.2.2.1) 26 u.2.2.2.1) 27 u.2.1) 28 u.2.2.2.2.1) 29 u.2.2.2.2.2.1) 32 u.2.2.2.2.2.2.2.1) 34 u.2.2.2.2.2.2.2.2.2.2.2.2.2) 37 u.2.2.2.2.2.2.2.2.1) 38 u.2.2.2.2.2.2.2.2.2.2.1) 39 u.2.2.2.2.2.2.2.2.2.1) (va_up (va_up (va_up mf 31 u.2.2.2.2.2.2.1) 33 u.2.2.2.2.2.2.2.2.2.2.2.2.1) 36 u.2.2.2.2.2.2.2.2.2.2.2.1) mg))) hw15 [10, 11, 12, 13, 14, 8, 9] [0, 1, 2, 3, 4, 5, 6, 7] [0, 1, 2, 3, 4, 5, 6, 7, 13, 14, 8, 9, 10, 11, 12] rfl rfl (by decide) (by decide) (fun _ => rfl) (by decide) (rn_V (As := [.ref (mr 20)]) (rest := []) E hw15 (t_lawRead l D cI cJ _ (shg 10 30 10 mr) (shg 10 30 10 (upd (upd (upd (upd (upd (upd (upd mi 23 nwords_12) 24 nat_8) 25 nkind_10) 26 nvalue_11) 27 nplace_9) 28 nfault_13) 29 nfaultPlace_14)) (shg 10 30 10 mf) (shg 10 30 10 mg) ad av tf h3 hp_16 hp_17 ⟨hp_18, hp_19⟩ (by show 0 ≤ nfault_13.toInt ∧ nfault_13.toInt ≤ 4; omega) a_dl_marks) (gdV q_848 q_849 q_850 q_157 q_851) hdV_X2_read ⟨rfl, rfl⟩ ⟨(Nat.le_of_ble_eq_true rfl), (Nat.le_of_ble_eq_true rfl)⟩ ⟨(Nat.le_of_ble_eq_true rfl), (Nat.le_of_ble_eq_true rfl)⟩ xT8_b (xT8_at hX hw15.2.2.1 (va_free hw15.2.1 hw15.2.2.1 hw15.2.2.2 [10, 11, 12, 13, 14, 8, 9] rfl)) 10 2 rfl rfl rfl [10, 11, 12, 13, 14, 8, 9] rfl (by decide) rfl hl4.1 rfl (Nat.le_of_ble_eq_true rfl) dX11_text_64) (fun u_22 H1 locs hp hw24 => ?_)
      obtain ⟨ntat_25, ntplace_26, ntkind_27, ntvalue_28, ntfault_29, ntfaultPlace_30, gcode_31, nsize_32, nholding_33, nopen_34, nbrackets_35, gheld_36, gmarks_37, nlines_38⟩ := u_22
      generalize H1 = H at hw24 ⊢
      have hw39 : WD D A s.heap (WZ_Mtext1 cI cJ ad mv mr (upd (upd (upd (upd (upd (upd (upd (upd (upd (upd (upd (upd mi 23 nwords_12) 24 ntat_25) 25 ntkind_27) 26 ntvalue_28) 27 ntplace_26) 28 ntfault_29) 29 ntfaultPlace_30) 32 nsize_32) 34 nlines_38) 37 nholding_33) 38 nbrackets_35) 39 nopen_34) (va_up (va_up (va_up mf 31 gcode_31) 33 gmarks_37) 36 gheld_36) mg) H locs := hw24
      obtain ⟨hp_40, hp_41, hp_42, hp_43, hp_44⟩ := hp
      have hp_40 : 0 ≤ ntat_25.toInt := hp_40
      have hp_41 : ntat_25.toInt ≤ (mi 22).toInt := hp_41
      have hp_42 : 0 ≤ ntfault_29.toInt := hp_42
      have hp_43 : ntfault_29.toInt ≤ 4 := hp_43
      refine lv_goto (pc := 67) (tgt := 115) E.1 E.2.1 dX11_text_67 (by decide) ?_
      refine lv_aload_n (pc := 115) E.1 E.2.1 dX11_text_115 rfl (lv_at hl4 1 rfl) ?_
      refine x_get (pc := 116) (T := TX11) (N := 13) (ci := 11) (v := .ref (mr 20)) E hw39 inX11 0 2 q_608 rfl rfl (by decide) rfl rfl dX11_text_116 ?_
      refine lv_iconst (pc := 119) (v := 0) E.1 E.2.1 dX11_text_119 (by decide +kernel) ?_
      refine x_put (pc := 120) (T := TX8) (N := 9) (ci := 8) (ws' := (WZ_Mtext1 cI cJ ad mv mr (upd (upd (upd (upd (upd (upd (upd (upd (upd (upd (upd (upd (upd mi 22 0) 23 nwords_12) 24 ntat_25) 25 ntkind_27) 26 ntvalue_28) 27 ntplace_26) 28 ntfault_29) 29 ntfaultPlace_30) 32 nsize_32) 34 nlines_38) 37 nholding_33) 38 nbrackets_35) 39 nopen_34) (va_up (va_up (va_up mf 31 gcode_31) 33 gmarks_37) 36 gheld_36) mg)) E hw39 inX8 tyX8_ok nmX8 8 1 q_539 rfl rfl (by decide) rfl rfl rfl rfl (Nat.le_of_ble_eq_true rfl) rfl dX11_text_120 (fun H locs hw45 => ?_)
      refine lv_aload_n (pc := 123) E.1 E.2.1 dX11_text_123 rfl (lv_at hl4 1 rfl) ?_
      refine x_get (pc := 124) (T := TX11) (N := 13) (ci := 11) (v := .ref (mr 20)) E hw45 inX11 0 2 q_608 rfl rfl (by decide) rfl rfl dX11_text_124 ?_
      refine x_get (pc := 127) (T := TX8) (N := 9) (ci := 8) (v := .int ntfault_29) E hw45 inX8 8 7 q_555 rfl rfl (by decide) rfl rfl dX11_text_127 ?_
      refine lv_if_ne (pc := 130) (tgt := 141) E.1 E.2.1 dX11_text_130 (by decide) (fun c_46 => ?_) (fun c_46 => ?_)
      · skip
        have hc_46 := neE (a := ntfault_29.toInt) (b := 0) rfl (by decide +kernel) c_46
        refine lv_iconst (pc := 141) (v := (-1)) E.1 E.2.1 dX11_text_141 (by decide +kernel) ?_
        exact em_i (w1 := (fun (u : (Nat → Int32) × (Nat → Nat → Int32) × (Nat → Nat → Int64)) => (WZ_Mtext1 cI cJ ad mv mr u.1 u.2.1 u.2.2))) E hr hlk ((upd (upd (upd (upd (upd (upd (upd (upd (upd (upd (upd (upd (upd mi 22 0) 23 nwords_12) 24 ntat_25) 25 ntkind_27) 26 ntvalue_28) 27 ntplace_26) 28 ntfault_29) 29 ntfaultPlace_30) 32 nsize_32) 34 nlines_38) 37 nholding_33) 38 nbrackets_35) 39 nopen_34), (va_up (va_up (va_up mf 31 gcode_31) 33 gmarks_37) 36 gheld_36), mg) hw45 ⟨h0.1, h0.2, h1.1, h1.2, h2.1, h2.2, (by show 0 ≤ (0 : Int32).toInt; have k_0 : (0 : Int32).toInt = 0 := (by decide +kernel); have k_1 : ((-1) : Int32).toInt = -1 := (by decide +kernel); omega), (by show (0 : Int32).toInt ≤ 400; have k_0 : (0 : Int32).toInt = 0 := (by decide +kernel); have k_1 : ((-1) : Int32).toInt = -1 := (by decide +kernel); omega), hp_18, hp_19, hp_42, hp_43, (by show (0 : Int32).toInt = 0; have k_0 : (0 : Int32).toInt = 0 := (by decide +kernel); have k_1 : ((-1) : Int32).toInt = -1 := (by decide +kernel); omega), rfl, a_u_marks, hp_44⟩ (Nat.le_of_ble_eq_true rfl) (Nat.le_of_ble_eq_true rfl) dX11_text_142
      · skip
        have hc_46 := eqE (a := ntfault_29.toInt) (b := 0) rfl (by decide +kernel) c_46
        refine lv_aload_n (pc := 133) E.1 E.2.1 dX11_text_133 rfl (lv_at hl4 1 rfl) ?_
        refine lv_iload_n (pc := 134) E.1 E.2.1 dX11_text_134 rfl (lv_at hl4 2 rfl) ?_
        refine ck_i (pc := 135) (ws' := (fun (u : (Nat → Int32) × (Nat → Nat → Int32) × (Nat → Nat → Int64)) => (WZ_Mtext1 cI cJ ad mv mr (mgs [(0, 0, 40)] u.1 (upd (upd (upd (upd (upd (upd (upd (upd (upd (upd (upd (upd (upd mi 22 0) 23 nwords_12) 24 ntat_25) 25 ntkind_27) 26 ntvalue_28) 27 ntplace_26) 28 ntfault_29) 29 ntfaultPlace_30) 32 nsize_32) 34 nlines_38) 37 nholding_33) 38 nbrackets_35) 39 nopen_34)) (mgs [(0, 0, 40)] u.2.1 (va_up (va_up (va_up mf 31 gcode_31) 33 gmarks_37) 36 gheld_36)) (mgs [(0, 0, 40)] u.2.2 mg)))) [true, true, true, true, true, true, true, true, true, true, true, true, true, true, true] hw45 rfl (fun hC_ => (rn_V (As := [.int z_k]) (rest := []) E hw45 (t_take1 l D cI cJ _ mr (upd (upd (upd (upd (upd (upd (upd (upd (upd (upd (upd (upd (upd mi 22 0) 23 nwords_12) 24 ntat_25) 25 ntkind_27) 26 ntvalue_28) 27 ntplace_26) 28 ntfault_29) 29 ntfaultPlace_30) 32 nsize_32) 34 nlines_38) 37 nholding_33) 38 nbrackets_35) 39 nopen_34) (va_up (va_up (va_up mf 31 gcode_31) 33 gmarks_37) 36 gheld_36) mg z_k ad (vl [mv 0, mv 1, mv 2, mv 3, mv 4, mv 5, mv 6, mv 7, mv 8, mv 9, mv 10, mv 11, mv 12, mv 13, mv 14, mv 15, mv 16, mv 17, mv 18, mv 19, mv 20, mv 21, mv 22, mv 23, mv 24, mv 25, mv 26]) h0 h1 h2 (by show 0 ≤ (0 : Int32).toInt ∧ (0 : Int32).toInt ≤ 400; have k_0 : (0 : Int32).toInt = 0 := (by decide +kernel); omega) ⟨hp_18, hp_19⟩ ⟨hp_42, hp_43⟩ h6 a_u_marks hp_44) (gdV q_957 q_959 q_18 q_151 q_960) hdV_X11_takeDraft ⟨rfl, rfl⟩ ⟨(Nat.le_of_ble_eq_true rfl), (Nat.le_of_ble_eq_true rfl)⟩ ⟨(Nat.le_of_ble_eq_true rfl), (Nat.le_of_ble_eq_true rfl)⟩ xT_b xT_at 0 11 rfl rfl rfl _ hC_ (nd_T _ 0) rfl hl4.1 rfl (Nat.le_of_ble_eq_true rfl) dX11_text_135)) rfl (fun _ => rfl) (fun _ => rfl) (fun r_48 u_47 H1 locs hp hw49 => ?_)
        obtain ⟨Mi_50, Mf_51, Mg_52⟩ := u_47
        generalize H1 = H at hw49 ⊢
        have hw53 : WD D A s.heap (WZ_Mtext1 cI cJ ad mv mr (mgs [(0, 0, 40)] Mi_50 (upd (upd (upd (upd (upd (upd (upd (upd (upd (upd (upd (upd (upd mi 22 0) 23 nwords_12) 24 ntat_25) 25 ntkind_27) 26 ntvalue_28) 27 ntplace_26) 28 ntfault_29) 29 ntfaultPlace_30) 32 nsize_32) 34 nlines_38) 37 nholding_33) 38 nbrackets_35) 39 nopen_34)) (mgs [(0, 0, 40)] Mf_51 (va_up (va_up (va_up mf 31 gcode_31) 33 gmarks_37) 36 gheld_36)) (mgs [(0, 0, 40)] Mg_52 mg)) H locs := hw49
        obtain ⟨hp_54, hp_55, hp_56, hp_57, hp_58, hp_59, hp_60, hp_61, hp_62, hp_63, hp_64, hp_65, hp_66, hp_67, hp_68, hp_69⟩ := hp
        have hp_54 : 0 ≤ (Mi_50 1).toInt := hp_54
        have hp_55 : (Mi_50 1).toInt ≤ 5 := hp_55
        have hp_56 : 0 ≤ (Mi_50 2).toInt := hp_56
        have hp_57 : (Mi_50 2).toInt ≤ 6 := hp_57
        have hp_58 : 0 ≤ (Mi_50 9).toInt := hp_58
        have hp_59 : (Mi_50 9).toInt ≤ 10 := hp_59
        have hp_60 : 0 ≤ (Mi_50 22).toInt := hp_60
        have hp_61 : (Mi_50 22).toInt ≤ 400 := hp_61
        have hp_62 : 0 ≤ (Mi_50 23).toInt := hp_62
        have hp_63 : (Mi_50 23).toInt ≤ 6 := hp_63
        have hp_64 : 0 ≤ (Mi_50 28).toInt := hp_64
        have hp_65 : (Mi_50 28).toInt ≤ 4 := hp_65
        have hp_66 : (Mi_50 22).toInt = (0 : Int32).toInt := hp_66
        rw [show (0 : Int32).toInt = 0 from by decide +kernel] at hp_66
        have hp_67 : (Mi_50 9).toInt = (mi 9).toInt := hp_67
        refine lv_goto (pc := 138) (tgt := 142) E.1 E.2.1 dX11_text_138 (by decide) ?_
        exact em_i (w1 := (fun (u : (Nat → Int32) × (Nat → Nat → Int32) × (Nat → Nat → Int64)) => (WZ_Mtext1 cI cJ ad mv mr u.1 u.2.1 u.2.2))) E hr hlk ((mgs [(0, 0, 40)] Mi_50 (upd (upd (upd (upd (upd (upd (upd (upd (upd (upd (upd (upd (upd mi 22 0) 23 nwords_12) 24 ntat_25) 25 ntkind_27) 26 ntvalue_28) 27 ntplace_26) 28 ntfault_29) 29 ntfaultPlace_30) 32 nsize_32) 34 nlines_38) 37 nholding_33) 38 nbrackets_35) 39 nopen_34)), (mgs [(0, 0, 40)] Mf_51 (va_up (va_up (va_up mf 31 gcode_31) 33 gmarks_37) 36 gheld_36)), (mgs [(0, 0, 40)] Mg_52 mg)) hw53 ⟨hp_54, hp_55, hp_56, hp_57, hp_58, hp_59, hp_60, hp_61, hp_62, hp_63, hp_64, hp_65, (by show (Mi_50 22).toInt = 0; omega), hp_67, hp_68, hp_69⟩ (Nat.le_of_ble_eq_true rfl) (Nat.le_of_ble_eq_true rfl) dX11_text_142
    · skip
      have hsw_21v : z_k.toInt = 2 := hsw_21
      have hsw_21e : z_k = 2 := Int32.toInt_inj.mp (by rw [hsw_21]; decide +kernel)
      refine lv_tableIn (pc := 20) (off := 50) (tgt := 70) E.1 E.2.1 dX11_text_20 (by rw [hsw_21e]; decide +kernel) (by rw [hsw_21e]; decide +kernel) (by rw [hsw_21e]; decide +kernel) (by decide) ?_
      exfalso; omega
    · skip
      have hsw_21v : z_k.toInt = 3 := hsw_21
      have hsw_21e : z_k = 3 := Int32.toInt_inj.mp (by rw [hsw_21]; decide +kernel)
      refine lv_tableIn (pc := 20) (off := 65) (tgt := 85) E.1 E.2.1 dX11_text_20 (by rw [hsw_21e]; decide +kernel) (by rw [hsw_21e]; decide +kernel) (by rw [hsw_21e]; decide +kernel) (by decide) ?_
      exfalso; omega
    · skip
      have hsw_21v : z_k.toInt = 4 := hsw_21
      have hsw_21e : z_k = 4 := Int32.toInt_inj.mp (by rw [hsw_21]; decide +kernel)
      refine lv_tableIn (pc := 20) (off := 80) (tgt := 100) E.1 E.2.1 dX11_text_20 (by rw [hsw_21e]; decide +kernel) (by rw [hsw_21e]; decide +kernel) (by rw [hsw_21e]; decide +kernel) (by decide) ?_
      exfalso; omega
set_option maxHeartbeats 4000000 in
set_option maxRecDepth 100000 in
theorem t_takeXa (l : Launch) (D : va_G) (cI cJ : ClassId) (sz : Nat) (mr : Nat → Nat) (mi : Nat → Int32) (mf : Nat → Nat → Int32) (mg : Nat → Nat → Int64) (z_k : Int32) (ad : Nat → Nat) (mv : Nat → Value) (h0 : 0 ≤ (mi 1).toInt ∧ (mi 1).toInt ≤ 5) (h1 : 0 ≤ (mi 2).toInt ∧ (mi 2).toInt ≤ 6) (h2 : 0 ≤ (mi 9).toInt ∧ (mi 9).toInt ≤ 10) (h3 : 0 ≤ (mi 12).toInt ∧ (mi 12).toInt ≤ 400) (h4 : 0 ≤ (mi 13).toInt ∧ (mi 13).toInt ≤ 6) (h5 : 0 ≤ (mi 18).toInt ∧ (mi 18).toInt ≤ 4) (h6 : z_k.toInt ≤ (-1)) : Met l yX11_takeDraft (Cond.code yX11_takeDraft cX11_takeDraft 2 (some .int) :: GW) ({ frames := 3, cells := 0, slots := 0, locals := 82 } : Room) (va_Pc [.ref (mr 0), .int z_k] (PW D cI cJ sz (WZ_MtextX cI cJ ad mv mr mi mf mg) xT)) (va_Qi (fun (r : Int32) (u : (Nat → Int32) × (Nat → Nat → Int32) × (Nat → Nat → Int64)) => (0 ≤ (u.1 1).toInt) ∧ ((u.1 1).toInt ≤ 5) ∧ (0 ≤ (u.1 2).toInt) ∧ ((u.1 2).toInt ≤ 6) ∧ (0 ≤ (u.1 9).toInt) ∧ ((u.1 9).toInt ≤ 10) ∧ (0 ≤ (u.1 12).toInt) ∧ ((u.1 12).toInt ≤ 400) ∧ (0 ≤ (u.1 13).toInt) ∧ ((u.1 13).toInt ≤ 6) ∧ (0 ≤ (u.1 18).toInt) ∧ ((u.1 18).toInt ≤ 4) ∧ ((u.1 12).toInt = (mi 12).toInt) ∧ ((u.1 9).toInt = (mi 9).toInt)) (fun u => QW D cI cJ (va_A (WZ_MtextX cI cJ ad mv mr mi mf mg) sz) ((fun (u : (Nat → Int32) × (Nat → Nat → Int32) × (Nat → Nat → Int64)) => (WZ_MtextX cI cJ ad mv mr u.1 u.2.1 u.2.2)) u)) (va_A (WZ_MtextX cI cJ ad mv mr mi mf mg) sz)) 0 0 (va_A (WZ_MtextX cI cJ ad mv mr mi mf mg) sz) := by
  refine mk_met (y := yX11_takeDraft) (bytes := cX11_takeDraft) (maxL := 2) (avs := [.ref (mr 0), .int z_k]) (WS := (WZ_MtextX cI cJ ad mv mr mi mf mg)) (Qf := fun A => va_Qi (fun (r : Int32) (u : (Nat → Int32) × (Nat → Nat → Int32) × (Nat → Nat → Int64)) => (0 ≤ (u.1 1).toInt) ∧ ((u.1 1).toInt ≤ 5) ∧ (0 ≤ (u.1 2).toInt) ∧ ((u.1 2).toInt ≤ 6) ∧ (0 ≤ (u.1 9).toInt) ∧ ((u.1 9).toInt ≤ 10) ∧ (0 ≤ (u.1 12).toInt) ∧ ((u.1 12).toInt ≤ 400) ∧ (0 ≤ (u.1 13).toInt) ∧ ((u.1 13).toInt ≤ 6) ∧ (0 ≤ (u.1 18).toInt) ∧ ((u.1 18).toInt ≤ 4) ∧ ((u.1 12).toInt = (mi 12).toInt) ∧ ((u.1 9).toInt = (mi 9).toInt)) (fun u => QW D cI cJ A ((fun (u : (Nat → Int32) × (Nat → Nat → Int32) × (Nat → Nat → Int64)) => (WZ_MtextX cI cJ ad mv mr u.1 u.2.1 u.2.2)) u)) A) (by decide) (Nat.le_of_ble_eq_true rfl) ?_
  intro p e s m below meth c A ls E hr hlk hnm hX hw1 hl2
  have hl3 : lv_has ls 2 [(0, .ref (mr 0)), (1, .int z_k)] := hl2
  refine lv_iload_n (pc := 0) E.1 E.2.1 dX11_takeDraft_0 rfl (lv_at hl3 1 rfl) ?_
  rcases swt (x := z_k) 0 4 with hsw_4 | ⟨hsw_4k, hsw_41, hsw_42, hsw_4⟩
  · skip
    refine lv_tableOut (pc := 1) (tgt := 179) E.1 E.2.1 dX11_takeDraft_1 hsw_4 (by decide) ?_
    refine lv_iconst (pc := 179) (v := (-1)) E.1 E.2.1 dX11_takeDraft_179 (by decide +kernel) ?_
    exact em_i (w1 := (fun (u : (Nat → Int32) × (Nat → Nat → Int32) × (Nat → Nat → Int64)) => (WZ_MtextX cI cJ ad mv mr u.1 u.2.1 u.2.2))) E hr hlk (mi, mf, mg) hw1 ⟨h0.1, h0.2, h1.1, h1.2, h2.1, h2.2, h3.1, h3.2, h4.1, h4.2, h5.1, h5.2, rfl, rfl⟩ (Nat.le_of_ble_eq_true rfl) (Nat.le_of_ble_eq_true rfl) dX11_takeDraft_180
  · skip
    rcases (show hsw_4k = 0 ∨ hsw_4k = 1 ∨ hsw_4k = 2 ∨ hsw_4k = 3 ∨ hsw_4k = 4 from by omega) with rfl | rfl | rfl | rfl | rfl
    · skip
      have hsw_4v : z_k.toInt = 0 := hsw_4
      have hsw_4e : z_k = 0 := Int32.toInt_inj.mp (by rw [hsw_4]; decide +kernel)
      refine lv_tableIn (pc := 1) (off := 35) (tgt := 36) E.1 E.2.1 dX11_takeDraft_1 (by rw [hsw_4e]; decide +kernel) (by rw [hsw_4e]; decide +kernel) (by rw [hsw_4e]; decide +kernel) (by decide) ?_
      exfalso; omega
    · skip
      have hsw_4v : z_k.toInt = 1 := hsw_4
      have hsw_4e : z_k = 1 := Int32.toInt_inj.mp (by rw [hsw_4]; decide +kernel)
      refine lv_tableIn (pc := 1) (off := 57) (tgt := 58) E.1 E.2.1 dX11_takeDraft_1 (by rw [hsw_4e]; decide +kernel) (by rw [hsw_4e]; decide +kernel) (by rw [hsw_4e]; decide +kernel) (by decide) ?_
      exfalso; omega
    · skip
      have hsw_4v : z_k.toInt = 2 := hsw_4
      have hsw_4e : z_k = 2 := Int32.toInt_inj.mp (by rw [hsw_4]; decide +kernel)
      refine lv_tableIn (pc := 1) (off := 79) (tgt := 80) E.1 E.2.1 dX11_takeDraft_1 (by rw [hsw_4e]; decide +kernel) (by rw [hsw_4e]; decide +kernel) (by rw [hsw_4e]; decide +kernel) (by decide) ?_
      exfalso; omega
    · skip
      have hsw_4v : z_k.toInt = 3 := hsw_4
      have hsw_4e : z_k = 3 := Int32.toInt_inj.mp (by rw [hsw_4]; decide +kernel)
      refine lv_tableIn (pc := 1) (off := 105) (tgt := 106) E.1 E.2.1 dX11_takeDraft_1 (by rw [hsw_4e]; decide +kernel) (by rw [hsw_4e]; decide +kernel) (by rw [hsw_4e]; decide +kernel) (by decide) ?_
      exfalso; omega
    · skip
      have hsw_4v : z_k.toInt = 4 := hsw_4
      have hsw_4e : z_k = 4 := Int32.toInt_inj.mp (by rw [hsw_4]; decide +kernel)
      refine lv_tableIn (pc := 1) (off := 141) (tgt := 142) E.1 E.2.1 dX11_takeDraft_1 (by rw [hsw_4e]; decide +kernel) (by rw [hsw_4e]; decide +kernel) (by rw [hsw_4e]; decide +kernel) (by decide) ?_
      exfalso; omega
set_option maxHeartbeats 4000000 in
set_option maxRecDepth 100000 in
theorem t_textXa (l : Launch) (D : va_G) (cI cJ : ClassId) (sz : Nat) (mr : Nat → Nat) (mi : Nat → Int32) (mf : Nat → Nat → Int32) (mg : Nat → Nat → Int64) (z_k : Int32) (ad av : Nat → Nat) (tf : Value) (mv : Nat → Value) (h0 : 0 ≤ (mi 1).toInt ∧ (mi 1).toInt ≤ 5) (h1 : 0 ≤ (mi 2).toInt ∧ (mi 2).toInt ≤ 6) (h2 : 0 ≤ (mi 9).toInt ∧ (mi 9).toInt ≤ 10) (h3 : 0 ≤ (mi 12).toInt ∧ (mi 12).toInt ≤ 400) (h4 : 0 ≤ (mi 13).toInt ∧ (mi 13).toInt ≤ 6) (h5 : 0 ≤ (mi 18).toInt ∧ (mi 18).toInt ≤ 4) (h6 : z_k.toInt ≤ (-1)) : Met l yX11_text (Cond.code yX11_text cX11_text 3 (some .int) :: GW) ({ frames := 11, cells := 0, slots := 0, locals := 263 } : Room) (va_Pc [.ref (mr 0), .int z_k] (PW D cI cJ sz (WZ_MtextX cI cJ ad mv mr mi mf mg) (xT8 ad av tf (va_A (WZ_MtextX cI cJ ad mv mr mi mf mg) sz)))) (va_Qi (fun (r : Int32) (u : (Nat → Int32) × (Nat → Nat → Int32) × (Nat → Nat → Int64)) => (0 ≤ (u.1 1).toInt) ∧ ((u.1 1).toInt ≤ 5) ∧ (0 ≤ (u.1 2).toInt) ∧ ((u.1 2).toInt ≤ 6) ∧ (0 ≤ (u.1 9).toInt) ∧ ((u.1 9).toInt ≤ 10) ∧ (0 ≤ (u.1 12).toInt) ∧ ((u.1 12).toInt ≤ 400) ∧ (0 ≤ (u.1 13).toInt) ∧ ((u.1 13).toInt ≤ 6) ∧ (0 ≤ (u.1 18).toInt) ∧ ((u.1 18).toInt ≤ 4) ∧ ((u.1 12).toInt = 0) ∧ ((u.1 9).toInt = (mi 9).toInt)) (fun u => QW D cI cJ (va_A (WZ_MtextX cI cJ ad mv mr mi mf mg) sz) ((fun (u : (Nat → Int32) × (Nat → Nat → Int32) × (Nat → Nat → Int64)) => (WZ_MtextX cI cJ ad mv mr u.1 u.2.1 u.2.2)) u)) (va_A (WZ_MtextX cI cJ ad mv mr mi mf mg) sz)) 0 0 (va_A (WZ_MtextX cI cJ ad mv mr mi mf mg) sz) := by
  refine mk_metA (X := fun A => xT8 ad av tf A) (y := yX11_text) (bytes := cX11_text) (maxL := 3) (avs := [.ref (mr 0), .int z_k]) (WS := (WZ_MtextX cI cJ ad mv mr mi mf mg)) (Qf := fun A => va_Qi (fun (r : Int32) (u : (Nat → Int32) × (Nat → Nat → Int32) × (Nat → Nat → Int64)) => (0 ≤ (u.1 1).toInt) ∧ ((u.1 1).toInt ≤ 5) ∧ (0 ≤ (u.1 2).toInt) ∧ ((u.1 2).toInt ≤ 6) ∧ (0 ≤ (u.1 9).toInt) ∧ ((u.1 9).toInt ≤ 10) ∧ (0 ≤ (u.1 12).toInt) ∧ ((u.1 12).toInt ≤ 400) ∧ (0 ≤ (u.1 13).toInt) ∧ ((u.1 13).toInt ≤ 6) ∧ (0 ≤ (u.1 18).toInt) ∧ ((u.1 18).toInt ≤ 4) ∧ ((u.1 12).toInt = 0) ∧ ((u.1 9).toInt = (mi 9).toInt)) (fun u => QW D cI cJ A ((fun (u : (Nat → Int32) × (Nat → Nat → Int32) × (Nat → Nat → Int64)) => (WZ_MtextX cI cJ ad mv mr u.1 u.2.1 u.2.2)) u)) A) (by decide) (Nat.le_of_ble_eq_true rfl) ?_
  intro p e s m below meth c A ls E hr hlk hnm hX hw1 hl2
  have hl3 : lv_has ls 3 [(0, .ref (mr 0)), (1, .int z_k)] := hl2
  refine lv_aload_n (pc := 0) E.1 E.2.1 dX11_text_0 rfl (lv_at hl3 0 rfl) ?_
  refine x_get (pc := 1) (T := TX11) (N := 13) (ci := 11) (v := .ref (mr 3)) E hw1 inX11 0 0 q_606 rfl rfl (by decide) rfl rfl dX11_text_1 ?_
  refine x_get (pc := 4) (T := TX10) (N := 17) (ci := 10) (v := .ref (mr 8)) E hw1 inX10 1 1 q_463 rfl rfl (by decide) rfl rfl dX11_text_4 ?_
  refine x_get (pc := 7) (T := TX1) (N := 9) (ci := 1) (v := .int (mi 9)) E hw1 inX1 2 5 q_282 rfl rfl (by decide) rfl rfl dX11_text_7 ?_
  refine lv_istore_n (pc := 10) (lv' := [(2, .int (mi 9)), (0, .ref (mr 0)), (1, .int z_k)]) E.1 E.2.1 dX11_text_10 rfl hl3 (by decide) rfl (fun ls hl4 => ?_)
  refine lv_aload_n (pc := 11) E.1 E.2.1 dX11_text_11 rfl (lv_at hl4 1 rfl) ?_
  refine x_get (pc := 12) (T := TX11) (N := 13) (ci := 11) (v := .ref (mr 10)) E hw1 inX11 0 2 q_608 rfl rfl (by decide) rfl rfl dX11_text_12 ?_
  refine lv_iload_n (pc := 15) E.1 E.2.1 dX11_text_15 rfl (lv_at hl4 2 rfl) ?_
  refine ck_v (pc := 16) (ws' := (fun (u : Int32 × Int32 × Int32 × Int32 × Int32 × Int32 × Int32) => (WZ_MtextX cI cJ ad mv mr (upd (upd (upd (upd (upd (upd (upd mi 13 u.2.2.2.2.1) 14 u.1) 15 u.2.2.1) 16 u.2.2.2.1) 17 u.2.1) 18 u.2.2.2.2.2.1) 19 u.2.2.2.2.2.2) mf mg))) [false, false, false, true, true] hw1 rfl (fun hC_ => (rn_V (As := [.int z_k]) (rest := []) E hw1 (t_open l D cI cJ _ (shf 10 mr) (shf 10 mi) (shf 10 mf) (shf 10 mg) z_k ad av tf h3) (gdV q_710 q_711 q_712 q_160 q_713) hdV_X8_open ⟨rfl, rfl⟩ ⟨(Nat.le_of_ble_eq_true rfl), (Nat.le_of_ble_eq_true rfl)⟩ ⟨(Nat.le_of_ble_eq_true rfl), (Nat.le_of_ble_eq_true rfl)⟩ xT8_b (xT8_at hX hw1.2.2.1 (va_free hw1.2.1 hw1.2.2.1 hw1.2.2.2 _ hC_)) 3 8 rfl rfl rfl _ hC_ (nd_T _ 0) rfl hl4.1 rfl (Nat.le_of_ble_eq_true rfl) dX11_text_16)) rfl (fun _ => rfl) (fun _ => rfl) (fun u_5 H1 locs hp hw7 => ?_)
  obtain ⟨nat_8, nplace_9, nkind_10, nvalue_11, nwords_12, nfault_13, nfaultPlace_14⟩ := u_5
  generalize H1 = H at hw7 ⊢
  have hw15 : WD D A s.heap (WZ_MtextX cI cJ ad mv mr (upd (upd (upd (upd (upd (upd (upd mi 13 nwords_12) 14 nat_8) 15 nkind_10) 16 nvalue_11) 17 nplace_9) 18 nfault_13) 19 nfaultPlace_14) mf mg) H locs := hw7
  obtain ⟨hp_16, hp_17, hp_18, hp_19, hp_20⟩ := hp
  have hp_16 : 0 ≤ nat_8.toInt := hp_16
  have hp_17 : nat_8.toInt ≤ (mi 12).toInt := hp_17
  have hp_18 : 0 ≤ nwords_12.toInt := hp_18
  have hp_19 : nwords_12.toInt ≤ 6 := hp_19
  have hp_20 : nfault_13.toInt = 0 := hp_20
  refine lv_iload_n (pc := 19) E.1 E.2.1 dX11_text_19 rfl (lv_at hl4 2 rfl) ?_
  rcases swt (x := z_k) 0 4 with hsw_21 | ⟨hsw_21k, hsw_211, hsw_212, hsw_21⟩
  · skip
    refine lv_tableOut (pc := 20) (tgt := 115) E.1 E.2.1 dX11_text_20 hsw_21 (by decide) ?_
    refine lv_aload_n (pc := 115) E.1 E.2.1 dX11_text_115 rfl (lv_at hl4 1 rfl) ?_
    refine x_get (pc := 116) (T := TX11) (N := 13) (ci := 11) (v := .ref (mr 10)) E hw15 inX11 0 2 q_608 rfl rfl (by decide) rfl rfl dX11_text_116 ?_
    refine lv_iconst (pc := 119) (v := 0) E.1 E.2.1 dX11_text_119 (by decide +kernel) ?_
    refine x_put (pc := 120) (T := TX8) (N := 9) (ci := 8) (ws' := (WZ_MtextX cI cJ ad mv mr (upd (upd (upd (upd (upd (upd (upd (upd mi 12 0) 13 nwords_12) 14 nat_8) 15 nkind_10) 16 nvalue_11) 17 nplace_9) 18 nfault_13) 19 nfaultPlace_14) mf mg)) E hw15 inX8 tyX8_ok nmX8 3 1 q_539 rfl rfl (by decide) rfl rfl rfl rfl (Nat.le_of_ble_eq_true rfl) rfl dX11_text_120 (fun H locs hw22 => ?_)
    refine lv_aload_n (pc := 123) E.1 E.2.1 dX11_text_123 rfl (lv_at hl4 1 rfl) ?_
    refine x_get (pc := 124) (T := TX11) (N := 13) (ci := 11) (v := .ref (mr 10)) E hw22 inX11 0 2 q_608 rfl rfl (by decide) rfl rfl dX11_text_124 ?_
    refine x_get (pc := 127) (T := TX8) (N := 9) (ci := 8) (v := .int nfault_13) E hw22 inX8 3 7 q_555 rfl rfl (by decide) rfl rfl dX11_text_127 ?_
    refine lv_if_ne (pc := 130) (tgt := 141) E.1 E.2.1 dX11_text_130 (by decide) (fun c_23 => absurd (meqE (a := nfault_13.toInt) (b := 0) rfl (by decide +kernel) (by omega)) c_23) (fun _ => ?_)
    refine lv_aload_n (pc := 133) E.1 E.2.1 dX11_text_133 rfl (lv_at hl4 1 rfl) ?_
    refine lv_iload_n (pc := 134) E.1 E.2.1 dX11_text_134 rfl (lv_at hl4 2 rfl) ?_
    refine ck_i (pc := 135) (ws' := (fun (u : (Nat → Int32) × (Nat → Nat → Int32) × (Nat → Nat → Int64)) => (WZ_MtextX cI cJ ad mv mr (mgs [(0, 0, 20)] u.1 (upd (upd (upd (upd (upd (upd (upd (upd mi 12 0) 13 nwords_12) 14 nat_8) 15 nkind_10) 16 nvalue_11) 17 nplace_9) 18 nfault_13) 19 nfaultPlace_14)) (mgs [(0, 0, 20)] u.2.1 mf) (mgs [(0, 0, 20)] u.2.2 mg)))) [true, true, true, true, true] hw22 rfl (fun hC_ => (rn_V (As := [.int z_k]) (rest := []) E hw22 (t_takeXa l D cI cJ _ mr (upd (upd (upd (upd (upd (upd (upd (upd mi 12 0) 13 nwords_12) 14 nat_8) 15 nkind_10) 16 nvalue_11) 17 nplace_9) 18 nfault_13) 19 nfaultPlace_14) mf mg z_k ad (vl [mv 0, mv 1, mv 2, mv 3, mv 4, mv 5, mv 6, mv 7, mv 8, mv 9, mv 10, mv 11, mv 12, mv 13, mv 14, mv 15, mv 16, mv 17, mv 18, mv 19, mv 20, mv 21, mv 22, mv 23, mv 24, mv 25, mv 26, mv 27, mv 28]) h0 h1 h2 (by show 0 ≤ (0 : Int32).toInt ∧ (0 : Int32).toInt ≤ 400; have k_0 : (0 : Int32).toInt = 0 := (by decide +kernel); omega) ⟨hp_18, hp_19⟩ (by show 0 ≤ nfault_13.toInt ∧ nfault_13.toInt ≤ 4; omega) h6) (gdV q_957 q_959 q_18 q_151 q_960) hdV_X11_takeDraft ⟨rfl, rfl⟩ ⟨(Nat.le_of_ble_eq_true rfl), (Nat.le_of_ble_eq_true rfl)⟩ ⟨(Nat.le_of_ble_eq_true rfl), (Nat.le_of_ble_eq_true rfl)⟩ xT_b xT_at 0 11 rfl rfl rfl _ hC_ (nd_T _ 0) rfl hl4.1 rfl (Nat.le_of_ble_eq_true rfl) dX11_text_135)) rfl (fun _ => rfl) (fun _ => rfl) (fun r_25 u_24 H1 locs hp hw26 => ?_)
    obtain ⟨Mi_27, Mf_28, Mg_29⟩ := u_24
    generalize H1 = H at hw26 ⊢
    have hw30 : WD D A s.heap (WZ_MtextX cI cJ ad mv mr (mgs [(0, 0, 20)] Mi_27 (upd (upd (upd (upd (upd (upd (upd (upd mi 12 0) 13 nwords_12) 14 nat_8) 15 nkind_10) 16 nvalue_11) 17 nplace_9) 18 nfault_13) 19 nfaultPlace_14)) (mgs [(0, 0, 20)] Mf_28 mf) (mgs [(0, 0, 20)] Mg_29 mg)) H locs := hw26
    obtain ⟨hp_31, hp_32, hp_33, hp_34, hp_35, hp_36, hp_37, hp_38, hp_39, hp_40, hp_41, hp_42, hp_43, hp_44⟩ := hp
    have hp_31 : 0 ≤ (Mi_27 1).toInt := hp_31
    have hp_32 : (Mi_27 1).toInt ≤ 5 := hp_32
    have hp_33 : 0 ≤ (Mi_27 2).toInt := hp_33
    have hp_34 : (Mi_27 2).toInt ≤ 6 := hp_34
    have hp_35 : 0 ≤ (Mi_27 9).toInt := hp_35
    have hp_36 : (Mi_27 9).toInt ≤ 10 := hp_36
    have hp_37 : 0 ≤ (Mi_27 12).toInt := hp_37
    have hp_38 : (Mi_27 12).toInt ≤ 400 := hp_38
    have hp_39 : 0 ≤ (Mi_27 13).toInt := hp_39
    have hp_40 : (Mi_27 13).toInt ≤ 6 := hp_40
    have hp_41 : 0 ≤ (Mi_27 18).toInt := hp_41
    have hp_42 : (Mi_27 18).toInt ≤ 4 := hp_42
    have hp_43 : (Mi_27 12).toInt = (0 : Int32).toInt := hp_43
    rw [show (0 : Int32).toInt = 0 from by decide +kernel] at hp_43
    have hp_44 : (Mi_27 9).toInt = (mi 9).toInt := hp_44
    refine lv_goto (pc := 138) (tgt := 142) E.1 E.2.1 dX11_text_138 (by decide) ?_
    exact em_i (w1 := (fun (u : (Nat → Int32) × (Nat → Nat → Int32) × (Nat → Nat → Int64)) => (WZ_MtextX cI cJ ad mv mr u.1 u.2.1 u.2.2))) E hr hlk ((mgs [(0, 0, 20)] Mi_27 (upd (upd (upd (upd (upd (upd (upd (upd mi 12 0) 13 nwords_12) 14 nat_8) 15 nkind_10) 16 nvalue_11) 17 nplace_9) 18 nfault_13) 19 nfaultPlace_14)), (mgs [(0, 0, 20)] Mf_28 mf), (mgs [(0, 0, 20)] Mg_29 mg)) hw30 ⟨hp_31, hp_32, hp_33, hp_34, hp_35, hp_36, hp_37, hp_38, hp_39, hp_40, hp_41, hp_42, (by show (Mi_27 12).toInt = 0; omega), hp_44⟩ (Nat.le_of_ble_eq_true rfl) (Nat.le_of_ble_eq_true rfl) dX11_text_142
  · skip
    rcases (show hsw_21k = 0 ∨ hsw_21k = 1 ∨ hsw_21k = 2 ∨ hsw_21k = 3 ∨ hsw_21k = 4 from by omega) with rfl | rfl | rfl | rfl | rfl
    · skip
      have hsw_21v : z_k.toInt = 0 := hsw_21
      have hsw_21e : z_k = 0 := Int32.toInt_inj.mp (by rw [hsw_21]; decide +kernel)
      refine lv_tableIn (pc := 20) (off := 36) (tgt := 56) E.1 E.2.1 dX11_text_20 (by rw [hsw_21e]; decide +kernel) (by rw [hsw_21e]; decide +kernel) (by rw [hsw_21e]; decide +kernel) (by decide) ?_
      exfalso; omega
    · skip
      have hsw_21v : z_k.toInt = 1 := hsw_21
      have hsw_21e : z_k = 1 := Int32.toInt_inj.mp (by rw [hsw_21]; decide +kernel)
      refine lv_tableIn (pc := 20) (off := 36) (tgt := 56) E.1 E.2.1 dX11_text_20 (by rw [hsw_21e]; decide +kernel) (by rw [hsw_21e]; decide +kernel) (by rw [hsw_21e]; decide +kernel) (by decide) ?_
      exfalso; omega
    · skip
      have hsw_21v : z_k.toInt = 2 := hsw_21
      have hsw_21e : z_k = 2 := Int32.toInt_inj.mp (by rw [hsw_21]; decide +kernel)
      refine lv_tableIn (pc := 20) (off := 50) (tgt := 70) E.1 E.2.1 dX11_text_20 (by rw [hsw_21e]; decide +kernel) (by rw [hsw_21e]; decide +kernel) (by rw [hsw_21e]; decide +kernel) (by decide) ?_
      exfalso; omega
    · skip
      have hsw_21v : z_k.toInt = 3 := hsw_21
      have hsw_21e : z_k = 3 := Int32.toInt_inj.mp (by rw [hsw_21]; decide +kernel)
      refine lv_tableIn (pc := 20) (off := 65) (tgt := 85) E.1 E.2.1 dX11_text_20 (by rw [hsw_21e]; decide +kernel) (by rw [hsw_21e]; decide +kernel) (by rw [hsw_21e]; decide +kernel) (by decide) ?_
      exfalso; omega
    · skip
      have hsw_21v : z_k.toInt = 4 := hsw_21
      have hsw_21e : z_k = 4 := Int32.toInt_inj.mp (by rw [hsw_21]; decide +kernel)
      refine lv_tableIn (pc := 20) (off := 80) (tgt := 100) E.1 E.2.1 dX11_text_20 (by rw [hsw_21e]; decide +kernel) (by rw [hsw_21e]; decide +kernel) (by rw [hsw_21e]; decide +kernel) (by decide) ?_
      exfalso; omega
