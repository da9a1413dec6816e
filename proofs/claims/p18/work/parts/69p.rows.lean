set_option maxHeartbeats 4000000 in
set_option maxRecDepth 100000 in
theorem t_text4N (l : Launch) (D : va_G) (cI cJ : ClassId) (sz : Nat) (mr : Nat → Nat) (mi : Nat → Int32) (mf : Nat → Nat → Int32) (mg : Nat → Nat → Int64) (z_k : Int32) (ad av : Nat → Nat) (tf : Value) (mv : Nat → Value) (h0 : 0 ≤ (mi 1).toInt ∧ (mi 1).toInt ≤ 5) (h1 : 0 ≤ (mi 2).toInt ∧ (mi 2).toInt ≤ 6) (h2 : 0 ≤ (mi 14).toInt ∧ (mi 14).toInt ≤ 200) (h3 : 0 ≤ (mi 17).toInt ∧ (mi 17).toInt ≤ 10) (h4 : 0 ≤ (mi 20).toInt ∧ (mi 20).toInt ≤ 200) (h5 : 0 ≤ (mi 26).toInt ∧ (mi 26).toInt ≤ 400) (h6 : 0 ≤ (mi 27).toInt ∧ (mi 27).toInt ≤ 6) (h7 : 0 ≤ (mi 32).toInt ∧ (mi 32).toInt ≤ 4) (h8 : z_k.toInt = 4) : Met l yX11_text (Cond.code yX11_text cX11_text 3 (some .int) :: GW) ({ frames := 11, cells := 0, slots := 0, locals := 263 } : Room) (va_Pc [.ref (mr 0), .int z_k] (PW D cI cJ sz (WZ_Ltext4N cI cJ ad mv mr mi mf mg) (xT8 ad av tf (va_A (WZ_Ltext4N cI cJ ad mv mr mi mf mg) sz)))) (va_Qi (fun (r : Int32) (u : (Nat → Int32) × (Nat → Nat → Int32) × (Nat → Nat → Int64)) => (0 ≤ (u.1 1).toInt) ∧ ((u.1 1).toInt ≤ 5) ∧ (0 ≤ (u.1 2).toInt) ∧ ((u.1 2).toInt ≤ 6) ∧ (0 ≤ (u.1 14).toInt) ∧ ((u.1 14).toInt ≤ 200) ∧ (0 ≤ (u.1 17).toInt) ∧ ((u.1 17).toInt ≤ 10) ∧ (0 ≤ (u.1 20).toInt) ∧ ((u.1 20).toInt ≤ 200) ∧ (0 ≤ (u.1 26).toInt) ∧ ((u.1 26).toInt ≤ 400) ∧ (0 ≤ (u.1 27).toInt) ∧ ((u.1 27).toInt ≤ 6) ∧ (0 ≤ (u.1 32).toInt) ∧ ((u.1 32).toInt ≤ 4) ∧ ((u.1 26).toInt = 0) ∧ ((u.1 17).toInt = (mi 17).toInt)) (fun u => QW D cI cJ (va_A (WZ_Ltext4N cI cJ ad mv mr mi mf mg) sz) ((fun (u : (Nat → Int32) × (Nat → Nat → Int32) × (Nat → Nat → Int64)) => (WZ_Ltext4N cI cJ ad mv mr u.1 u.2.1 u.2.2)) u)) (va_A (WZ_Ltext4N cI cJ ad mv mr mi mf mg) sz)) 0 0 (va_A (WZ_Ltext4N cI cJ ad mv mr mi mf mg) sz) := by
  refine mk_metA (X := fun A => xT8 ad av tf A) (y := yX11_text) (bytes := cX11_text) (maxL := 3) (avs := [.ref (mr 0), .int z_k]) (WS := (WZ_Ltext4N cI cJ ad mv mr mi mf mg)) (Qf := fun A => va_Qi (fun (r : Int32) (u : (Nat → Int32) × (Nat → Nat → Int32) × (Nat → Nat → Int64)) => (0 ≤ (u.1 1).toInt) ∧ ((u.1 1).toInt ≤ 5) ∧ (0 ≤ (u.1 2).toInt) ∧ ((u.1 2).toInt ≤ 6) ∧ (0 ≤ (u.1 14).toInt) ∧ ((u.1 14).toInt ≤ 200) ∧ (0 ≤ (u.1 17).toInt) ∧ ((u.1 17).toInt ≤ 10) ∧ (0 ≤ (u.1 20).toInt) ∧ ((u.1 20).toInt ≤ 200) ∧ (0 ≤ (u.1 26).toInt) ∧ ((u.1 26).toInt ≤ 400) ∧ (0 ≤ (u.1 27).toInt) ∧ ((u.1 27).toInt ≤ 6) ∧ (0 ≤ (u.1 32).toInt) ∧ ((u.1 32).toInt ≤ 4) ∧ ((u.1 26).toInt = 0) ∧ ((u.1 17).toInt = (mi 17).toInt)) (fun u => QW D cI cJ A ((fun (u : (Nat → Int32) × (Nat → Nat → Int32) × (Nat → Nat → Int64)) => (WZ_Ltext4N cI cJ ad mv mr u.1 u.2.1 u.2.2)) u)) A) (by decide) (Nat.le_of_ble_eq_true rfl) ?_
  intro p e s m below meth c A ls E hr hlk hnm hX hw1 hl2
  have hl3 : lv_has ls 3 [(0, .ref (mr 0)), (1, .int z_k)] := hl2
  refine lv_aload_n (pc := 0) E.1 E.2.1 dX11_text_0 rfl (lv_at hl3 0 rfl) ?_
  refine x_get (pc := 1) (T := TX11) (N := 13) (ci := 11) (v := .ref (mr 3)) E hw1 inX11 0 0 q_606 rfl rfl (by decide) rfl rfl dX11_text_1 ?_
  refine x_get (pc := 4) (T := TX10) (N := 17) (ci := 10) (v := .ref (mr 16)) E hw1 inX10 1 1 q_463 rfl rfl (by decide) rfl rfl dX11_text_4 ?_
  refine x_get (pc := 7) (T := TX1) (N := 9) (ci := 1) (v := .int (mi 17)) E hw1 inX1 3 5 q_282 rfl rfl (by decide) rfl rfl dX11_text_7 ?_
  refine lv_istore_n (pc := 10) (lv' := [(2, .int (mi 17)), (0, .ref (mr 0)), (1, .int z_k)]) E.1 E.2.1 dX11_text_10 rfl hl3 (by decide) rfl (fun ls hl4 => ?_)
  refine lv_aload_n (pc := 11) E.1 E.2.1 dX11_text_11 rfl (lv_at hl4 1 rfl) ?_
  refine x_get (pc := 12) (T := TX11) (N := 13) (ci := 11) (v := .ref (mr 24)) E hw1 inX11 0 2 q_608 rfl rfl (by decide) rfl rfl dX11_text_12 ?_
  refine lv_iload_n (pc := 15) E.1 E.2.1 dX11_text_15 rfl (lv_at hl4 2 rfl) ?_
  refine ck_v (pc := 16) (ws' := (fun (u : Int32 × Int32 × Int32 × Int32 × Int32 × Int32 × Int32) => (WZ_Ltext4N cI cJ ad mv mr (upd (upd (upd (upd (upd (upd (upd mi 27 u.2.2.2.2.1) 28 u.1) 29 u.2.2.1) 30 u.2.2.2.1) 31 u.2.1) 32 u.2.2.2.2.2.1) 33 u.2.2.2.2.2.2) mf mg))) [false, false, false, false, false, false, false, false, true, true, false, false, false, false] hw1 rfl (fun hC_ => (rn_V (As := [.int z_k]) (rest := []) E hw1 (t_open l D cI cJ _ (shf 24 mr) (shf 24 mi) (shf 24 mf) (shf 24 mg) z_k ad av tf h5) (gdV q_710 q_711 q_712 q_160 q_713) hdV_X8_open ⟨rfl, rfl⟩ ⟨(Nat.le_of_ble_eq_true rfl), (Nat.le_of_ble_eq_true rfl)⟩ ⟨(Nat.le_of_ble_eq_true rfl), (Nat.le_of_ble_eq_true rfl)⟩ xT8_b (xT8_at hX hw1.2.2.1 (va_free hw1.2.1 hw1.2.2.1 hw1.2.2.2 _ hC_)) 8 8 rfl rfl rfl _ hC_ (nd_T _ 0) rfl hl4.1 rfl (Nat.le_of_ble_eq_true rfl) dX11_text_16)) rfl (fun _ => rfl) (fun _ => rfl) (fun u_5 H1 locs hp hw7 => ?_)
  obtain ⟨nat_8, nplace_9, nkind_10, nvalue_11, nwords_12, nfault_13, nfaultPlace_14⟩ := u_5
  generalize H1 = H at hw7 ⊢
  have hw15 : WD D A s.heap (WZ_Ltext4N cI cJ ad mv mr (upd (upd (upd (upd (upd (upd (upd mi 27 nwords_12) 28 nat_8) 29 nkind_10) 30 nvalue_11) 31 nplace_9) 32 nfault_13) 33 nfaultPlace_14) mf mg) H locs := hw7
  obtain ⟨hp_16, hp_17, hp_18, hp_19, hp_20⟩ := hp
  have hp_16 : 0 ≤ nat_8.toInt := hp_16
  have hp_17 : nat_8.toInt ≤ (mi 26).toInt := hp_17
  have hp_18 : 0 ≤ nwords_12.toInt := hp_18
  have hp_19 : nwords_12.toInt ≤ 6 := hp_19
  have hp_20 : nfault_13.toInt = 0 := hp_20
  refine lv_iload_n (pc := 19) E.1 E.2.1 dX11_text_19 rfl (lv_at hl4 2 rfl) ?_
  rcases swt (x := z_k) 0 4 with hsw_21 | ⟨hsw_21k, hsw_211, hsw_212, hsw_21⟩
  · skip
    exfalso; omega
  · skip
    rcases (show hsw_21k = 0 ∨ hsw_21k = 1 ∨ hsw_21k = 2 ∨ hsw_21k = 3 ∨ hsw_21k = 4 from by omega) with rfl | rfl | rfl | rfl | rfl
    · skip
      have hsw_21v : z_k.toInt = 0 := hsw_21
      have hsw_21e : z_k = 0 := Int32.toInt_inj.mp (by rw [hsw_21]; decide +kernel)
      refine lv_tableIn (pc := 20) (off := 36) (tgt := 56) E.1 E.2.1 dX11_text_20 (by rw [hsw_21e]; decide +kernel) (by rw [hsw_21e]; decide +kernel) (by rw [hsw_21e]; decide +kernel) (by decide) ?_
      exfalso; omega
    · skip
      have hsw_21v : z_k.toInt = 1 := hsw_21
      have hsw_21e : z_k = 1 := Int32.toInt_inj.mp (by rw [hsw_21]; decide +kernel)
      refine lv_tableIn (pc := 20) (off := 36) (tgt := 56) E.1 E.2.1 dX11_text_20 (by rw [hsw_21e]; decide +kernel) (by rw [hsw_21e]; decide +kernel) (by rw [hsw_21e]; decide +kernel) (by decide) ?_
      exfalso; omega
    · skip
      have hsw_21v : z_k.toInt = 2 := hsw_21
      have hsw_21e : z_k = 2 := Int32.toInt_inj.mp (by rw [hsw_21]; decide +kernel)
      refine lv_tableIn (pc := 20) (off := 50) (tgt := 70) E.1 E.2.1 dX11_text_20 (by rw [hsw_21e]; decide +kernel) (by rw [hsw_21e]; decide +kernel) (by rw [hsw_21e]; decide +kernel) (by decide) ?_
      exfalso; omega
    · skip
      have hsw_21v : z_k.toInt = 3 := hsw_21
      have hsw_21e : z_k = 3 := Int32.toInt_inj.mp (by rw [hsw_21]; decide +kernel)
      refine lv_tableIn (pc := 20) (off := 65) (tgt := 85) E.1 E.2.1 dX11_text_20 (by rw [hsw_21e]; decide +kernel) (by rw [hsw_21e]; decide +kernel) (by rw [hsw_21e]; decide +kernel) (by decide) ?_
      exfalso; omega
    · skip
      have hsw_21v : z_k.toInt = 4 := hsw_21
      have hsw_21e : z_k = 4 := Int32.toInt_inj.mp (by rw [hsw_21]; decide +kernel)
      refine lv_tableIn (pc := 20) (off := 80) (tgt := 100) E.1 E.2.1 dX11_text_20 (by rw [hsw_21e]; decide +kernel) (by rw [hsw_21e]; decide +kernel) (by rw [hsw_21e]; decide +kernel) (by decide) ?_
      refine lv_aload_n (pc := 100) E.1 E.2.1 dX11_text_100 rfl (lv_at hl4 1 rfl) ?_
      refine x_get (pc := 101) (T := TX11) (N := 13) (ci := 11) (v := .ref (mr 34)) E hw15 inX11 0 6 q_612 rfl rfl (by decide) rfl rfl dX11_text_101 ?_
      refine lv_aload_n (pc := 104) E.1 E.2.1 dX11_text_104 rfl (lv_at hl4 1 rfl) ?_
      refine x_get (pc := 105) (T := TX11) (N := 13) (ci := 11) (v := .ref (mr 24)) E hw15 inX11 0 2 q_608 rfl rfl (by decide) rfl rfl dX11_text_105 ?_
      refine lv_iload_n (pc := 108) E.1 E.2.1 dX11_text_108 rfl (lv_at hl4 0 rfl) ?_
      refine cq_v (pc := 109) (ws' := (fun (u : Int32 × Int32 × Int32 × Int32 × Int32 × Int32 × Int32 × Int32 × (Nat → Int32) × (Nat → Int32) × (Nat → Int32)) => (WZ_Ltext4N cI cJ ad mv mr (upd (upd (upd (upd (upd (upd (upd (upd (upd mi 27 nwords_12) 28 u.1) 29 u.2.2.1) 30 u.2.2.2.1) 31 u.2.1) 32 u.2.2.2.2.1) 33 u.2.2.2.2.2.1) 36 u.2.2.2.2.2.2.1) 39 u.2.2.2.2.2.2.2.1) (va_up (va_up (va_up mf 35 u.2.2.2.2.2.2.2.2.1) 37 u.2.2.2.2.2.2.2.2.2.1) 38 u.2.2.2.2.2.2.2.2.2.2) mg))) hw15 [10, 11, 12, 13, 8, 9] [0, 1, 2, 3, 4, 5, 6, 7] [0, 1, 2, 3, 4, 5, 6, 7, 12, 13, 8, 9, 10, 11] rfl rfl (by decide) (by decide) (fun _ => rfl) (by decide) (rn_V (As := [.ref (mr 24), .int (mi 17)]) (rest := []) E hw15 (t_roundRead l D cI cJ _ (shg 6 34 18 mr) (shg 6 34 18 (upd (upd (upd (upd (upd (upd (upd mi 27 nwords_12) 28 nat_8) 29 nkind_10) 30 nvalue_11) 31 nplace_9) 32 nfault_13) 33 nfaultPlace_14)) (shg 6 34 18 mf) (shg 6 34 18 mg) (mi 17) ad av tf h5 hp_16 hp_17 ⟨hp_18, hp_19⟩ (by show 0 ≤ nfault_13.toInt ∧ nfault_13.toInt ≤ 4; omega) h3) (gdV q_936 q_937 q_938 q_158 q_939) hdV_X7_read ⟨rfl, rfl⟩ ⟨(Nat.le_of_ble_eq_true rfl), (Nat.le_of_ble_eq_true rfl)⟩ ⟨(Nat.le_of_ble_eq_true rfl), (Nat.le_of_ble_eq_true rfl)⟩ xT8_b (xT8_at hX hw15.2.2.1 (va_free hw15.2.1 hw15.2.2.1 hw15.2.2.2 [10, 11, 12, 13, 8, 9] rfl)) 10 7 rfl rfl rfl [10, 11, 12, 13, 8, 9] rfl (by decide) rfl hl4.1 rfl (Nat.le_of_ble_eq_true rfl) dX11_text_109) (fun u_22 H1 locs hp hw24 => ?_)
      obtain ⟨ntat_25, ntplace_26, ntkind_27, ntvalue_28, ntfault_29, ntfaultPlace_30, nsize_31, nopen_32, gstops_33, gstarts_34, gtimes_35⟩ := u_22
      generalize H1 = H at hw24 ⊢
      have hw36 : WD D A s.heap (WZ_Ltext4N cI cJ ad mv mr (upd (upd (upd (upd (upd (upd (upd (upd (upd mi 27 nwords_12) 28 ntat_25) 29 ntkind_27) 30 ntvalue_28) 31 ntplace_26) 32 ntfault_29) 33 ntfaultPlace_30) 36 nsize_31) 39 nopen_32) (va_up (va_up (va_up mf 35 gstops_33) 37 gstarts_34) 38 gtimes_35) mg) H locs := hw24
      obtain ⟨hp_37, hp_38, hp_39, hp_40, hp_41, hp_42⟩ := hp
      have hp_37 : 0 ≤ ntat_25.toInt := hp_37
      have hp_38 : ntat_25.toInt ≤ (mi 26).toInt := hp_38
      have hp_39 : 0 ≤ ntfault_29.toInt := hp_39
      have hp_40 : ntfault_29.toInt ≤ 4 := hp_40
      have hp_41 : 0 ≤ nsize_31.toInt := hp_41
      have hp_42 : nsize_31.toInt ≤ 200 + 157857660 * ntfault_29.toInt := hp_42
      refine lv_goto (pc := 112) (tgt := 115) E.1 E.2.1 dX11_text_112 (by decide) ?_
      refine lv_aload_n (pc := 115) E.1 E.2.1 dX11_text_115 rfl (lv_at hl4 1 rfl) ?_
      refine x_get (pc := 116) (T := TX11) (N := 13) (ci := 11) (v := .ref (mr 24)) E hw36 inX11 0 2 q_608 rfl rfl (by decide) rfl rfl dX11_text_116 ?_
      refine lv_iconst (pc := 119) (v := 0) E.1 E.2.1 dX11_text_119 (by decide +kernel) ?_
      refine x_put (pc := 120) (T := TX8) (N := 9) (ci := 8) (ws' := (WZ_Ltext4N cI cJ ad mv mr (upd (upd (upd (upd (upd (upd (upd (upd (upd (upd mi 26 0) 27 nwords_12) 28 ntat_25) 29 ntkind_27) 30 ntvalue_28) 31 ntplace_26) 32 ntfault_29) 33 ntfaultPlace_30) 36 nsize_31) 39 nopen_32) (va_up (va_up (va_up mf 35 gstops_33) 37 gstarts_34) 38 gtimes_35) mg)) E hw36 inX8 tyX8_ok nmX8 8 1 q_539 rfl rfl (by decide) rfl rfl rfl rfl (Nat.le_of_ble_eq_true rfl) rfl dX11_text_120 (fun H locs hw43 => ?_)
      refine lv_aload_n (pc := 123) E.1 E.2.1 dX11_text_123 rfl (lv_at hl4 1 rfl) ?_
      refine x_get (pc := 124) (T := TX11) (N := 13) (ci := 11) (v := .ref (mr 24)) E hw43 inX11 0 2 q_608 rfl rfl (by decide) rfl rfl dX11_text_124 ?_
      refine x_get (pc := 127) (T := TX8) (N := 9) (ci := 8) (v := .int ntfault_29) E hw43 inX8 8 7 q_555 rfl rfl (by decide) rfl rfl dX11_text_127 ?_
      refine lv_if_ne (pc := 130) (tgt := 141) E.1 E.2.1 dX11_text_130 (by decide) (fun c_44 => ?_) (fun c_44 => ?_)
      · skip
        have hc_44 := neE (a := ntfault_29.toInt) (b := 0) rfl (by decide +kernel) c_44
        refine lv_iconst (pc := 141) (v := (-1)) E.1 E.2.1 dX11_text_141 (by decide +kernel) ?_
        exact em_i (w1 := (fun (u : (Nat → Int32) × (Nat → Nat → Int32) × (Nat → Nat → Int64)) => (WZ_Ltext4N cI cJ ad mv mr u.1 u.2.1 u.2.2))) E hr hlk ((upd (upd (upd (upd (upd (upd (upd (upd (upd (upd mi 26 0) 27 nwords_12) 28 ntat_25) 29 ntkind_27) 30 ntvalue_28) 31 ntplace_26) 32 ntfault_29) 33 ntfaultPlace_30) 36 nsize_31) 39 nopen_32), (va_up (va_up (va_up mf 35 gstops_33) 37 gstarts_34) 38 gtimes_35), mg) hw43 ⟨h0.1, h0.2, h1.1, h1.2, h2.1, h2.2, h3.1, h3.2, h4.1, h4.2, (by show 0 ≤ (0 : Int32).toInt; have k_0 : (0 : Int32).toInt = 0 := (by decide +kernel); have k_1 : ((-1) : Int32).toInt = -1 := (by decide +kernel); omega), (by show (0 : Int32).toInt ≤ 400; have k_0 : (0 : Int32).toInt = 0 := (by decide +kernel); have k_1 : ((-1) : Int32).toInt = -1 := (by decide +kernel); omega), hp_18, hp_19, hp_39, hp_40, (by show (0 : Int32).toInt = 0; have k_0 : (0 : Int32).toInt = 0 := (by decide +kernel); have k_1 : ((-1) : Int32).toInt = -1 := (by decide +kernel); omega), rfl⟩ (Nat.le_of_ble_eq_true rfl) (Nat.le_of_ble_eq_true rfl) dX11_text_142
      · skip
        have hc_44 := eqE (a := ntfault_29.toInt) (b := 0) rfl (by decide +kernel) c_44
        refine lv_aload_n (pc := 133) E.1 E.2.1 dX11_text_133 rfl (lv_at hl4 1 rfl) ?_
        refine lv_iload_n (pc := 134) E.1 E.2.1 dX11_text_134 rfl (lv_at hl4 2 rfl) ?_
        refine ck_i (pc := 135) (ws' := (fun (u : (Nat → Int32) × (Nat → Nat → Int32) × (Nat → Nat → Int64)) => (WZ_Ltext4N cI cJ ad mv mr (mgs [(0, 0, 40)] u.1 (upd (upd (upd (upd (upd (upd (upd (upd (upd (upd mi 26 0) 27 nwords_12) 28 ntat_25) 29 ntkind_27) 30 ntvalue_28) 31 ntplace_26) 32 ntfault_29) 33 ntfaultPlace_30) 36 nsize_31) 39 nopen_32)) (mgs [(0, 0, 40)] u.2.1 (va_up (va_up (va_up mf 35 gstops_33) 37 gstarts_34) 38 gtimes_35)) (mgs [(0, 0, 40)] u.2.2 mg)))) [true, true, true, true, true, true, true, true, true, true, true, true, true, true] hw43 rfl (fun hC_ => (rn_V (As := [.int z_k]) (rest := []) E hw43 (t_take4N l D cI cJ _ mr (upd (upd (upd (upd (upd (upd (upd (upd (upd (upd mi 26 0) 27 nwords_12) 28 ntat_25) 29 ntkind_27) 30 ntvalue_28) 31 ntplace_26) 32 ntfault_29) 33 ntfaultPlace_30) 36 nsize_31) 39 nopen_32) (va_up (va_up (va_up mf 35 gstops_33) 37 gstarts_34) 38 gtimes_35) mg z_k ad (vl [mv 0, mv 1, mv 2, mv 3, mv 4, mv 5, mv 6, mv 7, mv 8, mv 9, mv 10, mv 11, mv 12, mv 13, mv 14, mv 15, mv 16, mv 17, mv 18, mv 19, mv 20, mv 21, mv 22, mv 23, mv 24, mv 25, mv 26, mv 27, mv 28, mv 29]) h0 h1 h2 h3 h4 (by show 0 ≤ (0 : Int32).toInt ∧ (0 : Int32).toInt ≤ 400; have k_0 : (0 : Int32).toInt = 0 := (by decide +kernel); omega) ⟨hp_18, hp_19⟩ ⟨hp_39, hp_40⟩ h8 (by show 0 ≤ nsize_31.toInt ∧ nsize_31.toInt ≤ 200; omega)) (gdV q_957 q_959 q_18 q_151 q_960) hdV_X11_takeDraft ⟨rfl, rfl⟩ ⟨(Nat.le_of_ble_eq_true rfl), (Nat.le_of_ble_eq_true rfl)⟩ ⟨(Nat.le_of_ble_eq_true rfl), (Nat.le_of_ble_eq_true rfl)⟩ xT_b xT_at 0 11 rfl rfl rfl _ hC_ (nd_T _ 0) rfl hl4.1 rfl (Nat.le_of_ble_eq_true rfl) dX11_text_135)) rfl (fun _ => rfl) (fun _ => rfl) (fun r_46 u_45 H1 locs hp hw47 => ?_)
        obtain ⟨Mi_48, Mf_49, Mg_50⟩ := u_45
        generalize H1 = H at hw47 ⊢
        have hw51 : WD D A s.heap (WZ_Ltext4N cI cJ ad mv mr (mgs [(0, 0, 40)] Mi_48 (upd (upd (upd (upd (upd (upd (upd (upd (upd (upd mi 26 0) 27 nwords_12) 28 ntat_25) 29 ntkind_27) 30 ntvalue_28) 31 ntplace_26) 32 ntfault_29) 33 ntfaultPlace_30) 36 nsize_31) 39 nopen_32)) (mgs [(0, 0, 40)] Mf_49 (va_up (va_up (va_up mf 35 gstops_33) 37 gstarts_34) 38 gtimes_35)) (mgs [(0, 0, 40)] Mg_50 mg)) H locs := hw47
        obtain ⟨hp_52, hp_53, hp_54, hp_55, hp_56, hp_57, hp_58, hp_59, hp_60, hp_61, hp_62, hp_63, hp_64, hp_65, hp_66, hp_67, hp_68, hp_69⟩ := hp
        have hp_52 : 0 ≤ (Mi_48 1).toInt := hp_52
        have hp_53 : (Mi_48 1).toInt ≤ 5 := hp_53
        have hp_54 : 0 ≤ (Mi_48 2).toInt := hp_54
        have hp_55 : (Mi_48 2).toInt ≤ 6 := hp_55
        have hp_56 : 0 ≤ (Mi_48 14).toInt := hp_56
        have hp_57 : (Mi_48 14).toInt ≤ 200 := hp_57
        have hp_58 : 0 ≤ (Mi_48 17).toInt := hp_58
        have hp_59 : (Mi_48 17).toInt ≤ 10 := hp_59
        have hp_60 : 0 ≤ (Mi_48 20).toInt := hp_60
        have hp_61 : (Mi_48 20).toInt ≤ 200 := hp_61
        have hp_62 : 0 ≤ (Mi_48 26).toInt := hp_62
        have hp_63 : (Mi_48 26).toInt ≤ 400 := hp_63
        have hp_64 : 0 ≤ (Mi_48 27).toInt := hp_64
        have hp_65 : (Mi_48 27).toInt ≤ 6 := hp_65
        have hp_66 : 0 ≤ (Mi_48 32).toInt := hp_66
        have hp_67 : (Mi_48 32).toInt ≤ 4 := hp_67
        have hp_68 : (Mi_48 26).toInt = (0 : Int32).toInt := hp_68
        rw [show (0 : Int32).toInt = 0 from by decide +kernel] at hp_68
        have hp_69 : (Mi_48 17).toInt = (mi 17).toInt := hp_69
        refine lv_goto (pc := 138) (tgt := 142) E.1 E.2.1 dX11_text_138 (by decide) ?_
        exact em_i (w1 := (fun (u : (Nat → Int32) × (Nat → Nat → Int32) × (Nat → Nat → Int64)) => (WZ_Ltext4N cI cJ ad mv mr u.1 u.2.1 u.2.2))) E hr hlk ((mgs [(0, 0, 40)] Mi_48 (upd (upd (upd (upd (upd (upd (upd (upd (upd (upd mi 26 0) 27 nwords_12) 28 ntat_25) 29 ntkind_27) 30 ntvalue_28) 31 ntplace_26) 32 ntfault_29) 33 ntfaultPlace_30) 36 nsize_31) 39 nopen_32)), (mgs [(0, 0, 40)] Mf_49 (va_up (va_up (va_up mf 35 gstops_33) 37 gstarts_34) 38 gtimes_35)), (mgs [(0, 0, 40)] Mg_50 mg)) hw51 ⟨hp_52, hp_53, hp_54, hp_55, hp_56, hp_57, hp_58, hp_59, hp_60, hp_61, hp_62, hp_63, hp_64, hp_65, hp_66, hp_67, (by show (Mi_48 26).toInt = 0; omega), hp_69⟩ (Nat.le_of_ble_eq_true rfl) (Nat.le_of_ble_eq_true rfl) dX11_text_142
set_option maxHeartbeats 4000000 in
set_option maxRecDepth 100000 in
theorem t_forgetPlanP (l : Launch) (D : va_G) (cI cJ : ClassId) (sz : Nat) (mr : Nat → Nat) (mi : Nat → Int32) (mf : Nat → Nat → Int32) (mg : Nat → Nat → Int64)  (mv : Nat → Value)  : Met l yX11_forgetPlan (Cond.code yX11_forgetPlan cX11_forgetPlan 1 none :: GW) ({ frames := 1, cells := 0, slots := 0, locals := 40 } : Room) (va_Pc [.ref (mr 0)] (PW D cI cJ sz (WZ_LfP cI cJ mv mr mi mf mg) xT)) (va_Qv (fun (u : Int32) => True) (fun u => QW D cI cJ (va_A (WZ_LfP cI cJ mv mr mi mf mg) sz) ((fun (u : Int32) => (WZ_LfP cI cJ mv mr (upd mi 4 u) mf mg)) u)) (va_A (WZ_LfP cI cJ mv mr mi mf mg) sz)) 0 0 (va_A (WZ_LfP cI cJ mv mr mi mf mg) sz) := by
  refine mk_met (y := yX11_forgetPlan) (bytes := cX11_forgetPlan) (maxL := 1) (avs := [.ref (mr 0)]) (WS := (WZ_LfP cI cJ mv mr mi mf mg)) (Qf := fun A => va_Qv (fun (u : Int32) => True) (fun u => QW D cI cJ A ((fun (u : Int32) => (WZ_LfP cI cJ mv mr (upd mi 4 u) mf mg)) u)) A) (by decide) (Nat.le_of_ble_eq_true rfl) ?_
  intro p e s m below meth c A ls E hr hlk hnm hX hw1 hl2
  have hl3 : lv_has ls 1 [(0, .ref (mr 0))] := hl2
  refine lv_aload_n (pc := 0) E.1 E.2.1 dX11_forgetPlan_0 rfl (lv_at hl3 0 rfl) ?_
  refine x_get (pc := 1) (T := TX11) (N := 13) (ci := 11) (v := .ref (mr 3)) E hw1 inX11 0 11 q_617 rfl rfl (by decide) rfl rfl dX11_forgetPlan_1 ?_
  refine lv_ifnull (pc := 4) E.1 E.2.1 dX11_forgetPlan_4 ?_
  refine lv_aload_n (pc := 7) E.1 E.2.1 dX11_forgetPlan_7 rfl (lv_at hl3 0 rfl) ?_
  refine x_get (pc := 8) (T := TX11) (N := 13) (ci := 11) (v := .ref (mr 3)) E hw1 inX11 0 11 q_617 rfl rfl (by decide) rfl rfl dX11_forgetPlan_8 ?_
  refine lv_iconst (pc := 11) (v := 0) E.1 E.2.1 dX11_forgetPlan_11 (by decide +kernel) ?_
  refine x_put (pc := 12) (T := TX6) (N := 10) (ci := 6) (ws' := (WZ_LfP cI cJ mv mr (upd mi 4 0) mf mg)) E hw1 inX6 tyX6_ok nmX6 1 0 q_1161 rfl rfl (by decide) rfl rfl rfl rfl (Nat.le_of_ble_eq_true rfl) rfl dX11_forgetPlan_12 (fun H locs hw4 => ?_)
  exact em_v (w1 := (fun (u : Int32) => (WZ_LfP cI cJ mv mr (upd mi 4 u) mf mg))) E hr hlk 0 hw4 trivial (Nat.le_of_ble_eq_true rfl) (Nat.le_of_ble_eq_true rfl) dX11_forgetPlan_15
set_option maxHeartbeats 4000000 in
set_option maxRecDepth 100000 in
theorem t_forgetNightsP (l : Launch) (D : va_G) (cI cJ : ClassId) (sz : Nat) (mr : Nat → Nat) (mi : Nat → Int32) (mf : Nat → Nat → Int32) (mg : Nat → Nat → Int64)  (mv : Nat → Value)  : Met l yX11_forgetNights (Cond.code yX11_forgetNights cX11_forgetNights 1 none :: GW) ({ frames := 2, cells := 0, slots := 0, locals := 60 } : Room) (va_Pc [.ref (mr 0)] (PW D cI cJ sz (WZ_LfP cI cJ mv mr mi mf mg) xT)) (va_Qv (fun (u : Int32 × Int32 × Int32) => (u.1.toInt = 0) ∧ (u.2.1.toInt = 0)) (fun u => QW D cI cJ (va_A (WZ_LfP cI cJ mv mr mi mf mg) sz) ((fun (u : Int32 × Int32 × Int32) => (WZ_LfP cI cJ mv mr (upd (upd (upd mi 1 u.1) 2 u.2.1) 4 u.2.2) mf mg)) u)) (va_A (WZ_LfP cI cJ mv mr mi mf mg) sz)) 0 0 (va_A (WZ_LfP cI cJ mv mr mi mf mg) sz) := by
  refine mk_met (y := yX11_forgetNights) (bytes := cX11_forgetNights) (maxL := 1) (avs := [.ref (mr 0)]) (WS := (WZ_LfP cI cJ mv mr mi mf mg)) (Qf := fun A => va_Qv (fun (u : Int32 × Int32 × Int32) => (u.1.toInt = 0) ∧ (u.2.1.toInt = 0)) (fun u => QW D cI cJ A ((fun (u : Int32 × Int32 × Int32) => (WZ_LfP cI cJ mv mr (upd (upd (upd mi 1 u.1) 2 u.2.1) 4 u.2.2) mf mg)) u)) A) (by decide) (Nat.le_of_ble_eq_true rfl) ?_
  intro p e s m below meth c A ls E hr hlk hnm hX hw1 hl2
  have hl3 : lv_has ls 1 [(0, .ref (mr 0))] := hl2
  refine lv_aload_n (pc := 0) E.1 E.2.1 dX11_forgetNights_0 rfl (lv_at hl3 0 rfl) ?_
  refine lv_iconst (pc := 1) (v := 0) E.1 E.2.1 dX11_forgetNights_1 (by decide +kernel) ?_
  refine x_put (pc := 2) (T := TX11) (N := 13) (ci := 11) (ws' := (WZ_LfP cI cJ mv mr (upd mi 2 0) mf mg)) E hw1 inX11 tyX11_ok nmX11 0 10 q_616 rfl rfl (by decide) rfl rfl rfl rfl (Nat.le_of_ble_eq_true rfl) rfl dX11_forgetNights_2 (fun H locs hw4 => ?_)
  refine lv_aload_n (pc := 5) E.1 E.2.1 dX11_forgetNights_5 rfl (lv_at hl3 0 rfl) ?_
  refine lv_iconst (pc := 6) (v := 0) E.1 E.2.1 dX11_forgetNights_6 (by decide +kernel) ?_
  refine x_put (pc := 7) (T := TX11) (N := 13) (ci := 11) (ws' := (WZ_LfP cI cJ mv mr (upd (upd mi 1 0) 2 0) mf mg)) E hw4 inX11 tyX11_ok nmX11 0 9 q_615 rfl rfl (by decide) rfl rfl rfl rfl (Nat.le_of_ble_eq_true rfl) rfl dX11_forgetNights_7 (fun H locs hw5 => ?_)
  refine lv_aload_n (pc := 10) E.1 E.2.1 dX11_forgetNights_10 rfl (lv_at hl3 0 rfl) ?_
  refine ck_v (pc := 11) (ws' := (fun (u : Int32) => (WZ_LfP cI cJ mv mr (upd (upd (upd mi 1 0) 2 0) 4 u) mf mg))) [true, true] hw5 rfl (fun hC_ => (rn_V (As := []) (rest := []) E hw5 (t_forgetPlanP l D cI cJ _ mr (upd (upd mi 1 0) 2 0) mf mg (vl [mv 0, mv 1, mv 2, mv 3, mv 4, mv 5, mv 6, mv 7, mv 8, mv 9, mv 10, mv 11, mv 12, mv 13, mv 14, mv 15])) (gdV q_654 q_656 q_1 q_151 q_657) hdV_X11_forgetPlan ⟨rfl, rfl⟩ ⟨(Nat.le_of_ble_eq_true rfl), (Nat.le_of_ble_eq_true rfl)⟩ ⟨(Nat.le_of_ble_eq_true rfl), (Nat.le_of_ble_eq_true rfl)⟩ xT_b xT_at 0 11 rfl rfl rfl _ hC_ (nd_T _ 0) rfl hl3.1 rfl (Nat.le_of_ble_eq_true rfl) dX11_forgetNights_11)) rfl (fun _ => rfl) (fun _ => rfl) (fun u_6 H1 locs hp hw8 => ?_)
  obtain ⟨nplplanned_9, rfl⟩ : ∃ z, z = u_6 := ⟨_, rfl⟩
  generalize H1 = H at hw8 ⊢
  have hw10 : WD D A s.heap (WZ_LfP cI cJ mv mr (upd (upd (upd mi 1 0) 2 0) 4 nplplanned_9) mf mg) H locs := hw8
  exact em_v (w1 := (fun (u : Int32 × Int32 × Int32) => (WZ_LfP cI cJ mv mr (upd (upd (upd mi 1 u.1) 2 u.2.1) 4 u.2.2) mf mg))) E hr hlk (0, 0, nplplanned_9) hw10 ⟨(by show (0 : Int32).toInt = 0; have k_0 : (0 : Int32).toInt = 0 := (by decide +kernel); have k_1 : (0 : Int32).toInt = 0 := (by decide +kernel); omega), (by show (0 : Int32).toInt = 0; have k_0 : (0 : Int32).toInt = 0 := (by decide +kernel); have k_1 : (0 : Int32).toInt = 0 := (by decide +kernel); omega)⟩ (Nat.le_of_ble_eq_true rfl) (Nat.le_of_ble_eq_true rfl) dX11_forgetNights_14
set_option maxHeartbeats 4000000 in
set_option maxRecDepth 100000 in
theorem t_stateP (l : Launch) (D : va_G) (cI cJ : ClassId) (sz : Nat) (mr : Nat → Nat) (mi : Nat → Int32) (mf : Nat → Nat → Int32) (mg : Nat → Nat → Int64) (z_v : Int32) (mv : Nat → Value) (h0 : 0 ≤ (mi 1).toInt ∧ (mi 1).toInt ≤ 5) (h1 : 0 ≤ (mi 2).toInt ∧ (mi 2).toInt ≤ 6) (h2 : 0 ≤ (mi 14).toInt ∧ (mi 14).toInt ≤ 200) : Met l yX11_state (Cond.code yX11_state cX11_state 3 (some .int) :: GW) ({ frames := 11, cells := 0, slots := 0, locals := 263 } : Room) (va_Pc [.ref (mr 0), .int z_v] (PW D cI cJ sz (WZ_LstateP cI cJ mv mr mi mf mg) xT)) (va_Qi (fun (r : Int32) (u : (Nat → Int32) × (Nat → Nat → Int32) × (Nat → Nat → Int64)) => (0 ≤ (u.1 1).toInt) ∧ ((u.1 1).toInt ≤ 5) ∧ (0 ≤ (u.1 2).toInt) ∧ ((u.1 2).toInt ≤ 6) ∧ (0 ≤ (u.1 14).toInt) ∧ ((u.1 14).toInt ≤ 200)) (fun u => QW D cI cJ (va_A (WZ_LstateP cI cJ mv mr mi mf mg) sz) ((fun (u : (Nat → Int32) × (Nat → Nat → Int32) × (Nat → Nat → Int64)) => (WZ_LstateP cI cJ mv mr u.1 u.2.1 u.2.2)) u)) (va_A (WZ_LstateP cI cJ mv mr mi mf mg) sz)) 0 0 (va_A (WZ_LstateP cI cJ mv mr mi mf mg) sz) := by
  refine mk_met (y := yX11_state) (bytes := cX11_state) (maxL := 3) (avs := [.ref (mr 0), .int z_v]) (WS := (WZ_LstateP cI cJ mv mr mi mf mg)) (Qf := fun A => va_Qi (fun (r : Int32) (u : (Nat → Int32) × (Nat → Nat → Int32) × (Nat → Nat → Int64)) => (0 ≤ (u.1 1).toInt) ∧ ((u.1 1).toInt ≤ 5) ∧ (0 ≤ (u.1 2).toInt) ∧ ((u.1 2).toInt ≤ 6) ∧ (0 ≤ (u.1 14).toInt) ∧ ((u.1 14).toInt ≤ 200)) (fun u => QW D cI cJ A ((fun (u : (Nat → Int32) × (Nat → Nat → Int32) × (Nat → Nat → Int64)) => (WZ_LstateP cI cJ mv mr u.1 u.2.1 u.2.2)) u)) A) (by decide) (Nat.le_of_ble_eq_true rfl) ?_
  intro p e s m below meth c A ls E hr hlk hnm hX hw1 hl2
  have hl3 : lv_has ls 3 [(0, .ref (mr 0)), (1, .int z_v)] := hl2
  refine lv_aload_n (pc := 0) E.1 E.2.1 dX11_state_0 rfl (lv_at hl3 0 rfl) ?_
  refine x_get (pc := 1) (T := TX11) (N := 13) (ci := 11) (v := .ref (mr 3)) E hw1 inX11 0 0 q_606 rfl rfl (by decide) rfl rfl dX11_state_1 ?_
  refine x_get (pc := 4) (T := TX10) (N := 17) (ci := 10) (v := .ref (mr 8)) E hw1 inX10 1 0 q_458 rfl rfl (by decide) rfl rfl dX11_state_4 ?_
  refine x_get (pc := 7) (T := TX4) (N := 12) (ci := 4) (v := .int (mi 13)) E hw1 inX4 2 9 q_226 rfl rfl (by decide) rfl rfl dX11_state_7 ?_
  refine lv_istore_n (pc := 10) (lv' := [(2, .int (mi 13)), (0, .ref (mr 0)), (1, .int z_v)]) E.1 E.2.1 dX11_state_10 rfl hl3 (by decide) rfl (fun ls hl4 => ?_)
  refine lv_aload_n (pc := 11) E.1 E.2.1 dX11_state_11 rfl (lv_at hl4 1 rfl) ?_
  refine x_get (pc := 12) (T := TX11) (N := 13) (ci := 11) (v := .ref (mr 3)) E hw1 inX11 0 0 q_606 rfl rfl (by decide) rfl rfl dX11_state_12 ?_
  refine x_get (pc := 15) (T := TX10) (N := 17) (ci := 10) (v := .ref (mr 8)) E hw1 inX10 1 0 q_458 rfl rfl (by decide) rfl rfl dX11_state_15 ?_
  refine lv_iload_n (pc := 18) E.1 E.2.1 dX11_state_18 rfl (lv_at hl4 2 rfl) ?_
  refine x_put (pc := 19) (T := TX4) (N := 12) (ci := 4) (ws' := (WZ_LstateP cI cJ mv mr (upd mi 13 z_v) mf mg)) E hw1 inX4 tyX4_ok nmX4 2 9 q_226 rfl rfl (by decide) rfl rfl rfl rfl (Nat.le_of_ble_eq_true rfl) rfl dX11_state_19 (fun H locs hw5 => ?_)
  refine lv_aload_n (pc := 22) E.1 E.2.1 dX11_state_22 rfl (lv_at hl4 1 rfl) ?_
  refine ck_v (pc := 23) (ws' := (fun (u : Int32 × Int32 × Int32) => (WZ_LstateP cI cJ mv mr (upd (upd (upd (upd mi 1 u.1) 2 u.2.1) 13 z_v) 17 u.2.2) mf mg))) [true, false, false, true] hw5 rfl (fun hC_ => (rn_V (As := []) (rest := []) E hw5 (t_forgetNightsP l D cI cJ _ (shg 3 0 13 mr) (shg 3 0 13 (upd mi 13 z_v)) (shg 3 0 13 mf) (shg 3 0 13 mg) (vl [.ref (mr 3), mv 0, mv 1, mv 2, mv 3, mv 4, mv 5, mv 6, mv 7, mv 8, mv 26, mv 27, mv 28, mv 29, mv 30, mv 31])) (gdV q_650 q_652 q_0 q_151 q_653) hdV_X11_forgetNights ⟨rfl, rfl⟩ ⟨(Nat.le_of_ble_eq_true rfl), (Nat.le_of_ble_eq_true rfl)⟩ ⟨(Nat.le_of_ble_eq_true rfl), (Nat.le_of_ble_eq_true rfl)⟩ xT_b xT_at 0 11 rfl rfl rfl _ hC_ (nd_T _ 0) rfl hl4.1 rfl (Nat.le_of_ble_eq_true rfl) dX11_state_23)) rfl (fun _ => rfl) (fun _ => rfl) (fun u_6 H1 locs hp hw8 => ?_)
  obtain ⟨noldest_9, nundoable_10, nplplanned_11⟩ := u_6
  generalize H1 = H at hw8 ⊢
  have hw12 : WD D A s.heap (WZ_LstateP cI cJ mv mr (upd (upd (upd (upd mi 1 noldest_9) 2 nundoable_10) 13 z_v) 17 nplplanned_11) mf mg) H locs := hw8
  obtain ⟨hp_13, hp_14⟩ := hp
  have hp_13 : noldest_9.toInt = 0 := hp_13
  have hp_14 : nundoable_10.toInt = 0 := hp_14
  refine lv_iload_n (pc := 26) E.1 E.2.1 dX11_state_26 rfl (lv_at hl4 0 rfl) ?_
  exact em_i (w1 := (fun (u : (Nat → Int32) × (Nat → Nat → Int32) × (Nat → Nat → Int64)) => (WZ_LstateP cI cJ mv mr u.1 u.2.1 u.2.2))) E hr hlk ((upd (upd (upd (upd mi 1 noldest_9) 2 nundoable_10) 13 z_v) 17 nplplanned_11), mf, mg) hw12 ⟨(by show 0 ≤ noldest_9.toInt; omega), (by show noldest_9.toInt ≤ 5; omega), (by show 0 ≤ nundoable_10.toInt; omega), (by show nundoable_10.toInt ≤ 6; omega), h2.1, h2.2⟩ (Nat.le_of_ble_eq_true rfl) (Nat.le_of_ble_eq_true rfl) dX11_state_27
