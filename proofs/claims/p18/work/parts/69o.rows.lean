set_option maxHeartbeats 4000000 in
set_option maxRecDepth 100000 in
theorem t_text3N (l : Launch) (D : va_G) (cI cJ : ClassId) (sz : Nat) (mr : Nat → Nat) (mi : Nat → Int32) (mf : Nat → Nat → Int32) (mg : Nat → Nat → Int64) (z_k : Int32) (ad av : Nat → Nat) (tf : Value) (mv : Nat → Value) (h0 : 0 ≤ (mi 1).toInt ∧ (mi 1).toInt ≤ 5) (h1 : 0 ≤ (mi 2).toInt ∧ (mi 2).toInt ≤ 6) (h2 : 0 ≤ (mi 19).toInt ∧ (mi 19).toInt ≤ 200) (h3 : 0 ≤ (mi 22).toInt ∧ (mi 22).toInt ≤ 10) (h4 : 0 ≤ (mi 29).toInt ∧ (mi 29).toInt ≤ 10) (h5 : 0 ≤ (mi 32).toInt ∧ (mi 32).toInt ≤ 400) (h6 : 0 ≤ (mi 33).toInt ∧ (mi 33).toInt ≤ 6) (h7 : 0 ≤ (mi 38).toInt ∧ (mi 38).toInt ≤ 4) (h8 : z_k.toInt = 3) : Met l yX11_text (Cond.code yX11_text cX11_text 3 (some .int) :: GW) ({ frames := 11, cells := 0, slots := 0, locals := 263 } : Room) (va_Pc [.ref (mr 0), .int z_k] (PW D cI cJ sz (WZ_Ltext3N cI cJ ad mv mr mi mf mg) (xT8 ad av tf (va_A (WZ_Ltext3N cI cJ ad mv mr mi mf mg) sz)))) (va_Qi (fun (r : Int32) (u : (Nat → Int32) × (Nat → Nat → Int32) × (Nat → Nat → Int64)) => (0 ≤ (u.1 1).toInt) ∧ ((u.1 1).toInt ≤ 5) ∧ (0 ≤ (u.1 2).toInt) ∧ ((u.1 2).toInt ≤ 6) ∧ (0 ≤ (u.1 19).toInt) ∧ ((u.1 19).toInt ≤ 200) ∧ (0 ≤ (u.1 22).toInt) ∧ ((u.1 22).toInt ≤ 10) ∧ (0 ≤ (u.1 29).toInt) ∧ ((u.1 29).toInt ≤ 10) ∧ (0 ≤ (u.1 32).toInt) ∧ ((u.1 32).toInt ≤ 400) ∧ (0 ≤ (u.1 33).toInt) ∧ ((u.1 33).toInt ≤ 6) ∧ (0 ≤ (u.1 38).toInt) ∧ ((u.1 38).toInt ≤ 4) ∧ ((u.1 32).toInt = 0) ∧ ((u.1 22).toInt = (mi 22).toInt)) (fun u => QW D cI cJ (va_A (WZ_Ltext3N cI cJ ad mv mr mi mf mg) sz) ((fun (u : (Nat → Int32) × (Nat → Nat → Int32) × (Nat → Nat → Int64)) => (WZ_Ltext3N cI cJ ad mv mr u.1 u.2.1 u.2.2)) u)) (va_A (WZ_Ltext3N cI cJ ad mv mr mi mf mg) sz)) 0 0 (va_A (WZ_Ltext3N cI cJ ad mv mr mi mf mg) sz) := by
  refine mk_metA (X := fun A => xT8 ad av tf A) (y := yX11_text) (bytes := cX11_text) (maxL := 3) (avs := [.ref (mr 0), .int z_k]) (WS := (WZ_Ltext3N cI cJ ad mv mr mi mf mg)) (Qf := fun A => va_Qi (fun (r : Int32) (u : (Nat → Int32) × (Nat → Nat → Int32) × (Nat → Nat → Int64)) => (0 ≤ (u.1 1).toInt) ∧ ((u.1 1).toInt ≤ 5) ∧ (0 ≤ (u.1 2).toInt) ∧ ((u.1 2).toInt ≤ 6) ∧ (0 ≤ (u.1 19).toInt) ∧ ((u.1 19).toInt ≤ 200) ∧ (0 ≤ (u.1 22).toInt) ∧ ((u.1 22).toInt ≤ 10) ∧ (0 ≤ (u.1 29).toInt) ∧ ((u.1 29).toInt ≤ 10) ∧ (0 ≤ (u.1 32).toInt) ∧ ((u.1 32).toInt ≤ 400) ∧ (0 ≤ (u.1 33).toInt) ∧ ((u.1 33).toInt ≤ 6) ∧ (0 ≤ (u.1 38).toInt) ∧ ((u.1 38).toInt ≤ 4) ∧ ((u.1 32).toInt = 0) ∧ ((u.1 22).toInt = (mi 22).toInt)) (fun u => QW D cI cJ A ((fun (u : (Nat → Int32) × (Nat → Nat → Int32) × (Nat → Nat → Int64)) => (WZ_Ltext3N cI cJ ad mv mr u.1 u.2.1 u.2.2)) u)) A) (by decide) (Nat.le_of_ble_eq_true rfl) ?_
  intro p e s m below meth c A ls E hr hlk hnm hX hw1 hl2
  have hl3 : lv_has ls 3 [(0, .ref (mr 0)), (1, .int z_k)] := hl2
  refine lv_aload_n (pc := 0) E.1 E.2.1 dX11_text_0 rfl (lv_at hl3 0 rfl) ?_
  refine x_get (pc := 1) (T := TX11) (N := 13) (ci := 11) (v := .ref (mr 3)) E hw1 inX11 0 0 q_606 rfl rfl (by decide) rfl rfl dX11_text_1 ?_
  refine x_get (pc := 4) (T := TX10) (N := 17) (ci := 10) (v := .ref (mr 21)) E hw1 inX10 1 1 q_463 rfl rfl (by decide) rfl rfl dX11_text_4 ?_
  refine x_get (pc := 7) (T := TX1) (N := 9) (ci := 1) (v := .int (mi 22)) E hw1 inX1 8 5 q_282 rfl rfl (by decide) rfl rfl dX11_text_7 ?_
  refine lv_istore_n (pc := 10) (lv' := [(2, .int (mi 22)), (0, .ref (mr 0)), (1, .int z_k)]) E.1 E.2.1 dX11_text_10 rfl hl3 (by decide) rfl (fun ls hl4 => ?_)
  refine lv_aload_n (pc := 11) E.1 E.2.1 dX11_text_11 rfl (lv_at hl4 1 rfl) ?_
  refine x_get (pc := 12) (T := TX11) (N := 13) (ci := 11) (v := .ref (mr 30)) E hw1 inX11 0 2 q_608 rfl rfl (by decide) rfl rfl dX11_text_12 ?_
  refine lv_iload_n (pc := 15) E.1 E.2.1 dX11_text_15 rfl (lv_at hl4 2 rfl) ?_
  refine ck_v (pc := 16) (ws' := (fun (u : Int32 × Int32 × Int32 × Int32 × Int32 × Int32 × Int32) => (WZ_Ltext3N cI cJ ad mv mr (upd (upd (upd (upd (upd (upd (upd mi 33 u.2.2.2.2.1) 34 u.1) 35 u.2.2.1) 36 u.2.2.2.1) 37 u.2.1) 38 u.2.2.2.2.2.1) 39 u.2.2.2.2.2.2) mf mg))) [false, false, false, false, false, false, false, false, false, false, false, false, false, false, false, true, true, false, false, false, false, false, false] hw1 rfl (fun hC_ => (rn_V (As := [.int z_k]) (rest := []) E hw1 (t_open l D cI cJ _ (shf 30 mr) (shf 30 mi) (shf 30 mf) (shf 30 mg) z_k ad av tf h5) (gdV q_710 q_711 q_712 q_160 q_713) hdV_X8_open ⟨rfl, rfl⟩ ⟨(Nat.le_of_ble_eq_true rfl), (Nat.le_of_ble_eq_true rfl)⟩ ⟨(Nat.le_of_ble_eq_true rfl), (Nat.le_of_ble_eq_true rfl)⟩ xT8_b (xT8_at hX hw1.2.2.1 (va_free hw1.2.1 hw1.2.2.1 hw1.2.2.2 _ hC_)) 15 8 rfl rfl rfl _ hC_ (nd_T _ 0) rfl hl4.1 rfl (Nat.le_of_ble_eq_true rfl) dX11_text_16)) rfl (fun _ => rfl) (fun _ => rfl) (fun u_5 H1 locs hp hw7 => ?_)
  obtain ⟨nat_8, nplace_9, nkind_10, nvalue_11, nwords_12, nfault_13, nfaultPlace_14⟩ := u_5
  generalize H1 = H at hw7 ⊢
  have hw15 : WD D A s.heap (WZ_Ltext3N cI cJ ad mv mr (upd (upd (upd (upd (upd (upd (upd mi 33 nwords_12) 34 nat_8) 35 nkind_10) 36 nvalue_11) 37 nplace_9) 38 nfault_13) 39 nfaultPlace_14) mf mg) H locs := hw7
  obtain ⟨hp_16, hp_17, hp_18, hp_19, hp_20⟩ := hp
  have hp_16 : 0 ≤ nat_8.toInt := hp_16
  have hp_17 : nat_8.toInt ≤ (mi 32).toInt := hp_17
  have hp_18 : 0 ≤ nwords_12.toInt := hp_18
  have hp_19 : nwords_12.toInt ≤ 6 := hp_19
  have hp_20 : nfault_13.toInt = 0 := hp_20
  refine lv_iload_n (pc := 19) E.1 E.2.1 dX11_text_19 rfl (lv_at hl4 2 rfl) ?_
  rcases swt (x := z_k) 0 4 with hsw_21 | ⟨hsw_21k, hsw_211, hsw_212, hsw_21⟩
  · skip
    exfalso; omega
  · skip
    rcases (show hsw_21k = 0 ∨ hsw_21k = 1 ∨ hsw_21k = 2 ∨ hsw_21k = 3 ∨ hsw_21k = 4 from by omega) with rfl | rfl | rfl | rfl | rfl
    · skip
      have hsw_21v : z_k.toInt = 0 := hsw_21
      have hsw_21e : z_k = 0 := Int32.toInt_inj.mp (by rw [hsw_21]; decide +kernel)
      refine lv_tableIn (pc := 20) (off := 36) (tgt := 56) E.1 E.2.1 dX11_text_20 (by rw [hsw_21e]; decide +kernel) (by rw [hsw_21e]; decide +kernel) (by rw [hsw_21e]; decide +kernel) (by decide) ?_
      exfalso; omega
    · skip
      have hsw_21v : z_k.toInt = 1 := hsw_21
      have hsw_21e : z_k = 1 := Int32.toInt_inj.mp (by rw [hsw_21]; decide +kernel)
      refine lv_tableIn (pc := 20) (off := 36) (tgt := 56) E.1 E.2.1 dX11_text_20 (by rw [hsw_21e]; decide +kernel) (by rw [hsw_21e]; decide +kernel) (by rw [hsw_21e]; decide +kernel) (by decide) ?_
      exfalso; omega
    · skip
      have hsw_21v : z_k.toInt = 2 := hsw_21
      have hsw_21e : z_k = 2 := Int32.toInt_inj.mp (by rw [hsw_21]; decide +kernel)
      refine lv_tableIn (pc := 20) (off := 50) (tgt := 70) E.1 E.2.1 dX11_text_20 (by rw [hsw_21e]; decide +kernel) (by rw [hsw_21e]; decide +kernel) (by rw [hsw_21e]; decide +kernel) (by decide) ?_
      exfalso; omega
    · skip
      have hsw_21v : z_k.toInt = 3 := hsw_21
      have hsw_21e : z_k = 3 := Int32.toInt_inj.mp (by rw [hsw_21]; decide +kernel)
      refine lv_tableIn (pc := 20) (off := 65) (tgt := 85) E.1 E.2.1 dX11_text_20 (by rw [hsw_21e]; decide +kernel) (by rw [hsw_21e]; decide +kernel) (by rw [hsw_21e]; decide +kernel) (by decide) ?_
      refine lv_aload_n (pc := 85) E.1 E.2.1 dX11_text_85 rfl (lv_at hl4 1 rfl) ?_
      refine x_get (pc := 86) (T := TX11) (N := 13) (ci := 11) (v := .ref (mr 40)) E hw15 inX11 0 5 q_611 rfl rfl (by decide) rfl rfl dX11_text_86 ?_
      refine lv_aload_n (pc := 89) E.1 E.2.1 dX11_text_89 rfl (lv_at hl4 1 rfl) ?_
      refine x_get (pc := 90) (T := TX11) (N := 13) (ci := 11) (v := .ref (mr 30)) E hw15 inX11 0 2 q_608 rfl rfl (by decide) rfl rfl dX11_text_90 ?_
      refine lv_iload_n (pc := 93) E.1 E.2.1 dX11_text_93 rfl (lv_at hl4 0 rfl) ?_
      refine cq_v (pc := 94) (ws' := (fun (u : Int32 × Int32 × Int32 × Int32 × Int32 × Int32 × (Nat → Int32) × (Nat → Int32) × (Nat → Int32) × (Nat → Int32) × (Nat → Int32) × Int32) => (WZ_Ltext3N cI cJ ad mv mr (upd (upd (upd (upd (upd (upd (upd (upd mi 33 nwords_12) 34 u.1) 35 u.2.2.1) 36 u.2.2.2.1) 37 u.2.1) 38 u.2.2.2.2.1) 39 u.2.2.2.2.2.1) 46 u.2.2.2.2.2.2.2.2.2.2.2) (va_up (va_up (va_up (va_up (va_up mf 41 u.2.2.2.2.2.2.1) 42 u.2.2.2.2.2.2.2.1) 43 u.2.2.2.2.2.2.2.2.1) 44 u.2.2.2.2.2.2.2.2.2.1) 45 u.2.2.2.2.2.2.2.2.2.2.1) mg))) hw15 [17, 18, 19, 20, 21, 22, 15, 16] [0, 1, 2, 3, 4, 5, 6, 7, 8, 9, 10, 11, 12, 13, 14] [0, 1, 2, 3, 4, 5, 6, 7, 8, 9, 10, 11, 12, 13, 14, 21, 22, 15, 16, 17, 18, 19, 20] rfl rfl (by decide) (by decide) (fun _ => rfl) (by decide) (rn_V (As := [.ref (mr 30), .int (mi 22)]) (rest := []) E hw15 (t_needsRead l D cI cJ _ (shg 7 40 23 mr) (shg 7 40 23 (upd (upd (upd (upd (upd (upd (upd mi 33 nwords_12) 34 nat_8) 35 nkind_10) 36 nvalue_11) 37 nplace_9) 38 nfault_13) 39 nfaultPlace_14)) (shg 7 40 23 mf) (shg 7 40 23 mg) (mi 22) ad av tf h5 hp_16 hp_17 ⟨hp_18, hp_19⟩ (by show 0 ≤ nfault_13.toInt ∧ nfault_13.toInt ≤ 4; omega) h3) (gdV q_923 q_924 q_925 q_156 q_926) hdV_X3_read ⟨rfl, rfl⟩ ⟨(Nat.le_of_ble_eq_true rfl), (Nat.le_of_ble_eq_true rfl)⟩ ⟨(Nat.le_of_ble_eq_true rfl), (Nat.le_of_ble_eq_true rfl)⟩ xT8_b (xT8_at hX hw15.2.2.1 (va_free hw15.2.1 hw15.2.2.1 hw15.2.2.2 [17, 18, 19, 20, 21, 22, 15, 16] rfl)) 17 3 rfl rfl rfl [17, 18, 19, 20, 21, 22, 15, 16] rfl (by decide) rfl hl4.1 rfl (Nat.le_of_ble_eq_true rfl) dX11_text_94) (fun u_22 H1 locs hp hw24 => ?_)
      obtain ⟨ntat_25, ntplace_26, ntkind_27, ntvalue_28, ntfault_29, ntfaultPlace_30, gkind_31, gat_32, gfrom_33, gto_34, gworth_35, ncount_36⟩ := u_22
      generalize H1 = H at hw24 ⊢
      have hw37 : WD D A s.heap (WZ_Ltext3N cI cJ ad mv mr (upd (upd (upd (upd (upd (upd (upd (upd mi 33 nwords_12) 34 ntat_25) 35 ntkind_27) 36 ntvalue_28) 37 ntplace_26) 38 ntfault_29) 39 ntfaultPlace_30) 46 ncount_36) (va_up (va_up (va_up (va_up (va_up mf 41 gkind_31) 42 gat_32) 43 gfrom_33) 44 gto_34) 45 gworth_35) mg) H locs := hw24
      obtain ⟨hp_38, hp_39, hp_40, hp_41, hp_42, hp_43⟩ := hp
      have hp_38 : 0 ≤ ntat_25.toInt := hp_38
      have hp_39 : ntat_25.toInt ≤ (mi 32).toInt := hp_39
      have hp_40 : 0 ≤ ntfault_29.toInt := hp_40
      have hp_41 : ntfault_29.toInt ≤ 4 := hp_41
      have hp_42 : 0 ≤ ncount_36.toInt := hp_42
      have hp_43 : ncount_36.toInt ≤ 10 := hp_43
      refine lv_goto (pc := 97) (tgt := 115) E.1 E.2.1 dX11_text_97 (by decide) ?_
      refine lv_aload_n (pc := 115) E.1 E.2.1 dX11_text_115 rfl (lv_at hl4 1 rfl) ?_
      refine x_get (pc := 116) (T := TX11) (N := 13) (ci := 11) (v := .ref (mr 30)) E hw37 inX11 0 2 q_608 rfl rfl (by decide) rfl rfl dX11_text_116 ?_
      refine lv_iconst (pc := 119) (v := 0) E.1 E.2.1 dX11_text_119 (by decide +kernel) ?_
      refine x_put (pc := 120) (T := TX8) (N := 9) (ci := 8) (ws' := (WZ_Ltext3N cI cJ ad mv mr (upd (upd (upd (upd (upd (upd (upd (upd (upd mi 32 0) 33 nwords_12) 34 ntat_25) 35 ntkind_27) 36 ntvalue_28) 37 ntplace_26) 38 ntfault_29) 39 ntfaultPlace_30) 46 ncount_36) (va_up (va_up (va_up (va_up (va_up mf 41 gkind_31) 42 gat_32) 43 gfrom_33) 44 gto_34) 45 gworth_35) mg)) E hw37 inX8 tyX8_ok nmX8 15 1 q_539 rfl rfl (by decide) rfl rfl rfl rfl (Nat.le_of_ble_eq_true rfl) rfl dX11_text_120 (fun H locs hw44 => ?_)
      refine lv_aload_n (pc := 123) E.1 E.2.1 dX11_text_123 rfl (lv_at hl4 1 rfl) ?_
      refine x_get (pc := 124) (T := TX11) (N := 13) (ci := 11) (v := .ref (mr 30)) E hw44 inX11 0 2 q_608 rfl rfl (by decide) rfl rfl dX11_text_124 ?_
      refine x_get (pc := 127) (T := TX8) (N := 9) (ci := 8) (v := .int ntfault_29) E hw44 inX8 15 7 q_555 rfl rfl (by decide) rfl rfl dX11_text_127 ?_
      refine lv_if_ne (pc := 130) (tgt := 141) E.1 E.2.1 dX11_text_130 (by decide) (fun c_45 => ?_) (fun c_45 => ?_)
      · skip
        have hc_45 := neE (a := ntfault_29.toInt) (b := 0) rfl (by decide +kernel) c_45
        refine lv_iconst (pc := 141) (v := (-1)) E.1 E.2.1 dX11_text_141 (by decide +kernel) ?_
        exact em_i (w1 := (fun (u : (Nat → Int32) × (Nat → Nat → Int32) × (Nat → Nat → Int64)) => (WZ_Ltext3N cI cJ ad mv mr u.1 u.2.1 u.2.2))) E hr hlk ((upd (upd (upd (upd (upd (upd (upd (upd (upd mi 32 0) 33 nwords_12) 34 ntat_25) 35 ntkind_27) 36 ntvalue_28) 37 ntplace_26) 38 ntfault_29) 39 ntfaultPlace_30) 46 ncount_36), (va_up (va_up (va_up (va_up (va_up mf 41 gkind_31) 42 gat_32) 43 gfrom_33) 44 gto_34) 45 gworth_35), mg) hw44 ⟨h0.1, h0.2, h1.1, h1.2, h2.1, h2.2, h3.1, h3.2, h4.1, h4.2, (by show 0 ≤ (0 : Int32).toInt; have k_0 : (0 : Int32).toInt = 0 := (by decide +kernel); have k_1 : ((-1) : Int32).toInt = -1 := (by decide +kernel); omega), (by show (0 : Int32).toInt ≤ 400; have k_0 : (0 : Int32).toInt = 0 := (by decide +kernel); have k_1 : ((-1) : Int32).toInt = -1 := (by decide +kernel); omega), hp_18, hp_19, hp_40, hp_41, (by show (0 : Int32).toInt = 0; have k_0 : (0 : Int32).toInt = 0 := (by decide +kernel); have k_1 : ((-1) : Int32).toInt = -1 := (by decide +kernel); omega), rfl⟩ (Nat.le_of_ble_eq_true rfl) (Nat.le_of_ble_eq_true rfl) dX11_text_142
      · skip
        have hc_45 := eqE (a := ntfault_29.toInt) (b := 0) rfl (by decide +kernel) c_45
        refine lv_aload_n (pc := 133) E.1 E.2.1 dX11_text_133 rfl (lv_at hl4 1 rfl) ?_
        refine lv_iload_n (pc := 134) E.1 E.2.1 dX11_text_134 rfl (lv_at hl4 2 rfl) ?_
        refine ck_i (pc := 135) (ws' := (fun (u : (Nat → Int32) × (Nat → Nat → Int32) × (Nat → Nat → Int64)) => (WZ_Ltext3N cI cJ ad mv mr (mgs [(0, 0, 47)] u.1 (upd (upd (upd (upd (upd (upd (upd (upd (upd mi 32 0) 33 nwords_12) 34 ntat_25) 35 ntkind_27) 36 ntvalue_28) 37 ntplace_26) 38 ntfault_29) 39 ntfaultPlace_30) 46 ncount_36)) (mgs [(0, 0, 47)] u.2.1 (va_up (va_up (va_up (va_up (va_up mf 41 gkind_31) 42 gat_32) 43 gfrom_33) 44 gto_34) 45 gworth_35)) (mgs [(0, 0, 47)] u.2.2 mg)))) [true, true, true, true, true, true, true, true, true, true, true, true, true, true, true, true, true, true, true, true, true, true, true] hw44 rfl (fun hC_ => (rn_V (As := [.int z_k]) (rest := []) E hw44 (t_take3N l D cI cJ _ mr (upd (upd (upd (upd (upd (upd (upd (upd (upd mi 32 0) 33 nwords_12) 34 ntat_25) 35 ntkind_27) 36 ntvalue_28) 37 ntplace_26) 38 ntfault_29) 39 ntfaultPlace_30) 46 ncount_36) (va_up (va_up (va_up (va_up (va_up mf 41 gkind_31) 42 gat_32) 43 gfrom_33) 44 gto_34) 45 gworth_35) mg z_k ad (vl [mv 0, mv 1, mv 2, mv 3, mv 4, mv 5, mv 6, mv 7, mv 8, mv 9, mv 10, mv 11, mv 12, mv 13, mv 14, mv 15, mv 16, mv 17, mv 18, mv 19, mv 20, mv 21, mv 22, mv 23, mv 24]) h0 h1 h2 h3 h4 (by show 0 ≤ (0 : Int32).toInt ∧ (0 : Int32).toInt ≤ 400; have k_0 : (0 : Int32).toInt = 0 := (by decide +kernel); omega) ⟨hp_18, hp_19⟩ ⟨hp_40, hp_41⟩ h8 ⟨hp_42, hp_43⟩) (gdV q_957 q_959 q_18 q_151 q_960) hdV_X11_takeDraft ⟨rfl, rfl⟩ ⟨(Nat.le_of_ble_eq_true rfl), (Nat.le_of_ble_eq_true rfl)⟩ ⟨(Nat.le_of_ble_eq_true rfl), (Nat.le_of_ble_eq_true rfl)⟩ xT_b xT_at 0 11 rfl rfl rfl _ hC_ (nd_T _ 0) rfl hl4.1 rfl (Nat.le_of_ble_eq_true rfl) dX11_text_135)) rfl (fun _ => rfl) (fun _ => rfl) (fun r_47 u_46 H1 locs hp hw48 => ?_)
        obtain ⟨Mi_49, Mf_50, Mg_51⟩ := u_46
        generalize H1 = H at hw48 ⊢
        have hw52 : WD D A s.heap (WZ_Ltext3N cI cJ ad mv mr (mgs [(0, 0, 47)] Mi_49 (upd (upd (upd (upd (upd (upd (upd (upd (upd mi 32 0) 33 nwords_12) 34 ntat_25) 35 ntkind_27) 36 ntvalue_28) 37 ntplace_26) 38 ntfault_29) 39 ntfaultPlace_30) 46 ncount_36)) (mgs [(0, 0, 47)] Mf_50 (va_up (va_up (va_up (va_up (va_up mf 41 gkind_31) 42 gat_32) 43 gfrom_33) 44 gto_34) 45 gworth_35)) (mgs [(0, 0, 47)] Mg_51 mg)) H locs := hw48
        obtain ⟨hp_53, hp_54, hp_55, hp_56, hp_57, hp_58, hp_59, hp_60, hp_61, hp_62, hp_63, hp_64, hp_65, hp_66, hp_67, hp_68, hp_69, hp_70⟩ := hp
        have hp_53 : 0 ≤ (Mi_49 1).toInt := hp_53
        have hp_54 : (Mi_49 1).toInt ≤ 5 := hp_54
        have hp_55 : 0 ≤ (Mi_49 2).toInt := hp_55
        have hp_56 : (Mi_49 2).toInt ≤ 6 := hp_56
        have hp_57 : 0 ≤ (Mi_49 19).toInt := hp_57
        have hp_58 : (Mi_49 19).toInt ≤ 200 := hp_58
        have hp_59 : 0 ≤ (Mi_49 22).toInt := hp_59
        have hp_60 : (Mi_49 22).toInt ≤ 10 := hp_60
        have hp_61 : 0 ≤ (Mi_49 29).toInt := hp_61
        have hp_62 : (Mi_49 29).toInt ≤ 10 := hp_62
        have hp_63 : 0 ≤ (Mi_49 32).toInt := hp_63
        have hp_64 : (Mi_49 32).toInt ≤ 400 := hp_64
        have hp_65 : 0 ≤ (Mi_49 33).toInt := hp_65
        have hp_66 : (Mi_49 33).toInt ≤ 6 := hp_66
        have hp_67 : 0 ≤ (Mi_49 38).toInt := hp_67
        have hp_68 : (Mi_49 38).toInt ≤ 4 := hp_68
        have hp_69 : (Mi_49 32).toInt = (0 : Int32).toInt := hp_69
        rw [show (0 : Int32).toInt = 0 from by decide +kernel] at hp_69
        have hp_70 : (Mi_49 22).toInt = (mi 22).toInt := hp_70
        refine lv_goto (pc := 138) (tgt := 142) E.1 E.2.1 dX11_text_138 (by decide) ?_
        exact em_i (w1 := (fun (u : (Nat → Int32) × (Nat → Nat → Int32) × (Nat → Nat → Int64)) => (WZ_Ltext3N cI cJ ad mv mr u.1 u.2.1 u.2.2))) E hr hlk ((mgs [(0, 0, 47)] Mi_49 (upd (upd (upd (upd (upd (upd (upd (upd (upd mi 32 0) 33 nwords_12) 34 ntat_25) 35 ntkind_27) 36 ntvalue_28) 37 ntplace_26) 38 ntfault_29) 39 ntfaultPlace_30) 46 ncount_36)), (mgs [(0, 0, 47)] Mf_50 (va_up (va_up (va_up (va_up (va_up mf 41 gkind_31) 42 gat_32) 43 gfrom_33) 44 gto_34) 45 gworth_35)), (mgs [(0, 0, 47)] Mg_51 mg)) hw52 ⟨hp_53, hp_54, hp_55, hp_56, hp_57, hp_58, hp_59, hp_60, hp_61, hp_62, hp_63, hp_64, hp_65, hp_66, hp_67, hp_68, (by show (Mi_49 32).toInt = 0; omega), hp_70⟩ (Nat.le_of_ble_eq_true rfl) (Nat.le_of_ble_eq_true rfl) dX11_text_142
    · skip
      have hsw_21v : z_k.toInt = 4 := hsw_21
      have hsw_21e : z_k = 4 := Int32.toInt_inj.mp (by rw [hsw_21]; decide +kernel)
      refine lv_tableIn (pc := 20) (off := 80) (tgt := 100) E.1 E.2.1 dX11_text_20 (by rw [hsw_21e]; decide +kernel) (by rw [hsw_21e]; decide +kernel) (by rw [hsw_21e]; decide +kernel) (by decide) ?_
      exfalso; omega
set_option maxHeartbeats 4000000 in
set_option maxRecDepth 100000 in
theorem t_take4N (l : Launch) (D : va_G) (cI cJ : ClassId) (sz : Nat) (mr : Nat → Nat) (mi : Nat → Int32) (mf : Nat → Nat → Int32) (mg : Nat → Nat → Int64) (z_k : Int32) (ad : Nat → Nat) (mv : Nat → Value) (h0 : 0 ≤ (mi 1).toInt ∧ (mi 1).toInt ≤ 5) (h1 : 0 ≤ (mi 2).toInt ∧ (mi 2).toInt ≤ 6) (h2 : 0 ≤ (mi 14).toInt ∧ (mi 14).toInt ≤ 200) (h3 : 0 ≤ (mi 17).toInt ∧ (mi 17).toInt ≤ 10) (h4 : 0 ≤ (mi 20).toInt ∧ (mi 20).toInt ≤ 200) (h5 : 0 ≤ (mi 26).toInt ∧ (mi 26).toInt ≤ 400) (h6 : 0 ≤ (mi 27).toInt ∧ (mi 27).toInt ≤ 6) (h7 : 0 ≤ (mi 32).toInt ∧ (mi 32).toInt ≤ 4) (h8 : z_k.toInt = 4) (h9 : 0 ≤ (mi 36).toInt ∧ (mi 36).toInt ≤ 200) : Met l yX11_takeDraft (Cond.code yX11_takeDraft cX11_takeDraft 2 (some .int) :: GW) ({ frames := 3, cells := 0, slots := 0, locals := 82 } : Room) (va_Pc [.ref (mr 0), .int z_k] (PW D cI cJ sz (WZ_Ltext4N cI cJ ad mv mr mi mf mg) xT)) (va_Qi (fun (r : Int32) (u : (Nat → Int32) × (Nat → Nat → Int32) × (Nat → Nat → Int64)) => (0 ≤ (u.1 1).toInt) ∧ ((u.1 1).toInt ≤ 5) ∧ (0 ≤ (u.1 2).toInt) ∧ ((u.1 2).toInt ≤ 6) ∧ (0 ≤ (u.1 14).toInt) ∧ ((u.1 14).toInt ≤ 200) ∧ (0 ≤ (u.1 17).toInt) ∧ ((u.1 17).toInt ≤ 10) ∧ (0 ≤ (u.1 20).toInt) ∧ ((u.1 20).toInt ≤ 200) ∧ (0 ≤ (u.1 26).toInt) ∧ ((u.1 26).toInt ≤ 400) ∧ (0 ≤ (u.1 27).toInt) ∧ ((u.1 27).toInt ≤ 6) ∧ (0 ≤ (u.1 32).toInt) ∧ ((u.1 32).toInt ≤ 4) ∧ ((u.1 26).toInt = (mi 26).toInt) ∧ ((u.1 17).toInt = (mi 17).toInt)) (fun u => QW D cI cJ (va_A (WZ_Ltext4N cI cJ ad mv mr mi mf mg) sz) ((fun (u : (Nat → Int32) × (Nat → Nat → Int32) × (Nat → Nat → Int64)) => (WZ_Ltext4N cI cJ ad mv mr u.1 u.2.1 u.2.2)) u)) (va_A (WZ_Ltext4N cI cJ ad mv mr mi mf mg) sz)) 0 0 (va_A (WZ_Ltext4N cI cJ ad mv mr mi mf mg) sz) := by
  refine mk_met (y := yX11_takeDraft) (bytes := cX11_takeDraft) (maxL := 2) (avs := [.ref (mr 0), .int z_k]) (WS := (WZ_Ltext4N cI cJ ad mv mr mi mf mg)) (Qf := fun A => va_Qi (fun (r : Int32) (u : (Nat → Int32) × (Nat → Nat → Int32) × (Nat → Nat → Int64)) => (0 ≤ (u.1 1).toInt) ∧ ((u.1 1).toInt ≤ 5) ∧ (0 ≤ (u.1 2).toInt) ∧ ((u.1 2).toInt ≤ 6) ∧ (0 ≤ (u.1 14).toInt) ∧ ((u.1 14).toInt ≤ 200) ∧ (0 ≤ (u.1 17).toInt) ∧ ((u.1 17).toInt ≤ 10) ∧ (0 ≤ (u.1 20).toInt) ∧ ((u.1 20).toInt ≤ 200) ∧ (0 ≤ (u.1 26).toInt) ∧ ((u.1 26).toInt ≤ 400) ∧ (0 ≤ (u.1 27).toInt) ∧ ((u.1 27).toInt ≤ 6) ∧ (0 ≤ (u.1 32).toInt) ∧ ((u.1 32).toInt ≤ 4) ∧ ((u.1 26).toInt = (mi 26).toInt) ∧ ((u.1 17).toInt = (mi 17).toInt)) (fun u => QW D cI cJ A ((fun (u : (Nat → Int32) × (Nat → Nat → Int32) × (Nat → Nat → Int64)) => (WZ_Ltext4N cI cJ ad mv mr u.1 u.2.1 u.2.2)) u)) A) (by decide) (Nat.le_of_ble_eq_true rfl) ?_
  intro p e s m below meth c A ls E hr hlk hnm hX hw1 hl2
  have hl3 : lv_has ls 2 [(0, .ref (mr 0)), (1, .int z_k)] := hl2
  refine lv_iload_n (pc := 0) E.1 E.2.1 dX11_takeDraft_0 rfl (lv_at hl3 1 rfl) ?_
  rcases swt (x := z_k) 0 4 with hsw_4 | ⟨hsw_4k, hsw_41, hsw_42, hsw_4⟩
  · skip
    exfalso; omega
  · skip
    rcases (show hsw_4k = 0 ∨ hsw_4k = 1 ∨ hsw_4k = 2 ∨ hsw_4k = 3 ∨ hsw_4k = 4 from by omega) with rfl | rfl | rfl | rfl | rfl
    · skip
      have hsw_4v : z_k.toInt = 0 := hsw_4
      have hsw_4e : z_k = 0 := Int32.toInt_inj.mp (by rw [hsw_4]; decide +kernel)
      refine lv_tableIn (pc := 1) (off := 35) (tgt := 36) E.1 E.2.1 dX11_takeDraft_1 (by rw [hsw_4e]; decide +kernel) (by rw [hsw_4e]; decide +kernel) (by rw [hsw_4e]; decide +kernel) (by decide) ?_
      exfalso; omega
    · skip
      have hsw_4v : z_k.toInt = 1 := hsw_4
      have hsw_4e : z_k = 1 := Int32.toInt_inj.mp (by rw [hsw_4]; decide +kernel)
      refine lv_tableIn (pc := 1) (off := 57) (tgt := 58) E.1 E.2.1 dX11_takeDraft_1 (by rw [hsw_4e]; decide +kernel) (by rw [hsw_4e]; decide +kernel) (by rw [hsw_4e]; decide +kernel) (by decide) ?_
      exfalso; omega
    · skip
      have hsw_4v : z_k.toInt = 2 := hsw_4
      have hsw_4e : z_k = 2 := Int32.toInt_inj.mp (by rw [hsw_4]; decide +kernel)
      refine lv_tableIn (pc := 1) (off := 79) (tgt := 80) E.1 E.2.1 dX11_takeDraft_1 (by rw [hsw_4e]; decide +kernel) (by rw [hsw_4e]; decide +kernel) (by rw [hsw_4e]; decide +kernel) (by decide) ?_
      exfalso; omega
    · skip
      have hsw_4v : z_k.toInt = 3 := hsw_4
      have hsw_4e : z_k = 3 := Int32.toInt_inj.mp (by rw [hsw_4]; decide +kernel)
      refine lv_tableIn (pc := 1) (off := 105) (tgt := 106) E.1 E.2.1 dX11_takeDraft_1 (by rw [hsw_4e]; decide +kernel) (by rw [hsw_4e]; decide +kernel) (by rw [hsw_4e]; decide +kernel) (by decide) ?_
      exfalso; omega
    · skip
      have hsw_4v : z_k.toInt = 4 := hsw_4
      have hsw_4e : z_k = 4 := Int32.toInt_inj.mp (by rw [hsw_4]; decide +kernel)
      refine lv_tableIn (pc := 1) (off := 141) (tgt := 142) E.1 E.2.1 dX11_takeDraft_1 (by rw [hsw_4e]; decide +kernel) (by rw [hsw_4e]; decide +kernel) (by rw [hsw_4e]; decide +kernel) (by decide) ?_
      refine lv_aload_n (pc := 142) E.1 E.2.1 dX11_takeDraft_142 rfl (lv_at hl3 0 rfl) ?_
      refine x_get (pc := 143) (T := TX11) (N := 13) (ci := 11) (v := .ref (mr 3)) E hw1 inX11 0 0 q_606 rfl rfl (by decide) rfl rfl dX11_takeDraft_143 ?_
      refine x_get (pc := 146) (T := TX10) (N := 17) (ci := 10) (v := .ref (mr 18)) E hw1 inX10 1 6 q_475 rfl rfl (by decide) rfl rfl dX11_takeDraft_146 ?_
      refine lv_aload_n (pc := 149) E.1 E.2.1 dX11_takeDraft_149 rfl (lv_at hl3 0 rfl) ?_
      refine x_get (pc := 150) (T := TX11) (N := 13) (ci := 11) (v := .ref (mr 34)) E hw1 inX11 0 6 q_612 rfl rfl (by decide) rfl rfl dX11_takeDraft_150 ?_
      refine ck_v (pc := 153) (ws' := (fun (u : (Nat → Int32) × Int32) => (WZ_Ltext4N cI cJ ad mv mr (upd mi 20 u.2) (va_up mf 19 u.1) mg))) [false, false, false, false, true, true, true, true, false, false, true, true, true, true] hw1 rfl (fun hC_ => (rn_V (As := [.ref (mr 34)]) (rest := []) E hw1 (t_roundTake l D cI cJ _ (shg 6 18 28 mr) (shg 6 18 28 mi) (shg 6 18 28 mf) (shg 6 18 28 mg) ) (gdV q_982 q_983 q_984 q_158 q_985) hdV_X7_take ⟨rfl, rfl⟩ ⟨(Nat.le_of_ble_eq_true rfl), (Nat.le_of_ble_eq_true rfl)⟩ ⟨(Nat.le_of_ble_eq_true rfl), (Nat.le_of_ble_eq_true rfl)⟩ xT_b xT_at 4 7 rfl rfl rfl _ hC_ (nd_T _ 0) rfl hl3.1 rfl (Nat.le_of_ble_eq_true rfl) dX11_takeDraft_153)) rfl (fun _ => rfl) (fun _ => rfl) (fun u_5 H1 locs hp hw7 => ?_)
      obtain ⟨gstops_8, nsize_9⟩ := u_5
      generalize H1 = H at hw7 ⊢
      have hw10 : WD D A s.heap (WZ_Ltext4N cI cJ ad mv mr (upd mi 20 nsize_9) (va_up mf 19 gstops_8) mg) H locs := hw7
      have hp_11 := hp
      have hp_11 : nsize_9.toInt = (mi 36).toInt := hp_11
      refine lv_aload_n (pc := 156) E.1 E.2.1 dX11_takeDraft_156 rfl (lv_at hl3 0 rfl) ?_
      refine x_get (pc := 157) (T := TX11) (N := 13) (ci := 11) (v := .ref (mr 3)) E hw10 inX11 0 0 q_606 rfl rfl (by decide) rfl rfl dX11_takeDraft_157 ?_
      refine x_get (pc := 160) (T := TX10) (N := 17) (ci := 10) (v := .ref (mr 8)) E hw10 inX10 1 0 q_458 rfl rfl (by decide) rfl rfl dX11_takeDraft_160 ?_
      refine lv_iconst (pc := 163) (v := 0) E.1 E.2.1 dX11_takeDraft_163 (by decide +kernel) ?_
      refine x_put (pc := 164) (T := TX4) (N := 12) (ci := 4) (ws' := (WZ_Ltext4N cI cJ ad mv mr (upd (upd mi 14 0) 20 nsize_9) (va_up mf 19 gstops_8) mg)) E hw10 inX4 tyX4_ok nmX4 2 10 q_229 rfl rfl (by decide) rfl rfl rfl rfl (Nat.le_of_ble_eq_true rfl) rfl dX11_takeDraft_164 (fun H locs hw12 => ?_)
      refine lv_aload_n (pc := 167) E.1 E.2.1 dX11_takeDraft_167 rfl (lv_at hl3 0 rfl) ?_
      refine ck_v (pc := 168) (ws' := (fun (u : Int32 × Int32) => (WZ_Ltext4N cI cJ ad mv mr (upd (upd (upd (upd mi 1 u.1) 2 u.2) 14 0) 20 nsize_9) (va_up mf 19 gstops_8) mg))) [true, false, false, false, false, false, false, false, false, false, false, false, false, false] hw12 rfl (fun hC_ => (rn_V (As := []) (rest := []) E hw12 (t_forgetNightsN l D cI cJ _ mr (upd (upd mi 14 0) 20 nsize_9) (va_up mf 19 gstops_8) mg (vl [.ref (mr 3), mv 0, .ref (mr 24), mv 1, mv 2, mv 3, .ref (mr 34), mv 4, mv 5, mv 6])) (gdV q_650 q_652 q_0 q_151 q_653) hdV_X11_forgetNights ⟨rfl, rfl⟩ ⟨(Nat.le_of_ble_eq_true rfl), (Nat.le_of_ble_eq_true rfl)⟩ ⟨(Nat.le_of_ble_eq_true rfl), (Nat.le_of_ble_eq_true rfl)⟩ xT_b xT_at 0 11 rfl rfl rfl _ hC_ (nd_T _ 0) rfl hl3.1 rfl (Nat.le_of_ble_eq_true rfl) dX11_takeDraft_168)) rfl (fun _ => rfl) (fun _ => rfl) (fun u_13 H1 locs hp hw15 => ?_)
      obtain ⟨noldest_16, nundoable_17⟩ := u_13
      generalize H1 = H at hw15 ⊢
      have hw18 : WD D A s.heap (WZ_Ltext4N cI cJ ad mv mr (upd (upd (upd (upd mi 1 noldest_16) 2 nundoable_17) 14 0) 20 nsize_9) (va_up mf 19 gstops_8) mg) H locs := hw15
      obtain ⟨hp_19, hp_20⟩ := hp
      have hp_19 : noldest_16.toInt = 0 := hp_19
      have hp_20 : nundoable_17.toInt = 0 := hp_20
      refine lv_aload_n (pc := 171) E.1 E.2.1 dX11_takeDraft_171 rfl (lv_at hl3 0 rfl) ?_
      refine x_get (pc := 172) (T := TX11) (N := 13) (ci := 11) (v := .ref (mr 34)) E hw18 inX11 0 6 q_612 rfl rfl (by decide) rfl rfl dX11_takeDraft_172 ?_
      refine x_get (pc := 175) (T := TX7) (N := 5) (ci := 7) (v := .int (mi 36)) E hw18 inX7 10 1 q_422 rfl rfl (by decide) rfl rfl dX11_takeDraft_175 ?_
      exact em_i (w1 := (fun (u : (Nat → Int32) × (Nat → Nat → Int32) × (Nat → Nat → Int64)) => (WZ_Ltext4N cI cJ ad mv mr u.1 u.2.1 u.2.2))) E hr hlk ((upd (upd (upd (upd mi 1 noldest_16) 2 nundoable_17) 14 0) 20 nsize_9), (va_up mf 19 gstops_8), mg) hw18 ⟨(by show 0 ≤ noldest_16.toInt; have k_0 : (0 : Int32).toInt = 0 := (by decide +kernel); omega), (by show noldest_16.toInt ≤ 5; have k_0 : (0 : Int32).toInt = 0 := (by decide +kernel); omega), (by show 0 ≤ nundoable_17.toInt; have k_0 : (0 : Int32).toInt = 0 := (by decide +kernel); omega), (by show nundoable_17.toInt ≤ 6; have k_0 : (0 : Int32).toInt = 0 := (by decide +kernel); omega), (by show 0 ≤ (0 : Int32).toInt; have k_0 : (0 : Int32).toInt = 0 := (by decide +kernel); omega), (by show (0 : Int32).toInt ≤ 200; have k_0 : (0 : Int32).toInt = 0 := (by decide +kernel); omega), h3.1, h3.2, (by show 0 ≤ nsize_9.toInt; have k_0 : (0 : Int32).toInt = 0 := (by decide +kernel); omega), (by show nsize_9.toInt ≤ 200; have k_0 : (0 : Int32).toInt = 0 := (by decide +kernel); omega), h5.1, h5.2, h6.1, h6.2, h7.1, h7.2, rfl, rfl⟩ (Nat.le_of_ble_eq_true rfl) (Nat.le_of_ble_eq_true rfl) dX11_takeDraft_178
