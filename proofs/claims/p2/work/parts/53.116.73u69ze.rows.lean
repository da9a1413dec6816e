set_option maxHeartbeats 4000000 in
set_option maxRecDepth 100000 in
theorem t_textXa (l : Launch) (D : va_G) (cI cJ : ClassId) (sz : Nat) (mr : Nat → Nat) (mi : Nat → Int32) (mf : Nat → Nat → Int32) (mg : Nat → Nat → Int64) (z_k : Int32) (ad av : Nat → Nat) (tf : Value) (mv : Nat → Value) (h0 : 0 ≤ (mi 1).toInt ∧ (mi 1).toInt ≤ 5) (h1 : 0 ≤ (mi 2).toInt ∧ (mi 2).toInt ≤ 6) (h2 : 0 ≤ (mi 4).toInt ∧ (mi 4).toInt ≤ 1000) (h3 : 0 ≤ (mi 6).toInt ∧ (mi 6).toInt ≤ 99) (h4 : 0 ≤ (mi 9).toInt ∧ (mi 9).toInt ≤ 10) (h5 : 0 ≤ (mi 12).toInt ∧ (mi 12).toInt ≤ 400) (h6 : 0 ≤ (mi 13).toInt ∧ (mi 13).toInt ≤ 6) (h7 : 0 ≤ (mi 18).toInt ∧ (mi 18).toInt ≤ 4) (h8 : z_k.toInt ≤ (-1)) (a_tp_signs : b255 (mf 11)) : Met l yX11_text (Cond.code yX11_text cX11_text 3 (some .int) :: GW) ({ frames := 11, cells := 0, slots := 0, locals := 263 } : Room) (va_Pc [.ref (mr 0), .int z_k] (PW D cI cJ sz (WZ_MtextX cI cJ ad mv mr mi mf mg) (xT8 ad av tf (va_A (WZ_MtextX cI cJ ad mv mr mi mf mg) sz)))) (va_Qi (fun (r : Int32) (u : (Nat → Int32) × (Nat → Nat → Int32) × (Nat → Nat → Int64)) => (0 ≤ (u.1 1).toInt) ∧ ((u.1 1).toInt ≤ 5) ∧ (0 ≤ (u.1 2).toInt) ∧ ((u.1 2).toInt ≤ 6) ∧ (0 ≤ (u.1 4).toInt) ∧ ((u.1 4).toInt ≤ 1000) ∧ (0 ≤ (u.1 6).toInt) ∧ ((u.1 6).toInt ≤ 99) ∧ (0 ≤ (u.1 9).toInt) ∧ ((u.1 9).toInt ≤ 10) ∧ (0 ≤ (u.1 12).toInt) ∧ ((u.1 12).toInt ≤ 400) ∧ (0 ≤ (u.1 13).toInt) ∧ ((u.1 13).toInt ≤ 6) ∧ (0 ≤ (u.1 18).toInt) ∧ ((u.1 18).toInt ≤ 4) ∧ ((u.1 12).toInt = 0) ∧ ((u.1 9).toInt = (mi 9).toInt) ∧ ((u.1 2).toInt = (mi 2).toInt) ∧ ((u.1 1).toInt = (mi 1).toInt) ∧ ((u.1 4).toInt = (mi 4).toInt) ∧ ((Eq (mf 11)) (u.2.1 11))) (fun u => QW D cI cJ (va_A (WZ_MtextX cI cJ ad mv mr mi mf mg) sz) ((fun (u : (Nat → Int32) × (Nat → Nat → Int32) × (Nat → Nat → Int64)) => (WZ_MtextX cI cJ ad mv mr u.1 u.2.1 u.2.2)) u)) (va_A (WZ_MtextX cI cJ ad mv mr mi mf mg) sz)) 0 0 (va_A (WZ_MtextX cI cJ ad mv mr mi mf mg) sz) := by
  refine mk_metA (X := fun A => xT8 ad av tf A) (y := yX11_text) (bytes := cX11_text) (maxL := 3) (avs := [.ref (mr 0), .int z_k]) (WS := (WZ_MtextX cI cJ ad mv mr mi mf mg)) (Qf := fun A => va_Qi (fun (r : Int32) (u : (Nat → Int32) × (Nat → Nat → Int32) × (Nat → Nat → Int64)) => (0 ≤ (u.1 1).toInt) ∧ ((u.1 1).toInt ≤ 5) ∧ (0 ≤ (u.1 2).toInt) ∧ ((u.1 2).toInt ≤ 6) ∧ (0 ≤ (u.1 4).toInt) ∧ ((u.1 4).toInt ≤ 1000) ∧ (0 ≤ (u.1 6).toInt) ∧ ((u.1 6).toInt ≤ 99) ∧ (0 ≤ (u.1 9).toInt) ∧ ((u.1 9).toInt ≤ 10) ∧ (0 ≤ (u.1 12).toInt) ∧ ((u.1 12).toInt ≤ 400) ∧ (0 ≤ (u.1 13).toInt) ∧ ((u.1 13).toInt ≤ 6) ∧ (0 ≤ (u.1 18).toInt) ∧ ((u.1 18).toInt ≤ 4) ∧ ((u.1 12).toInt = 0) ∧ ((u.1 9).toInt = (mi 9).toInt) ∧ ((u.1 2).toInt = (mi 2).toInt) ∧ ((u.1 1).toInt = (mi 1).toInt) ∧ ((u.1 4).toInt = (mi 4).toInt) ∧ ((Eq (mf 11)) (u.2.1 11))) (fun u => QW D cI cJ A ((fun (u : (Nat → Int32) × (Nat → Nat → Int32) × (Nat → Nat → Int64)) => (WZ_MtextX cI cJ ad mv mr u.1 u.2.1 u.2.2)) u)) A) (by decide) (Nat.le_of_ble_eq_true rfl) ?_
  intro p e s m below meth c A ls E hr hlk hnm hX hw1 hl2
  have hl3 : lv_has ls 3 [(0, .ref (mr 0)), (1, .int z_k)] := hl2
  refine lv_aload_n (pc := 0) E.1 E.2.1 dX11_text_0 rfl (lv_at hl3 0 rfl) ?_
  refine x_get (pc := 1) (T := TX11) (N := 13) (ci := 11) (v := .ref (mr 3)) E hw1 inX11 0 0 q_606 rfl rfl (by decide) rfl rfl dX11_text_1 ?_
  refine x_get (pc := 4) (T := TX10) (N := 17) (ci := 10) (v := .ref (mr 8)) E hw1 inX10 1 1 q_463 rfl rfl (by decide) rfl rfl dX11_text_4 ?_
  refine x_get (pc := 7) (T := TX1) (N := 9) (ci := 1) (v := .int (mi 9)) E hw1 inX1 2 5 q_282 rfl rfl (by decide) rfl rfl dX11_text_7 ?_
  refine lv_istore_n (pc := 10) (lv' := [(2, .int (mi 9)), (0, .ref (mr 0)), (1, .int z_k)]) E.1 E.2.1 dX11_text_10 rfl hl3 (by decide) rfl (fun ls hl4 => ?_)
  refine lv_aload_n (pc := 11) E.1 E.2.1 dX11_text_11 rfl (lv_at hl4 1 rfl) ?_
  refine x_get (pc := 12) (T := TX11) (N := 13) (ci := 11) (v := .ref (mr 10)) E hw1 inX11 0 2 q_608 rfl rfl (by decide) rfl rfl dX11_text_12 ?_
  refine lv_iload_n (pc := 15) E.1 E.2.1 dX11_text_15 rfl (lv_at hl4 2 rfl) ?_
  refine cq_v (pc := 16) (ws' := (fun (u : Int32 × Int32 × Int32 × Int32 × Int32 × Int32 × Int32) => (WZ_MtextX cI cJ ad mv mr (upd (upd (upd (upd (upd (upd (upd mi 13 u.2.2.2.2.1) 14 u.1) 15 u.2.2.1) 16 u.2.2.2.1) 17 u.2.1) 18 u.2.2.2.2.2.1) 19 u.2.2.2.2.2.2) mf mg))) hw1 [3, 4] [0, 1, 2] [0, 1, 2, 3, 4] rfl rfl (by decide) (by decide) (fun _ => rfl) (by decide) (rn_V (As := [.int z_k]) (rest := []) E hw1 (t_open l D cI cJ _ (ixf [10, 11, 12, 13, 14, 15, 16, 17, 18, 19] mr) (ixf [10, 11, 12, 13, 14, 15, 16, 17, 18, 19] mi) (ixf [10, 11, 12, 13, 14, 15, 16, 17, 18, 19] mf) (ixf [10, 11, 12, 13, 14, 15, 16, 17, 18, 19] mg) z_k ad av tf (by show 0 ≤ (mi 12).toInt ∧ (mi 12).toInt ≤ 400; omega)) (gdV q_710 q_711 q_712 q_160 q_713) hdV_X8_open ⟨rfl, rfl⟩ ⟨(Nat.le_of_ble_eq_true rfl), (Nat.le_of_ble_eq_true rfl)⟩ ⟨(Nat.le_of_ble_eq_true rfl), (Nat.le_of_ble_eq_true rfl)⟩ xT8_b (xT8_at hX hw1.2.2.1 (va_free hw1.2.1 hw1.2.2.1 hw1.2.2.2 [3, 4] rfl)) 3 8 rfl rfl rfl [3, 4] rfl (by decide) rfl hl4.1 rfl (Nat.le_of_ble_eq_true rfl) dX11_text_16) (fun u_5 H1 locs hp hw7 => ?_)
  obtain ⟨nat_8, nplace_9, nkind_10, nvalue_11, nwords_12, nfault_13, nfaultPlace_14⟩ := u_5
  generalize H1 = H at hw7 ⊢
  have hw15 : WD D A s.heap (WZ_MtextX cI cJ ad mv mr (upd (upd (upd (upd (upd (upd (upd mi 13 nwords_12) 14 nat_8) 15 nkind_10) 16 nvalue_11) 17 nplace_9) 18 nfault_13) 19 nfaultPlace_14) mf mg) H locs := hw7
  obtain ⟨hp_16, hp_17, hp_18, hp_19, hp_20⟩ := hp
  have hp_16 : 0 ≤ nat_8.toInt := hp_16
  have hp_17 : nat_8.toInt ≤ (mi 12).toInt := hp_17
  have hp_18 : 0 ≤ nwords_12.toInt := hp_18
  have hp_19 : nwords_12.toInt ≤ 6 := hp_19
  have hp_20 : nfault_13.toInt = 0 := hp_20
  refine lv_iload_n (pc := 19) E.1 E.2.1 dX11_text_19 rfl (lv_at hl4 2 rfl) ?_
  rcases swt (x := z_k) 0 4 with hsw_21 | ⟨hsw_21k, hsw_211, hsw_212, hsw_21⟩
  · skip
    refine lv_tableOut (pc := 20) (tgt := 115) E.1 E.2.1 dX11_text_20 hsw_21 (by decide) ?_
    refine lv_aload_n (pc := 115) E.1 E.2.1 dX11_text_115 rfl (lv_at hl4 1 rfl) ?_
    refine x_get (pc := 116) (T := TX11) (N := 13) (ci := 11) (v := .ref (mr 10)) E hw15 inX11 0 2 q_608 rfl rfl (by decide) rfl rfl dX11_text_116 ?_
    refine lv_iconst (pc := 119) (v := 0) E.1 E.2.1 dX11_text_119 (by decide +kernel) ?_
    refine x_put (pc := 120) (T := TX8) (N := 9) (ci := 8) (ws' := (WZ_MtextX cI cJ ad mv mr (upd (upd (upd (upd (upd (upd (upd (upd mi 12 0) 13 nwords_12) 14 nat_8) 15 nkind_10) 16 nvalue_11) 17 nplace_9) 18 nfault_13) 19 nfaultPlace_14) mf mg)) E hw15 inX8 tyX8_ok nmX8 3 1 q_539 rfl rfl (by decide) rfl rfl rfl rfl (Nat.le_of_ble_eq_true rfl) rfl dX11_text_120 (fun H locs hw22 => ?_)
    refine lv_aload_n (pc := 123) E.1 E.2.1 dX11_text_123 rfl (lv_at hl4 1 rfl) ?_
    refine x_get (pc := 124) (T := TX11) (N := 13) (ci := 11) (v := .ref (mr 10)) E hw22 inX11 0 2 q_608 rfl rfl (by decide) rfl rfl dX11_text_124 ?_
    refine x_get (pc := 127) (T := TX8) (N := 9) (ci := 8) (v := .int nfault_13) E hw22 inX8 3 7 q_555 rfl rfl (by decide) rfl rfl dX11_text_127 ?_
    refine lv_if_ne (pc := 130) (tgt := 141) E.1 E.2.1 dX11_text_130 (by decide) (fun c_23 => absurd (meqE (a := nfault_13.toInt) (b := 0) rfl (by decide +kernel) (by omega)) c_23) (fun _ => ?_)
    refine lv_aload_n (pc := 133) E.1 E.2.1 dX11_text_133 rfl (lv_at hl4 1 rfl) ?_
    refine lv_iload_n (pc := 134) E.1 E.2.1 dX11_text_134 rfl (lv_at hl4 2 rfl) ?_
    refine cq_i (pc := 135) (ws' := (fun (u : (Nat → Int32) × (Nat → Nat → Int32) × (Nat → Nat → Int64)) => (WZ_MtextX cI cJ ad mv mr (mrg [(0, 0), (1, 1), (2, 2), (3, 3), (4, 4), (5, 5), (6, 6), (7, 7), (8, 8), (9, 9), (10, 10), (11, 11), (12, 12), (13, 13), (14, 14), (15, 15), (16, 16), (17, 17), (18, 18), (19, 19)] u.1 (upd (upd (upd (upd (upd (upd (upd (upd mi 12 0) 13 nwords_12) 14 nat_8) 15 nkind_10) 16 nvalue_11) 17 nplace_9) 18 nfault_13) 19 nfaultPlace_14)) (mrg [(0, 0), (1, 1), (2, 2), (3, 3), (4, 4), (5, 5), (6, 6), (7, 7), (8, 8), (9, 9), (10, 10), (11, 11), (12, 12), (13, 13), (14, 14), (15, 15), (16, 16), (17, 17), (18, 18), (19, 19)] u.2.1 mf) (mrg [(0, 0), (1, 1), (2, 2), (3, 3), (4, 4), (5, 5), (6, 6), (7, 7), (8, 8), (9, 9), (10, 10), (11, 11), (12, 12), (13, 13), (14, 14), (15, 15), (16, 16), (17, 17), (18, 18), (19, 19)] u.2.2 mg)))) hw22 [0, 1, 2, 3, 4] [] [0, 1, 2, 3, 4] rfl rfl (by decide) (by decide) (fun _ => rfl) (by decide) (rn_V (As := [.int z_k]) (rest := []) E hw22 (t_takeXa l D cI cJ _ (ixf [0, 1, 2, 3, 4, 5, 6, 7, 8, 9, 10, 11, 12, 13, 14, 15, 16, 17, 18, 19] mr) (ixf [0, 1, 2, 3, 4, 5, 6, 7, 8, 9, 10, 11, 12, 13, 14, 15, 16, 17, 18, 19] (upd (upd (upd (upd (upd (upd (upd (upd mi 12 0) 13 nwords_12) 14 nat_8) 15 nkind_10) 16 nvalue_11) 17 nplace_9) 18 nfault_13) 19 nfaultPlace_14)) (ixf [0, 1, 2, 3, 4, 5, 6, 7, 8, 9, 10, 11, 12, 13, 14, 15, 16, 17, 18, 19] mf) (ixf [0, 1, 2, 3, 4, 5, 6, 7, 8, 9, 10, 11, 12, 13, 14, 15, 16, 17, 18, 19] mg) z_k ad (vl [mv 0, mv 1, mv 2, mv 3, mv 4, mv 5, mv 6, mv 7, mv 8, mv 9, mv 10, mv 11, mv 12, mv 13, mv 14, mv 15, mv 16, mv 17, mv 18, mv 19, mv 20, mv 21, mv 22, mv 23, mv 24, mv 25, mv 26, mv 27, mv 28]) (by show 0 ≤ (mi 1).toInt ∧ (mi 1).toInt ≤ 5; omega) (by show 0 ≤ (mi 2).toInt ∧ (mi 2).toInt ≤ 6; omega) (by show 0 ≤ (mi 4).toInt ∧ (mi 4).toInt ≤ 1000; omega) (by show 0 ≤ (mi 6).toInt ∧ (mi 6).toInt ≤ 99; omega) (by show 0 ≤ (mi 9).toInt ∧ (mi 9).toInt ≤ 10; omega) (by show 0 ≤ (0 : Int32).toInt ∧ (0 : Int32).toInt ≤ 400; have k_0 : (0 : Int32).toInt = 0 := (by decide +kernel); omega) (by show 0 ≤ nwords_12.toInt ∧ nwords_12.toInt ≤ 6; omega) (by show 0 ≤ nfault_13.toInt ∧ nfault_13.toInt ≤ 4; omega) (by show z_k.toInt ≤ (-1); omega) (Eq.subst (motive := b255) rfl a_tp_signs)) (gdV q_957 q_959 q_18 q_151 q_960) hdV_X11_takeDraft ⟨rfl, rfl⟩ ⟨(Nat.le_of_ble_eq_true rfl), (Nat.le_of_ble_eq_true rfl)⟩ ⟨(Nat.le_of_ble_eq_true rfl), (Nat.le_of_ble_eq_true rfl)⟩ xT_b xT_at 0 11 rfl rfl rfl [0, 1, 2, 3, 4] rfl (by decide) rfl hl4.1 rfl (Nat.le_of_ble_eq_true rfl) dX11_text_135) (fun r_25 u_24 H1 locs hp hw26 => ?_)
    obtain ⟨Mi_27, Mf_28, Mg_29⟩ := u_24
    generalize H1 = H at hw26 ⊢
    have hw30 : WD D A s.heap (WZ_MtextX cI cJ ad mv mr (mrg [(0, 0), (1, 1), (2, 2), (3, 3), (4, 4), (5, 5), (6, 6), (7, 7), (8, 8), (9, 9), (10, 10), (11, 11), (12, 12), (13, 13), (14, 14), (15, 15), (16, 16), (17, 17), (18, 18), (19, 19)] Mi_27 (upd (upd (upd (upd (upd (upd (upd (upd mi 12 0) 13 nwords_12) 14 nat_8) 15 nkind_10) 16 nvalue_11) 17 nplace_9) 18 nfault_13) 19 nfaultPlace_14)) (mrg [(0, 0), (1, 1), (2, 2), (3, 3), (4, 4), (5, 5), (6, 6), (7, 7), (8, 8), (9, 9), (10, 10), (11, 11), (12, 12), (13, 13), (14, 14), (15, 15), (16, 16), (17, 17), (18, 18), (19, 19)] Mf_28 mf) (mrg [(0, 0), (1, 1), (2, 2), (3, 3), (4, 4), (5, 5), (6, 6), (7, 7), (8, 8), (9, 9), (10, 10), (11, 11), (12, 12), (13, 13), (14, 14), (15, 15), (16, 16), (17, 17), (18, 18), (19, 19)] Mg_29 mg)) H locs := hw26
    obtain ⟨hp_31, hp_32, hp_33, hp_34, hp_35, hp_36, hp_37, hp_38, hp_39, hp_40, hp_41, hp_42, hp_43, hp_44, hp_45, hp_46, hp_47, hp_48, hp_49, hp_50, hp_51, hp_52, hp_53⟩ := hp
    have hp_31 : 0 ≤ (Mi_27 1).toInt := hp_31
    have hp_32 : (Mi_27 1).toInt ≤ 5 := hp_32
    have hp_33 : 0 ≤ (Mi_27 2).toInt := hp_33
    have hp_34 : (Mi_27 2).toInt ≤ 6 := hp_34
    have hp_35 : 0 ≤ (Mi_27 4).toInt := hp_35
    have hp_36 : (Mi_27 4).toInt ≤ 1000 := hp_36
    have hp_37 : 0 ≤ (Mi_27 6).toInt := hp_37
    have hp_38 : (Mi_27 6).toInt ≤ 99 := hp_38
    have hp_39 : 0 ≤ (Mi_27 9).toInt := hp_39
    have hp_40 : (Mi_27 9).toInt ≤ 10 := hp_40
    have hp_41 : 0 ≤ (Mi_27 12).toInt := hp_41
    have hp_42 : (Mi_27 12).toInt ≤ 400 := hp_42
    have hp_43 : 0 ≤ (Mi_27 13).toInt := hp_43
    have hp_44 : (Mi_27 13).toInt ≤ 6 := hp_44
    have hp_45 : 0 ≤ (Mi_27 18).toInt := hp_45
    have hp_46 : (Mi_27 18).toInt ≤ 4 := hp_46
    have hp_47 : (Mi_27 12).toInt = (0 : Int32).toInt := hp_47
    rw [show (0 : Int32).toInt = 0 from by decide +kernel] at hp_47
    have hp_48 : (Mi_27 9).toInt = (mi 9).toInt := hp_48
    have hp_49 : (Mi_27 2).toInt = (mi 2).toInt := hp_49
    have hp_50 : (Mi_27 1).toInt = (mi 1).toInt := hp_50
    have hp_51 : (Mi_27 12).toInt = (0 : Int32).toInt := hp_51
    rw [show (0 : Int32).toInt = 0 from by decide +kernel] at hp_51
    have hp_52 : (Mi_27 4).toInt = (mi 4).toInt := hp_52
    refine lv_goto (pc := 138) (tgt := 142) E.1 E.2.1 dX11_text_138 (by decide) ?_
    exact em_i (w1 := (fun (u : (Nat → Int32) × (Nat → Nat → Int32) × (Nat → Nat → Int64)) => (WZ_MtextX cI cJ ad mv mr u.1 u.2.1 u.2.2))) E hr hlk ((mrg [(0, 0), (1, 1), (2, 2), (3, 3), (4, 4), (5, 5), (6, 6), (7, 7), (8, 8), (9, 9), (10, 10), (11, 11), (12, 12), (13, 13), (14, 14), (15, 15), (16, 16), (17, 17), (18, 18), (19, 19)] Mi_27 (upd (upd (upd (upd (upd (upd (upd (upd mi 12 0) 13 nwords_12) 14 nat_8) 15 nkind_10) 16 nvalue_11) 17 nplace_9) 18 nfault_13) 19 nfaultPlace_14)), (mrg [(0, 0), (1, 1), (2, 2), (3, 3), (4, 4), (5, 5), (6, 6), (7, 7), (8, 8), (9, 9), (10, 10), (11, 11), (12, 12), (13, 13), (14, 14), (15, 15), (16, 16), (17, 17), (18, 18), (19, 19)] Mf_28 mf), (mrg [(0, 0), (1, 1), (2, 2), (3, 3), (4, 4), (5, 5), (6, 6), (7, 7), (8, 8), (9, 9), (10, 10), (11, 11), (12, 12), (13, 13), (14, 14), (15, 15), (16, 16), (17, 17), (18, 18), (19, 19)] Mg_29 mg)) hw30 ⟨(by show 0 ≤ (Mi_27 1).toInt; omega), (by show (Mi_27 1).toInt ≤ 5; omega), (by show 0 ≤ (Mi_27 2).toInt; omega), (by show (Mi_27 2).toInt ≤ 6; omega), (by show 0 ≤ (Mi_27 4).toInt; omega), (by show (Mi_27 4).toInt ≤ 1000; omega), (by show 0 ≤ (Mi_27 6).toInt; omega), (by show (Mi_27 6).toInt ≤ 99; omega), (by show 0 ≤ (Mi_27 9).toInt; omega), (by show (Mi_27 9).toInt ≤ 10; omega), (by show 0 ≤ (Mi_27 12).toInt; omega), (by show (Mi_27 12).toInt ≤ 400; omega), (by show 0 ≤ (Mi_27 13).toInt; omega), (by show (Mi_27 13).toInt ≤ 6; omega), (by show 0 ≤ (Mi_27 18).toInt; omega), (by show (Mi_27 18).toInt ≤ 4; omega), (by show (Mi_27 12).toInt = 0; omega), (by show (Mi_27 9).toInt = (mi 9).toInt; omega), (by show (Mi_27 2).toInt = (mi 2).toInt; omega), (by show (Mi_27 1).toInt = (mi 1).toInt; omega), (by show (Mi_27 4).toInt = (mi 4).toInt; omega), hp_53⟩ (Nat.le_of_ble_eq_true rfl) (Nat.le_of_ble_eq_true rfl) dX11_text_142
  · skip
    rcases (show hsw_21k = 0 ∨ hsw_21k = 1 ∨ hsw_21k = 2 ∨ hsw_21k = 3 ∨ hsw_21k = 4 from by omega) with rfl | rfl | rfl | rfl | rfl
    · skip
      have hsw_21v : z_k.toInt = 0 := hsw_21
      have hsw_21e : z_k = 0 := Int32.toInt_inj.mp (by rw [hsw_21]; decide +kernel)
      refine lv_tableIn (pc := 20) (off := 36) (tgt := 56) E.1 E.2.1 dX11_text_20 (by rw [hsw_21e]; decide +kernel) (by rw [hsw_21e]; decide +kernel) (by rw [hsw_21e]; decide +kernel) (by decide) ?_
      exfalso; omega
    · skip
      have hsw_21v : z_k.toInt = 1 := hsw_21
      have hsw_21e : z_k = 1 := Int32.toInt_inj.mp (by rw [hsw_21]; decide +kernel)
      refine lv_tableIn (pc := 20) (off := 36) (tgt := 56) E.1 E.2.1 dX11_text_20 (by rw [hsw_21e]; decide +kernel) (by rw [hsw_21e]; decide +kernel) (by rw [hsw_21e]; decide +kernel) (by decide) ?_
      exfalso; omega
    · skip
      have hsw_21v : z_k.toInt = 2 := hsw_21
      have hsw_21e : z_k = 2 := Int32.toInt_inj.mp (by rw [hsw_21]; decide +kernel)
      refine lv_tableIn (pc := 20) (off := 50) (tgt := 70) E.1 E.2.1 dX11_text_20 (by rw [hsw_21e]; decide +kernel) (by rw [hsw_21e]; decide +kernel) (by rw [hsw_21e]; decide +kernel) (by decide) ?_
      exfalso; omega
    · skip
      have hsw_21v : z_k.toInt = 3 := hsw_21
      have hsw_21e : z_k = 3 := Int32.toInt_inj.mp (by rw [hsw_21]; decide +kernel)
      refine lv_tableIn (pc := 20) (off := 65) (tgt := 85) E.1 E.2.1 dX11_text_20 (by rw [hsw_21e]; decide +kernel) (by rw [hsw_21e]; decide +kernel) (by rw [hsw_21e]; decide +kernel) (by decide) ?_
      exfalso; omega
    · skip
      have hsw_21v : z_k.toInt = 4 := hsw_21
      have hsw_21e : z_k = 4 := Int32.toInt_inj.mp (by rw [hsw_21]; decide +kernel)
      refine lv_tableIn (pc := 20) (off := 80) (tgt := 100) E.1 E.2.1 dX11_text_20 (by rw [hsw_21e]; decide +kernel) (by rw [hsw_21e]; decide +kernel) (by rw [hsw_21e]; decide +kernel) (by decide) ?_
      exfalso; omega
set_option maxHeartbeats 4000000 in
set_option maxRecDepth 100000 in
theorem t_takeXb (l : Launch) (D : va_G) (cI cJ : ClassId) (sz : Nat) (mr : Nat → Nat) (mi : Nat → Int32) (mf : Nat → Nat → Int32) (mg : Nat → Nat → Int64) (z_k : Int32) (ad : Nat → Nat) (mv : Nat → Value) (h0 : 0 ≤ (mi 1).toInt ∧ (mi 1).toInt ≤ 5) (h1 : 0 ≤ (mi 2).toInt ∧ (mi 2).toInt ≤ 6) (h2 : 0 ≤ (mi 4).toInt ∧ (mi 4).toInt ≤ 1000) (h3 : 0 ≤ (mi 6).toInt ∧ (mi 6).toInt ≤ 99) (h4 : 0 ≤ (mi 9).toInt ∧ (mi 9).toInt ≤ 10) (h5 : 0 ≤ (mi 12).toInt ∧ (mi 12).toInt ≤ 400) (h6 : 0 ≤ (mi 13).toInt ∧ (mi 13).toInt ≤ 6) (h7 : 0 ≤ (mi 18).toInt ∧ (mi 18).toInt ≤ 4) (h8 : 5 ≤ z_k.toInt) (a_tp_signs : b255 (mf 11)) : Met l yX11_takeDraft (Cond.code yX11_takeDraft cX11_takeDraft 2 (some .int) :: GW) ({ frames := 3, cells := 0, slots := 0, locals := 82 } : Room) (va_Pc [.ref (mr 0), .int z_k] (PW D cI cJ sz (WZ_MtextX cI cJ ad mv mr mi mf mg) xT)) (va_Qi (fun (r : Int32) (u : (Nat → Int32) × (Nat → Nat → Int32) × (Nat → Nat → Int64)) => (0 ≤ (u.1 1).toInt) ∧ ((u.1 1).toInt ≤ 5) ∧ (0 ≤ (u.1 2).toInt) ∧ ((u.1 2).toInt ≤ 6) ∧ (0 ≤ (u.1 4).toInt) ∧ ((u.1 4).toInt ≤ 1000) ∧ (0 ≤ (u.1 6).toInt) ∧ ((u.1 6).toInt ≤ 99) ∧ (0 ≤ (u.1 9).toInt) ∧ ((u.1 9).toInt ≤ 10) ∧ (0 ≤ (u.1 12).toInt) ∧ ((u.1 12).toInt ≤ 400) ∧ (0 ≤ (u.1 13).toInt) ∧ ((u.1 13).toInt ≤ 6) ∧ (0 ≤ (u.1 18).toInt) ∧ ((u.1 18).toInt ≤ 4) ∧ ((u.1 12).toInt = (mi 12).toInt) ∧ ((u.1 9).toInt = (mi 9).toInt) ∧ ((u.1 2).toInt = (mi 2).toInt) ∧ ((u.1 1).toInt = (mi 1).toInt) ∧ ((u.1 12).toInt = (mi 12).toInt) ∧ ((u.1 4).toInt = (mi 4).toInt) ∧ ((Eq (mf 11)) (u.2.1 11))) (fun u => QW D cI cJ (va_A (WZ_MtextX cI cJ ad mv mr mi mf mg) sz) ((fun (u : (Nat → Int32) × (Nat → Nat → Int32) × (Nat → Nat → Int64)) => (WZ_MtextX cI cJ ad mv mr u.1 u.2.1 u.2.2)) u)) (va_A (WZ_MtextX cI cJ ad mv mr mi mf mg) sz)) 0 0 (va_A (WZ_MtextX cI cJ ad mv mr mi mf mg) sz) := by
  refine mk_met (y := yX11_takeDraft) (bytes := cX11_takeDraft) (maxL := 2) (avs := [.ref (mr 0), .int z_k]) (WS := (WZ_MtextX cI cJ ad mv mr mi mf mg)) (Qf := fun A => va_Qi (fun (r : Int32) (u : (Nat → Int32) × (Nat → Nat → Int32) × (Nat → Nat → Int64)) => (0 ≤ (u.1 1).toInt) ∧ ((u.1 1).toInt ≤ 5) ∧ (0 ≤ (u.1 2).toInt) ∧ ((u.1 2).toInt ≤ 6) ∧ (0 ≤ (u.1 4).toInt) ∧ ((u.1 4).toInt ≤ 1000) ∧ (0 ≤ (u.1 6).toInt) ∧ ((u.1 6).toInt ≤ 99) ∧ (0 ≤ (u.1 9).toInt) ∧ ((u.1 9).toInt ≤ 10) ∧ (0 ≤ (u.1 12).toInt) ∧ ((u.1 12).toInt ≤ 400) ∧ (0 ≤ (u.1 13).toInt) ∧ ((u.1 13).toInt ≤ 6) ∧ (0 ≤ (u.1 18).toInt) ∧ ((u.1 18).toInt ≤ 4) ∧ ((u.1 12).toInt = (mi 12).toInt) ∧ ((u.1 9).toInt = (mi 9).toInt) ∧ ((u.1 2).toInt = (mi 2).toInt) ∧ ((u.1 1).toInt = (mi 1).toInt) ∧ ((u.1 12).toInt = (mi 12).toInt) ∧ ((u.1 4).toInt = (mi 4).toInt) ∧ ((Eq (mf 11)) (u.2.1 11))) (fun u => QW D cI cJ A ((fun (u : (Nat → Int32) × (Nat → Nat → Int32) × (Nat → Nat → Int64)) => (WZ_MtextX cI cJ ad mv mr u.1 u.2.1 u.2.2)) u)) A) (by decide) (Nat.le_of_ble_eq_true rfl) ?_
  intro p e s m below meth c A ls E hr hlk hnm hX hw1 hl2
  have hl3 : lv_has ls 2 [(0, .ref (mr 0)), (1, .int z_k)] := hl2
  refine lv_iload_n (pc := 0) E.1 E.2.1 dX11_takeDraft_0 rfl (lv_at hl3 1 rfl) ?_
  rcases swt (x := z_k) 0 4 with hsw_4 | ⟨hsw_4k, hsw_41, hsw_42, hsw_4⟩
  · skip
    refine lv_tableOut (pc := 1) (tgt := 179) E.1 E.2.1 dX11_takeDraft_1 hsw_4 (by decide) ?_
    refine lv_iconst (pc := 179) (v := (-1)) E.1 E.2.1 dX11_takeDraft_179 (by decide +kernel) ?_
    exact em_i (w1 := (fun (u : (Nat → Int32) × (Nat → Nat → Int32) × (Nat → Nat → Int64)) => (WZ_MtextX cI cJ ad mv mr u.1 u.2.1 u.2.2))) E hr hlk (mi, mf, mg) hw1 ⟨(by show 0 ≤ (mi 1).toInt; have k_0 : ((-1) : Int32).toInt = -1 := (by decide +kernel); omega), (by show (mi 1).toInt ≤ 5; have k_0 : ((-1) : Int32).toInt = -1 := (by decide +kernel); omega), (by show 0 ≤ (mi 2).toInt; have k_0 : ((-1) : Int32).toInt = -1 := (by decide +kernel); omega), (by show (mi 2).toInt ≤ 6; have k_0 : ((-1) : Int32).toInt = -1 := (by decide +kernel); omega), (by show 0 ≤ (mi 4).toInt; have k_0 : ((-1) : Int32).toInt = -1 := (by decide +kernel); omega), (by show (mi 4).toInt ≤ 1000; have k_0 : ((-1) : Int32).toInt = -1 := (by decide +kernel); omega), (by show 0 ≤ (mi 6).toInt; have k_0 : ((-1) : Int32).toInt = -1 := (by decide +kernel); omega), (by show (mi 6).toInt ≤ 99; have k_0 : ((-1) : Int32).toInt = -1 := (by decide +kernel); omega), (by show 0 ≤ (mi 9).toInt; have k_0 : ((-1) : Int32).toInt = -1 := (by decide +kernel); omega), (by show (mi 9).toInt ≤ 10; have k_0 : ((-1) : Int32).toInt = -1 := (by decide +kernel); omega), (by show 0 ≤ (mi 12).toInt; have k_0 : ((-1) : Int32).toInt = -1 := (by decide +kernel); omega), (by show (mi 12).toInt ≤ 400; have k_0 : ((-1) : Int32).toInt = -1 := (by decide +kernel); omega), (by show 0 ≤ (mi 13).toInt; have k_0 : ((-1) : Int32).toInt = -1 := (by decide +kernel); omega), (by show (mi 13).toInt ≤ 6; have k_0 : ((-1) : Int32).toInt = -1 := (by decide +kernel); omega), (by show 0 ≤ (mi 18).toInt; have k_0 : ((-1) : Int32).toInt = -1 := (by decide +kernel); omega), (by show (mi 18).toInt ≤ 4; have k_0 : ((-1) : Int32).toInt = -1 := (by decide +kernel); omega), (by show (mi 12).toInt = (mi 12).toInt; have k_0 : ((-1) : Int32).toInt = -1 := (by decide +kernel); omega), (by show (mi 9).toInt = (mi 9).toInt; have k_0 : ((-1) : Int32).toInt = -1 := (by decide +kernel); omega), (by show (mi 2).toInt = (mi 2).toInt; have k_0 : ((-1) : Int32).toInt = -1 := (by decide +kernel); omega), (by show (mi 1).toInt = (mi 1).toInt; have k_0 : ((-1) : Int32).toInt = -1 := (by decide +kernel); omega), (by show (mi 12).toInt = (mi 12).toInt; have k_0 : ((-1) : Int32).toInt = -1 := (by decide +kernel); omega), (by show (mi 4).toInt = (mi 4).toInt; have k_0 : ((-1) : Int32).toInt = -1 := (by decide +kernel); omega), rfl⟩ (Nat.le_of_ble_eq_true rfl) (Nat.le_of_ble_eq_true rfl) dX11_takeDraft_180
  · skip
    rcases (show hsw_4k = 0 ∨ hsw_4k = 1 ∨ hsw_4k = 2 ∨ hsw_4k = 3 ∨ hsw_4k = 4 from by omega) with rfl | rfl | rfl | rfl | rfl
    · skip
      have hsw_4v : z_k.toInt = 0 := hsw_4
      have hsw_4e : z_k = 0 := Int32.toInt_inj.mp (by rw [hsw_4]; decide +kernel)
      refine lv_tableIn (pc := 1) (off := 35) (tgt := 36) E.1 E.2.1 dX11_takeDraft_1 (by rw [hsw_4e]; decide +kernel) (by rw [hsw_4e]; decide +kernel) (by rw [hsw_4e]; decide +kernel) (by decide) ?_
      exfalso; omega
    · skip
      have hsw_4v : z_k.toInt = 1 := hsw_4
      have hsw_4e : z_k = 1 := Int32.toInt_inj.mp (by rw [hsw_4]; decide +kernel)
      refine lv_tableIn (pc := 1) (off := 57) (tgt := 58) E.1 E.2.1 dX11_takeDraft_1 (by rw [hsw_4e]; decide +kernel) (by rw [hsw_4e]; decide +kernel) (by rw [hsw_4e]; decide +kernel) (by decide) ?_
      exfalso; omega
    · skip
      have hsw_4v : z_k.toInt = 2 := hsw_4
      have hsw_4e : z_k = 2 := Int32.toInt_inj.mp (by rw [hsw_4]; decide +kernel)
      refine lv_tableIn (pc := 1) (off := 79) (tgt := 80) E.1 E.2.1 dX11_takeDraft_1 (by rw [hsw_4e]; decide +kernel) (by rw [hsw_4e]; decide +kernel) (by rw [hsw_4e]; decide +kernel) (by decide) ?_
      exfalso; omega
    · skip
      have hsw_4v : z_k.toInt = 3 := hsw_4
      have hsw_4e : z_k = 3 := Int32.toInt_inj.mp (by rw [hsw_4]; decide +kernel)
      refine lv_tableIn (pc := 1) (off := 105) (tgt := 106) E.1 E.2.1 dX11_takeDraft_1 (by rw [hsw_4e]; decide +kernel) (by rw [hsw_4e]; decide +kernel) (by rw [hsw_4e]; decide +kernel) (by decide) ?_
      exfalso; omega
    · skip
      have hsw_4v : z_k.toInt = 4 := hsw_4
      have hsw_4e : z_k = 4 := Int32.toInt_inj.mp (by rw [hsw_4]; decide +kernel)
      refine lv_tableIn (pc := 1) (off := 141) (tgt := 142) E.1 E.2.1 dX11_takeDraft_1 (by rw [hsw_4e]; decide +kernel) (by rw [hsw_4e]; decide +kernel) (by rw [hsw_4e]; decide +kernel) (by decide) ?_
      exfalso; omega
set_option maxHeartbeats 4000000 in
set_option maxRecDepth 100000 in
theorem t_textXb (l : Launch) (D : va_G) (cI cJ : ClassId) (sz : Nat) (mr : Nat → Nat) (mi : Nat → Int32) (mf : Nat → Nat → Int32) (mg : Nat → Nat → Int64) (z_k : Int32) (ad av : Nat → Nat) (tf : Value) (mv : Nat → Value) (h0 : 0 ≤ (mi 1).toInt ∧ (mi 1).toInt ≤ 5) (h1 : 0 ≤ (mi 2).toInt ∧ (mi 2).toInt ≤ 6) (h2 : 0 ≤ (mi 4).toInt ∧ (mi 4).toInt ≤ 1000) (h3 : 0 ≤ (mi 6).toInt ∧ (mi 6).toInt ≤ 99) (h4 : 0 ≤ (mi 9).toInt ∧ (mi 9).toInt ≤ 10) (h5 : 0 ≤ (mi 12).toInt ∧ (mi 12).toInt ≤ 400) (h6 : 0 ≤ (mi 13).toInt ∧ (mi 13).toInt ≤ 6) (h7 : 0 ≤ (mi 18).toInt ∧ (mi 18).toInt ≤ 4) (h8 : 5 ≤ z_k.toInt) (a_tp_signs : b255 (mf 11)) : Met l yX11_text (Cond.code yX11_text cX11_text 3 (some .int) :: GW) ({ frames := 11, cells := 0, slots := 0, locals := 263 } : Room) (va_Pc [.ref (mr 0), .int z_k] (PW D cI cJ sz (WZ_MtextX cI cJ ad mv mr mi mf mg) (xT8 ad av tf (va_A (WZ_MtextX cI cJ ad mv mr mi mf mg) sz)))) (va_Qi (fun (r : Int32) (u : (Nat → Int32) × (Nat → Nat → Int32) × (Nat → Nat → Int64)) => (0 ≤ (u.1 1).toInt) ∧ ((u.1 1).toInt ≤ 5) ∧ (0 ≤ (u.1 2).toInt) ∧ ((u.1 2).toInt ≤ 6) ∧ (0 ≤ (u.1 4).toInt) ∧ ((u.1 4).toInt ≤ 1000) ∧ (0 ≤ (u.1 6).toInt) ∧ ((u.1 6).toInt ≤ 99) ∧ (0 ≤ (u.1 9).toInt) ∧ ((u.1 9).toInt ≤ 10) ∧ (0 ≤ (u.1 12).toInt) ∧ ((u.1 12).toInt ≤ 400) ∧ (0 ≤ (u.1 13).toInt) ∧ ((u.1 13).toInt ≤ 6) ∧ (0 ≤ (u.1 18).toInt) ∧ ((u.1 18).toInt ≤ 4) ∧ ((u.1 12).toInt = 0) ∧ ((u.1 9).toInt = (mi 9).toInt) ∧ ((u.1 2).toInt = (mi 2).toInt) ∧ ((u.1 1).toInt = (mi 1).toInt) ∧ ((u.1 4).toInt = (mi 4).toInt) ∧ ((Eq (mf 11)) (u.2.1 11))) (fun u => QW D cI cJ (va_A (WZ_MtextX cI cJ ad mv mr mi mf mg) sz) ((fun (u : (Nat → Int32) × (Nat → Nat → Int32) × (Nat → Nat → Int64)) => (WZ_MtextX cI cJ ad mv mr u.1 u.2.1 u.2.2)) u)) (va_A (WZ_MtextX cI cJ ad mv mr mi mf mg) sz)) 0 0 (va_A (WZ_MtextX cI cJ ad mv mr mi mf mg) sz) := by
  refine mk_metA (X := fun A => xT8 ad av tf A) (y := yX11_text) (bytes := cX11_text) (maxL := 3) (avs := [.ref (mr 0), .int z_k]) (WS := (WZ_MtextX cI cJ ad mv mr mi mf mg)) (Qf := fun A => va_Qi (fun (r : Int32) (u : (Nat → Int32) × (Nat → Nat → Int32) × (Nat → Nat → Int64)) => (0 ≤ (u.1 1).toInt) ∧ ((u.1 1).toInt ≤ 5) ∧ (0 ≤ (u.1 2).toInt) ∧ ((u.1 2).toInt ≤ 6) ∧ (0 ≤ (u.1 4).toInt) ∧ ((u.1 4).toInt ≤ 1000) ∧ (0 ≤ (u.1 6).toInt) ∧ ((u.1 6).toInt ≤ 99) ∧ (0 ≤ (u.1 9).toInt) ∧ ((u.1 9).toInt ≤ 10) ∧ (0 ≤ (u.1 12).toInt) ∧ ((u.1 12).toInt ≤ 400) ∧ (0 ≤ (u.1 13).toInt) ∧ ((u.1 13).toInt ≤ 6) ∧ (0 ≤ (u.1 18).toInt) ∧ ((u.1 18).toInt ≤ 4) ∧ ((u.1 12).toInt = 0) ∧ ((u.1 9).toInt = (mi 9).toInt) ∧ ((u.1 2).toInt = (mi 2).toInt) ∧ ((u.1 1).toInt = (mi 1).toInt) ∧ ((u.1 4).toInt = (mi 4).toInt) ∧ ((Eq (mf 11)) (u.2.1 11))) (fun u => QW D cI cJ A ((fun (u : (Nat → Int32) × (Nat → Nat → Int32) × (Nat → Nat → Int64)) => (WZ_MtextX cI cJ ad mv mr u.1 u.2.1 u.2.2)) u)) A) (by decide) (Nat.le_of_ble_eq_true rfl) ?_
  intro p e s m below meth c A ls E hr hlk hnm hX hw1 hl2
  have hl3 : lv_has ls 3 [(0, .ref (mr 0)), (1, .int z_k)] := hl2
  refine lv_aload_n (pc := 0) E.1 E.2.1 dX11_text_0 rfl (lv_at hl3 0 rfl) ?_
  refine x_get (pc := 1) (T := TX11) (N := 13) (ci := 11) (v := .ref (mr 3)) E hw1 inX11 0 0 q_606 rfl rfl (by decide) rfl rfl dX11_text_1 ?_
  refine x_get (pc := 4) (T := TX10) (N := 17) (ci := 10) (v := .ref (mr 8)) E hw1 inX10 1 1 q_463 rfl rfl (by decide) rfl rfl dX11_text_4 ?_
  refine x_get (pc := 7) (T := TX1) (N := 9) (ci := 1) (v := .int (mi 9)) E hw1 inX1 2 5 q_282 rfl rfl (by decide) rfl rfl dX11_text_7 ?_
  refine lv_istore_n (pc := 10) (lv' := [(2, .int (mi 9)), (0, .ref (mr 0)), (1, .int z_k)]) E.1 E.2.1 dX11_text_10 rfl hl3 (by decide) rfl (fun ls hl4 => ?_)
  refine lv_aload_n (pc := 11) E.1 E.2.1 dX11_text_11 rfl (lv_at hl4 1 rfl) ?_
  refine x_get (pc := 12) (T := TX11) (N := 13) (ci := 11) (v := .ref (mr 10)) E hw1 inX11 0 2 q_608 rfl rfl (by decide) rfl rfl dX11_text_12 ?_
  refine lv_iload_n (pc := 15) E.1 E.2.1 dX11_text_15 rfl (lv_at hl4 2 rfl) ?_
  refine cq_v (pc := 16) (ws' := (fun (u : Int32 × Int32 × Int32 × Int32 × Int32 × Int32 × Int32) => (WZ_MtextX cI cJ ad mv mr (upd (upd (upd (upd (upd (upd (upd mi 13 u.2.2.2.2.1) 14 u.1) 15 u.2.2.1) 16 u.2.2.2.1) 17 u.2.1) 18 u.2.2.2.2.2.1) 19 u.2.2.2.2.2.2) mf mg))) hw1 [3, 4] [0, 1, 2] [0, 1, 2, 3, 4] rfl rfl (by decide) (by decide) (fun _ => rfl) (by decide) (rn_V (As := [.int z_k]) (rest := []) E hw1 (t_open l D cI cJ _ (ixf [10, 11, 12, 13, 14, 15, 16, 17, 18, 19] mr) (ixf [10, 11, 12, 13, 14, 15, 16, 17, 18, 19] mi) (ixf [10, 11, 12, 13, 14, 15, 16, 17, 18, 19] mf) (ixf [10, 11, 12, 13, 14, 15, 16, 17, 18, 19] mg) z_k ad av tf (by show 0 ≤ (mi 12).toInt ∧ (mi 12).toInt ≤ 400; omega)) (gdV q_710 q_711 q_712 q_160 q_713) hdV_X8_open ⟨rfl, rfl⟩ ⟨(Nat.le_of_ble_eq_true rfl), (Nat.le_of_ble_eq_true rfl)⟩ ⟨(Nat.le_of_ble_eq_true rfl), (Nat.le_of_ble_eq_true rfl)⟩ xT8_b (xT8_at hX hw1.2.2.1 (va_free hw1.2.1 hw1.2.2.1 hw1.2.2.2 [3, 4] rfl)) 3 8 rfl rfl rfl [3, 4] rfl (by decide) rfl hl4.1 rfl (Nat.le_of_ble_eq_true rfl) dX11_text_16) (fun u_5 H1 locs hp hw7 => ?_)
  obtain ⟨nat_8, nplace_9, nkind_10, nvalue_11, nwords_12, nfault_13, nfaultPlace_14⟩ := u_5
  generalize H1 = H at hw7 ⊢
  have hw15 : WD D A s.heap (WZ_MtextX cI cJ ad mv mr (upd (upd (upd (upd (upd (upd (upd mi 13 nwords_12) 14 nat_8) 15 nkind_10) 16 nvalue_11) 17 nplace_9) 18 nfault_13) 19 nfaultPlace_14) mf mg) H locs := hw7
  obtain ⟨hp_16, hp_17, hp_18, hp_19, hp_20⟩ := hp
  have hp_16 : 0 ≤ nat_8.toInt := hp_16
  have hp_17 : nat_8.toInt ≤ (mi 12).toInt := hp_17
  have hp_18 : 0 ≤ nwords_12.toInt := hp_18
  have hp_19 : nwords_12.toInt ≤ 6 := hp_19
  have hp_20 : nfault_13.toInt = 0 := hp_20
  refine lv_iload_n (pc := 19) E.1 E.2.1 dX11_text_19 rfl (lv_at hl4 2 rfl) ?_
  rcases swt (x := z_k) 0 4 with hsw_21 | ⟨hsw_21k, hsw_211, hsw_212, hsw_21⟩
  · skip
    refine lv_tableOut (pc := 20) (tgt := 115) E.1 E.2.1 dX11_text_20 hsw_21 (by decide) ?_
    refine lv_aload_n (pc := 115) E.1 E.2.1 dX11_text_115 rfl (lv_at hl4 1 rfl) ?_
    refine x_get (pc := 116) (T := TX11) (N := 13) (ci := 11) (v := .ref (mr 10)) E hw15 inX11 0 2 q_608 rfl rfl (by decide) rfl rfl dX11_text_116 ?_
    refine lv_iconst (pc := 119) (v := 0) E.1 E.2.1 dX11_text_119 (by decide +kernel) ?_
    refine x_put (pc := 120) (T := TX8) (N := 9) (ci := 8) (ws' := (WZ_MtextX cI cJ ad mv mr (upd (upd (upd (upd (upd (upd (upd (upd mi 12 0) 13 nwords_12) 14 nat_8) 15 nkind_10) 16 nvalue_11) 17 nplace_9) 18 nfault_13) 19 nfaultPlace_14) mf mg)) E hw15 inX8 tyX8_ok nmX8 3 1 q_539 rfl rfl (by decide) rfl rfl rfl rfl (Nat.le_of_ble_eq_true rfl) rfl dX11_text_120 (fun H locs hw22 => ?_)
    refine lv_aload_n (pc := 123) E.1 E.2.1 dX11_text_123 rfl (lv_at hl4 1 rfl) ?_
    refine x_get (pc := 124) (T := TX11) (N := 13) (ci := 11) (v := .ref (mr 10)) E hw22 inX11 0 2 q_608 rfl rfl (by decide) rfl rfl dX11_text_124 ?_
    refine x_get (pc := 127) (T := TX8) (N := 9) (ci := 8) (v := .int nfault_13) E hw22 inX8 3 7 q_555 rfl rfl (by decide) rfl rfl dX11_text_127 ?_
    refine lv_if_ne (pc := 130) (tgt := 141) E.1 E.2.1 dX11_text_130 (by decide) (fun c_23 => absurd (meqE (a := nfault_13.toInt) (b := 0) rfl (by decide +kernel) (by omega)) c_23) (fun _ => ?_)
    refine lv_aload_n (pc := 133) E.1 E.2.1 dX11_text_133 rfl (lv_at hl4 1 rfl) ?_
    refine lv_iload_n (pc := 134) E.1 E.2.1 dX11_text_134 rfl (lv_at hl4 2 rfl) ?_
    refine cq_i (pc := 135) (ws' := (fun (u : (Nat → Int32) × (Nat → Nat → Int32) × (Nat → Nat → Int64)) => (WZ_MtextX cI cJ ad mv mr (mrg [(0, 0), (1, 1), (2, 2), (3, 3), (4, 4), (5, 5), (6, 6), (7, 7), (8, 8), (9, 9), (10, 10), (11, 11), (12, 12), (13, 13), (14, 14), (15, 15), (16, 16), (17, 17), (18, 18), (19, 19)] u.1 (upd (upd (upd (upd (upd (upd (upd (upd mi 12 0) 13 nwords_12) 14 nat_8) 15 nkind_10) 16 nvalue_11) 17 nplace_9) 18 nfault_13) 19 nfaultPlace_14)) (mrg [(0, 0), (1, 1), (2, 2), (3, 3), (4, 4), (5, 5), (6, 6), (7, 7), (8, 8), (9, 9), (10, 10), (11, 11), (12, 12), (13, 13), (14, 14), (15, 15), (16, 16), (17, 17), (18, 18), (19, 19)] u.2.1 mf) (mrg [(0, 0), (1, 1), (2, 2), (3, 3), (4, 4), (5, 5), (6, 6), (7, 7), (8, 8), (9, 9), (10, 10), (11, 11), (12, 12), (13, 13), (14, 14), (15, 15), (16, 16), (17, 17), (18, 18), (19, 19)] u.2.2 mg)))) hw22 [0, 1, 2, 3, 4] [] [0, 1, 2, 3, 4] rfl rfl (by decide) (by decide) (fun _ => rfl) (by decide) (rn_V (As := [.int z_k]) (rest := []) E hw22 (t_takeXb l D cI cJ _ (ixf [0, 1, 2, 3, 4, 5, 6, 7, 8, 9, 10, 11, 12, 13, 14, 15, 16, 17, 18, 19] mr) (ixf [0, 1, 2, 3, 4, 5, 6, 7, 8, 9, 10, 11, 12, 13, 14, 15, 16, 17, 18, 19] (upd (upd (upd (upd (upd (upd (upd (upd mi 12 0) 13 nwords_12) 14 nat_8) 15 nkind_10) 16 nvalue_11) 17 nplace_9) 18 nfault_13) 19 nfaultPlace_14)) (ixf [0, 1, 2, 3, 4, 5, 6, 7, 8, 9, 10, 11, 12, 13, 14, 15, 16, 17, 18, 19] mf) (ixf [0, 1, 2, 3, 4, 5, 6, 7, 8, 9, 10, 11, 12, 13, 14, 15, 16, 17, 18, 19] mg) z_k ad (vl [mv 0, mv 1, mv 2, mv 3, mv 4, mv 5, mv 6, mv 7, mv 8, mv 9, mv 10, mv 11, mv 12, mv 13, mv 14, mv 15, mv 16, mv 17, mv 18, mv 19, mv 20, mv 21, mv 22, mv 23, mv 24, mv 25, mv 26, mv 27, mv 28]) (by show 0 ≤ (mi 1).toInt ∧ (mi 1).toInt ≤ 5; omega) (by show 0 ≤ (mi 2).toInt ∧ (mi 2).toInt ≤ 6; omega) (by show 0 ≤ (mi 4).toInt ∧ (mi 4).toInt ≤ 1000; omega) (by show 0 ≤ (mi 6).toInt ∧ (mi 6).toInt ≤ 99; omega) (by show 0 ≤ (mi 9).toInt ∧ (mi 9).toInt ≤ 10; omega) (by show 0 ≤ (0 : Int32).toInt ∧ (0 : Int32).toInt ≤ 400; have k_0 : (0 : Int32).toInt = 0 := (by decide +kernel); omega) (by show 0 ≤ nwords_12.toInt ∧ nwords_12.toInt ≤ 6; omega) (by show 0 ≤ nfault_13.toInt ∧ nfault_13.toInt ≤ 4; omega) (by show 5 ≤ z_k.toInt; omega) (Eq.subst (motive := b255) rfl a_tp_signs)) (gdV q_957 q_959 q_18 q_151 q_960) hdV_X11_takeDraft ⟨rfl, rfl⟩ ⟨(Nat.le_of_ble_eq_true rfl), (Nat.le_of_ble_eq_true rfl)⟩ ⟨(Nat.le_of_ble_eq_true rfl), (Nat.le_of_ble_eq_true rfl)⟩ xT_b xT_at 0 11 rfl rfl rfl [0, 1, 2, 3, 4] rfl (by decide) rfl hl4.1 rfl (Nat.le_of_ble_eq_true rfl) dX11_text_135) (fun r_25 u_24 H1 locs hp hw26 => ?_)
    obtain ⟨Mi_27, Mf_28, Mg_29⟩ := u_24
    generalize H1 = H at hw26 ⊢
    have hw30 : WD D A s.heap (WZ_MtextX cI cJ ad mv mr (mrg [(0, 0), (1, 1), (2, 2), (3, 3), (4, 4), (5, 5), (6, 6), (7, 7), (8, 8), (9, 9), (10, 10), (11, 11), (12, 12), (13, 13), (14, 14), (15, 15), (16, 16), (17, 17), (18, 18), (19, 19)] Mi_27 (upd (upd (upd (upd (upd (upd (upd (upd mi 12 0) 13 nwords_12) 14 nat_8) 15 nkind_10) 16 nvalue_11) 17 nplace_9) 18 nfault_13) 19 nfaultPlace_14)) (mrg [(0, 0), (1, 1), (2, 2), (3, 3), (4, 4), (5, 5), (6, 6), (7, 7), (8, 8), (9, 9), (10, 10), (11, 11), (12, 12), (13, 13), (14, 14), (15, 15), (16, 16), (17, 17), (18, 18), (19, 19)] Mf_28 mf) (mrg [(0, 0), (1, 1), (2, 2), (3, 3), (4, 4), (5, 5), (6, 6), (7, 7), (8, 8), (9, 9), (10, 10), (11, 11), (12, 12), (13, 13), (14, 14), (15, 15), (16, 16), (17, 17), (18, 18), (19, 19)] Mg_29 mg)) H locs := hw26
    obtain ⟨hp_31, hp_32, hp_33, hp_34, hp_35, hp_36, hp_37, hp_38, hp_39, hp_40, hp_41, hp_42, hp_43, hp_44, hp_45, hp_46, hp_47, hp_48, hp_49, hp_50, hp_51, hp_52, hp_53⟩ := hp
    have hp_31 : 0 ≤ (Mi_27 1).toInt := hp_31
    have hp_32 : (Mi_27 1).toInt ≤ 5 := hp_32
    have hp_33 : 0 ≤ (Mi_27 2).toInt := hp_33
    have hp_34 : (Mi_27 2).toInt ≤ 6 := hp_34
    have hp_35 : 0 ≤ (Mi_27 4).toInt := hp_35
    have hp_36 : (Mi_27 4).toInt ≤ 1000 := hp_36
    have hp_37 : 0 ≤ (Mi_27 6).toInt := hp_37
    have hp_38 : (Mi_27 6).toInt ≤ 99 := hp_38
    have hp_39 : 0 ≤ (Mi_27 9).toInt := hp_39
    have hp_40 : (Mi_27 9).toInt ≤ 10 := hp_40
    have hp_41 : 0 ≤ (Mi_27 12).toInt := hp_41
    have hp_42 : (Mi_27 12).toInt ≤ 400 := hp_42
    have hp_43 : 0 ≤ (Mi_27 13).toInt := hp_43
    have hp_44 : (Mi_27 13).toInt ≤ 6 := hp_44
    have hp_45 : 0 ≤ (Mi_27 18).toInt := hp_45
    have hp_46 : (Mi_27 18).toInt ≤ 4 := hp_46
    have hp_47 : (Mi_27 12).toInt = (0 : Int32).toInt := hp_47
    rw [show (0 : Int32).toInt = 0 from by decide +kernel] at hp_47
    have hp_48 : (Mi_27 9).toInt = (mi 9).toInt := hp_48
    have hp_49 : (Mi_27 2).toInt = (mi 2).toInt := hp_49
    have hp_50 : (Mi_27 1).toInt = (mi 1).toInt := hp_50
    have hp_51 : (Mi_27 12).toInt = (0 : Int32).toInt := hp_51
    rw [show (0 : Int32).toInt = 0 from by decide +kernel] at hp_51
    have hp_52 : (Mi_27 4).toInt = (mi 4).toInt := hp_52
    refine lv_goto (pc := 138) (tgt := 142) E.1 E.2.1 dX11_text_138 (by decide) ?_
    exact em_i (w1 := (fun (u : (Nat → Int32) × (Nat → Nat → Int32) × (Nat → Nat → Int64)) => (WZ_MtextX cI cJ ad mv mr u.1 u.2.1 u.2.2))) E hr hlk ((mrg [(0, 0), (1, 1), (2, 2), (3, 3), (4, 4), (5, 5), (6, 6), (7, 7), (8, 8), (9, 9), (10, 10), (11, 11), (12, 12), (13, 13), (14, 14), (15, 15), (16, 16), (17, 17), (18, 18), (19, 19)] Mi_27 (upd (upd (upd (upd (upd (upd (upd (upd mi 12 0) 13 nwords_12) 14 nat_8) 15 nkind_10) 16 nvalue_11) 17 nplace_9) 18 nfault_13) 19 nfaultPlace_14)), (mrg [(0, 0), (1, 1), (2, 2), (3, 3), (4, 4), (5, 5), (6, 6), (7, 7), (8, 8), (9, 9), (10, 10), (11, 11), (12, 12), (13, 13), (14, 14), (15, 15), (16, 16), (17, 17), (18, 18), (19, 19)] Mf_28 mf), (mrg [(0, 0), (1, 1), (2, 2), (3, 3), (4, 4), (5, 5), (6, 6), (7, 7), (8, 8), (9, 9), (10, 10), (11, 11), (12, 12), (13, 13), (14, 14), (15, 15), (16, 16), (17, 17), (18, 18), (19, 19)] Mg_29 mg)) hw30 ⟨(by show 0 ≤ (Mi_27 1).toInt; omega), (by show (Mi_27 1).toInt ≤ 5; omega), (by show 0 ≤ (Mi_27 2).toInt; omega), (by show (Mi_27 2).toInt ≤ 6; omega), (by show 0 ≤ (Mi_27 4).toInt; omega), (by show (Mi_27 4).toInt ≤ 1000; omega), (by show 0 ≤ (Mi_27 6).toInt; omega), (by show (Mi_27 6).toInt ≤ 99; omega), (by show 0 ≤ (Mi_27 9).toInt; omega), (by show (Mi_27 9).toInt ≤ 10; omega), (by show 0 ≤ (Mi_27 12).toInt; omega), (by show (Mi_27 12).toInt ≤ 400; omega), (by show 0 ≤ (Mi_27 13).toInt; omega), (by show (Mi_27 13).toInt ≤ 6; omega), (by show 0 ≤ (Mi_27 18).toInt; omega), (by show (Mi_27 18).toInt ≤ 4; omega), (by show (Mi_27 12).toInt = 0; omega), (by show (Mi_27 9).toInt = (mi 9).toInt; omega), (by show (Mi_27 2).toInt = (mi 2).toInt; omega), (by show (Mi_27 1).toInt = (mi 1).toInt; omega), (by show (Mi_27 4).toInt = (mi 4).toInt; omega), hp_53⟩ (Nat.le_of_ble_eq_true rfl) (Nat.le_of_ble_eq_true rfl) dX11_text_142
  · skip
    rcases (show hsw_21k = 0 ∨ hsw_21k = 1 ∨ hsw_21k = 2 ∨ hsw_21k = 3 ∨ hsw_21k = 4 from by omega) with rfl | rfl | rfl | rfl | rfl
    · skip
      have hsw_21v : z_k.toInt = 0 := hsw_21
      have hsw_21e : z_k = 0 := Int32.toInt_inj.mp (by rw [hsw_21]; decide +kernel)
      refine lv_tableIn (pc := 20) (off := 36) (tgt := 56) E.1 E.2.1 dX11_text_20 (by rw [hsw_21e]; decide +kernel) (by rw [hsw_21e]; decide +kernel) (by rw [hsw_21e]; decide +kernel) (by decide) ?_
      exfalso; omega
    · skip
      have hsw_21v : z_k.toInt = 1 := hsw_21
      have hsw_21e : z_k = 1 := Int32.toInt_inj.mp (by rw [hsw_21]; decide +kernel)
      refine lv_tableIn (pc := 20) (off := 36) (tgt := 56) E.1 E.2.1 dX11_text_20 (by rw [hsw_21e]; decide +kernel) (by rw [hsw_21e]; decide +kernel) (by rw [hsw_21e]; decide +kernel) (by decide) ?_
      exfalso; omega
    · skip
      have hsw_21v : z_k.toInt = 2 := hsw_21
      have hsw_21e : z_k = 2 := Int32.toInt_inj.mp (by rw [hsw_21]; decide +kernel)
      refine lv_tableIn (pc := 20) (off := 50) (tgt := 70) E.1 E.2.1 dX11_text_20 (by rw [hsw_21e]; decide +kernel) (by rw [hsw_21e]; decide +kernel) (by rw [hsw_21e]; decide +kernel) (by decide) ?_
      exfalso; omega
    · skip
      have hsw_21v : z_k.toInt = 3 := hsw_21
      have hsw_21e : z_k = 3 := Int32.toInt_inj.mp (by rw [hsw_21]; decide +kernel)
      refine lv_tableIn (pc := 20) (off := 65) (tgt := 85) E.1 E.2.1 dX11_text_20 (by rw [hsw_21e]; decide +kernel) (by rw [hsw_21e]; decide +kernel) (by rw [hsw_21e]; decide +kernel) (by decide) ?_
      exfalso; omega
    · skip
      have hsw_21v : z_k.toInt = 4 := hsw_21
      have hsw_21e : z_k = 4 := Int32.toInt_inj.mp (by rw [hsw_21]; decide +kernel)
      refine lv_tableIn (pc := 20) (off := 80) (tgt := 100) E.1 E.2.1 dX11_text_20 (by rw [hsw_21e]; decide +kernel) (by rw [hsw_21e]; decide +kernel) (by rw [hsw_21e]; decide +kernel) (by decide) ?_
      exfalso; omega
