set_option maxHeartbeats 4000000 in
set_option maxRecDepth 100000 in
theorem t_takeXb (l : Launch) (D : va_G) (cI cJ : ClassId) (sz : Nat) (mr : Nat → Nat) (mi : Nat → Int32) (mf : Nat → Nat → Int32) (mg : Nat → Nat → Int64) (z_k : Int32) (ad : Nat → Nat) (mv : Nat → Value) (h0 : 0 ≤ (mi 1).toInt ∧ (mi 1).toInt ≤ 5) (h1 : 0 ≤ (mi 2).toInt ∧ (mi 2).toInt ≤ 6) (h2 : 0 ≤ (mi 9).toInt ∧ (mi 9).toInt ≤ 10) (h3 : 0 ≤ (mi 12).toInt ∧ (mi 12).toInt ≤ 400) (h4 : 0 ≤ (mi 13).toInt ∧ (mi 13).toInt ≤ 6) (h5 : 0 ≤ (mi 18).toInt ∧ (mi 18).toInt ≤ 4) (h6 : 5 ≤ z_k.toInt) : Met l yX11_takeDraft (Cond.code yX11_takeDraft cX11_takeDraft 2 (some .int) :: GW) ({ frames := 3, cells := 0, slots := 0, locals := 82 } : Room) (va_Pc [.ref (mr 0), .int z_k] (PW D cI cJ sz (WZ_MtextX cI cJ ad mv mr mi mf mg) xT)) (va_Qi (fun (r : Int32) (u : (Nat → Int32) × (Nat → Nat → Int32) × (Nat → Nat → Int64)) => (0 ≤ (u.1 1).toInt) ∧ ((u.1 1).toInt ≤ 5) ∧ (0 ≤ (u.1 2).toInt) ∧ ((u.1 2).toInt ≤ 6) ∧ (0 ≤ (u.1 9).toInt) ∧ ((u.1 9).toInt ≤ 10) ∧ (0 ≤ (u.1 12).toInt) ∧ ((u.1 12).toInt ≤ 400) ∧ (0 ≤ (u.1 13).toInt) ∧ ((u.1 13).toInt ≤ 6) ∧ (0 ≤ (u.1 18).toInt) ∧ ((u.1 18).toInt ≤ 4) ∧ ((u.1 12).toInt = (mi 12).toInt) ∧ ((u.1 9).toInt = (mi 9).toInt)) (fun u => QW D cI cJ (va_A (WZ_MtextX cI cJ ad mv mr mi mf mg) sz) ((fun (u : (Nat → Int32) × (Nat → Nat → Int32) × (Nat → Nat → Int64)) => (WZ_MtextX cI cJ ad mv mr u.1 u.2.1 u.2.2)) u)) (va_A (WZ_MtextX cI cJ ad mv mr mi mf mg) sz)) 0 0 (va_A (WZ_MtextX cI cJ ad mv mr mi mf mg) sz) := by
  refine mk_met (y := yX11_takeDraft) (bytes := cX11_takeDraft) (maxL := 2) (avs := [.ref (mr 0), .int z_k]) (WS := (WZ_MtextX cI cJ ad mv mr mi mf mg)) (Qf := fun A => va_Qi (fun (r : Int32) (u : (Nat → Int32) × (Nat → Nat → Int32) × (Nat → Nat → Int64)) => (0 ≤ (u.1 1).toInt) ∧ ((u.1 1).toInt ≤ 5) ∧ (0 ≤ (u.1 2).toInt) ∧ ((u.1 2).toInt ≤ 6) ∧ (0 ≤ (u.1 9).toInt) ∧ ((u.1 9).toInt ≤ 10) ∧ (0 ≤ (u.1 12).toInt) ∧ ((u.1 12).toInt ≤ 400) ∧ (0 ≤ (u.1 13).toInt) ∧ ((u.1 13).toInt ≤ 6) ∧ (0 ≤ (u.1 18).toInt) ∧ ((u.1 18).toInt ≤ 4) ∧ ((u.1 12).toInt = (mi 12).toInt) ∧ ((u.1 9).toInt = (mi 9).toInt)) (fun u => QW D cI cJ A ((fun (u : (Nat → Int32) × (Nat → Nat → Int32) × (Nat → Nat → Int64)) => (WZ_MtextX cI cJ ad mv mr u.1 u.2.1 u.2.2)) u)) A) (by decide) (Nat.le_of_ble_eq_true rfl) ?_
  intro p e s m below meth c A ls E hr hlk hnm hX hw1 hl2
  have hl3 : lv_has ls 2 [(0, .ref (mr 0)), (1, .int z_k)] := hl2
  refine lv_iload_n (pc := 0) E.1 E.2.1 dX11_takeDraft_0 rfl (lv_at hl3 1 rfl) ?_
  rcases swt (x := z_k) 0 4 with hsw_4 | ⟨hsw_4k, hsw_41, hsw_42, hsw_4⟩
  · skip
    refine lv_tableOut (pc := 1) (tgt := 179) E.1 E.2.1 dX11_takeDraft_1 hsw_4 (by decide) ?_
    refine lv_iconst (pc := 179) (v := (-1)) E.1 E.2.1 dX11_takeDraft_179 (by decide +kernel) ?_
    exact em_i (w1 := (fun (u : (Nat → Int32) × (Nat → Nat → Int32) × (Nat → Nat → Int64)) => (WZ_MtextX cI cJ ad mv mr u.1 u.2.1 u.2.2))) E hr hlk (mi, mf, mg) hw1 ⟨h0.1, h0.2, h1.1, h1.2, h2.1, h2.2, h3.1, h3.2, h4.1, h4.2, h5.1, h5.2, rfl, rfl⟩ (Nat.le_of_ble_eq_true rfl) (Nat.le_of_ble_eq_true rfl) dX11_takeDraft_180
  · skip
    rcases (show hsw_4k = 0 ∨ hsw_4k = 1 ∨ hsw_4k = 2 ∨ hsw_4k = 3 ∨ hsw_4k = 4 from by omega) with rfl | rfl | rfl | rfl | rfl
    · skip
      have hsw_4v : z_k.toInt = 0 := hsw_4
      have hsw_4e : z_k = 0 := Int32.toInt_inj.mp (by rw [hsw_4]; decide +kernel)
      refine lv_tableIn (pc := 1) (off := 35) (tgt := 36) E.1 E.2.1 dX11_takeDraft_1 (by rw [hsw_4e]; decide +kernel) (by rw [hsw_4e]; decide +kernel) (by rw [hsw_4e]; decide +kernel) (by decide) ?_
      exfalso; omega
    · skip
      have hsw_4v : z_k.toInt = 1 := hsw_4
      have hsw_4e : z_k = 1 := Int32.toInt_inj.mp (by rw [hsw_4]; decide +kernel)
      refine lv_tableIn (pc := 1) (off := 57) (tgt := 58) E.1 E.2.1 dX11_takeDraft_1 (by rw [hsw_4e]; decide +kernel) (by rw [hsw_4e]; decide +kernel) (by rw [hsw_4e]; decide +kernel) (by decide) ?_
      exfalso; omega
    · skip
      have hsw_4v : z_k.toInt = 2 := hsw_4
      have hsw_4e : z_k = 2 := Int32.toInt_inj.mp (by rw [hsw_4]; decide +kernel)
      refine lv_tableIn (pc := 1) (off := 79) (tgt := 80) E.1 E.2.1 dX11_takeDraft_1 (by rw [hsw_4e]; decide +kernel) (by rw [hsw_4e]; decide +kernel) (by rw [hsw_4e]; decide +kernel) (by decide) ?_
      exfalso; omega
    · skip
      have hsw_4v : z_k.toInt = 3 := hsw_4
      have hsw_4e : z_k = 3 := Int32.toInt_inj.mp (by rw [hsw_4]; decide +kernel)
      refine lv_tableIn (pc := 1) (off := 105) (tgt := 106) E.1 E.2.1 dX11_takeDraft_1 (by rw [hsw_4e]; decide +kernel) (by rw [hsw_4e]; decide +kernel) (by rw [hsw_4e]; decide +kernel) (by decide) ?_
      exfalso; omega
    · skip
      have hsw_4v : z_k.toInt = 4 := hsw_4
      have hsw_4e : z_k = 4 := Int32.toInt_inj.mp (by rw [hsw_4]; decide +kernel)
      refine lv_tableIn (pc := 1) (off := 141) (tgt := 142) E.1 E.2.1 dX11_takeDraft_1 (by rw [hsw_4e]; decide +kernel) (by rw [hsw_4e]; decide +kernel) (by rw [hsw_4e]; decide +kernel) (by decide) ?_
      exfalso; omega
set_option maxHeartbeats 4000000 in
set_option maxRecDepth 100000 in
theorem t_textXb (l : Launch) (D : va_G) (cI cJ : ClassId) (sz : Nat) (mr : Nat → Nat) (mi : Nat → Int32) (mf : Nat → Nat → Int32) (mg : Nat → Nat → Int64) (z_k : Int32) (ad av : Nat → Nat) (tf : Value) (mv : Nat → Value) (h0 : 0 ≤ (mi 1).toInt ∧ (mi 1).toInt ≤ 5) (h1 : 0 ≤ (mi 2).toInt ∧ (mi 2).toInt ≤ 6) (h2 : 0 ≤ (mi 9).toInt ∧ (mi 9).toInt ≤ 10) (h3 : 0 ≤ (mi 12).toInt ∧ (mi 12).toInt ≤ 400) (h4 : 0 ≤ (mi 13).toInt ∧ (mi 13).toInt ≤ 6) (h5 : 0 ≤ (mi 18).toInt ∧ (mi 18).toInt ≤ 4) (h6 : 5 ≤ z_k.toInt) : Met l yX11_text (Cond.code yX11_text cX11_text 3 (some .int) :: GW) ({ frames := 11, cells := 0, slots := 0, locals := 263 } : Room) (va_Pc [.ref (mr 0), .int z_k] (PW D cI cJ sz (WZ_MtextX cI cJ ad mv mr mi mf mg) (xT8 ad av tf (va_A (WZ_MtextX cI cJ ad mv mr mi mf mg) sz)))) (va_Qi (fun (r : Int32) (u : (Nat → Int32) × (Nat → Nat → Int32) × (Nat → Nat → Int64)) => (0 ≤ (u.1 1).toInt) ∧ ((u.1 1).toInt ≤ 5) ∧ (0 ≤ (u.1 2).toInt) ∧ ((u.1 2).toInt ≤ 6) ∧ (0 ≤ (u.1 9).toInt) ∧ ((u.1 9).toInt ≤ 10) ∧ (0 ≤ (u.1 12).toInt) ∧ ((u.1 12).toInt ≤ 400) ∧ (0 ≤ (u.1 13).toInt) ∧ ((u.1 13).toInt ≤ 6) ∧ (0 ≤ (u.1 18).toInt) ∧ ((u.1 18).toInt ≤ 4) ∧ ((u.1 12).toInt = 0) ∧ ((u.1 9).toInt = (mi 9).toInt)) (fun u => QW D cI cJ (va_A (WZ_MtextX cI cJ ad mv mr mi mf mg) sz) ((fun (u : (Nat → Int32) × (Nat → Nat → Int32) × (Nat → Nat → Int64)) => (WZ_MtextX cI cJ ad mv mr u.1 u.2.1 u.2.2)) u)) (va_A (WZ_MtextX cI cJ ad mv mr mi mf mg) sz)) 0 0 (va_A (WZ_MtextX cI cJ ad mv mr mi mf mg) sz) := by
  refine mk_metA (X := fun A => xT8 ad av tf A) (y := yX11_text) (bytes := cX11_text) (maxL := 3) (avs := [.ref (mr 0), .int z_k]) (WS := (WZ_MtextX cI cJ ad mv mr mi mf mg)) (Qf := fun A => va_Qi (fun (r : Int32) (u : (Nat → Int32) × (Nat → Nat → Int32) × (Nat → Nat → Int64)) => (0 ≤ (u.1 1).toInt) ∧ ((u.1 1).toInt ≤ 5) ∧ (0 ≤ (u.1 2).toInt) ∧ ((u.1 2).toInt ≤ 6) ∧ (0 ≤ (u.1 9).toInt) ∧ ((u.1 9).toInt ≤ 10) ∧ (0 ≤ (u.1 12).toInt) ∧ ((u.1 12).toInt ≤ 400) ∧ (0 ≤ (u.1 13).toInt) ∧ ((u.1 13).toInt ≤ 6) ∧ (0 ≤ (u.1 18).toInt) ∧ ((u.1 18).toInt ≤ 4) ∧ ((u.1 12).toInt = 0) ∧ ((u.1 9).toInt = (mi 9).toInt)) (fun u => QW D cI cJ A ((fun (u : (Nat → Int32) × (Nat → Nat → Int32) × (Nat → Nat → Int64)) => (WZ_MtextX cI cJ ad mv mr u.1 u.2.1 u.2.2)) u)) A) (by decide) (Nat.le_of_ble_eq_true rfl) ?_
  intro p e s m below meth c A ls E hr hlk hnm hX hw1 hl2
  have hl3 : lv_has ls 3 [(0, .ref (mr 0)), (1, .int z_k)] := hl2
  refine lv_aload_n (pc := 0) E.1 E.2.1 dX11_text_0 rfl (lv_at hl3 0 rfl) ?_
  refine x_get (pc := 1) (T := TX11) (N := 13) (ci := 11) (v := .ref (mr 3)) E hw1 inX11 0 0 q_606 rfl rfl (by decide) rfl rfl dX11_text_1 ?_
  refine x_get (pc := 4) (T := TX10) (N := 17) (ci := 10) (v := .ref (mr 8)) E hw1 inX10 1 1 q_463 rfl rfl (by decide) rfl rfl dX11_text_4 ?_
  refine x_get (pc := 7) (T := TX1) (N := 9) (ci := 1) (v := .int (mi 9)) E hw1 inX1 2 5 q_282 rfl rfl (by decide) rfl rfl dX11_text_7 ?_
  refine lv_istore_n (pc := 10) (lv' := [(2, .int (mi 9)), (0, .ref (mr 0)), (1, .int z_k)]) E.1 E.2.1 dX11_text_10 rfl hl3 (by decide) rfl (fun ls hl4 => ?_)
  refine lv_aload_n (pc := 11) E.1 E.2.1 dX11_text_11 rfl (lv_at hl4 1 rfl) ?_
  refine x_get (pc := 12) (T := TX11) (N := 13) (ci := 11) (v := .ref (mr 10)) E hw1 inX11 0 2 q_608 rfl rfl (by decide) rfl rfl dX11_text_12 ?_
  refine lv_iload_n (pc := 15) E.1 E.2.1 dX11_text_15 rfl (lv_at hl4 2 rfl) ?_
  refine ck_v (pc := 16) (ws' := (fun (u : Int32 × Int32 × Int32 × Int32 × Int32 × Int32 × Int32) => (WZ_MtextX cI cJ ad mv mr (upd (upd (upd (upd (upd (upd (upd mi 13 u.2.2.2.2.1) 14 u.1) 15 u.2.2.1) 16 u.2.2.2.1) 17 u.2.1) 18 u.2.2.2.2.2.1) 19 u.2.2.2.2.2.2) mf mg))) [false, false, false, true, true] hw1 rfl (fun hC_ => (rn_V (As := [.int z_k]) (rest := []) E hw1 (t_open l D cI cJ _ (shf 10 mr) (shf 10 mi) (shf 10 mf) (shf 10 mg) z_k ad av tf h3) (gdV q_710 q_711 q_712 q_160 q_713) hdV_X8_open ⟨rfl, rfl⟩ ⟨(Nat.le_of_ble_eq_true rfl), (Nat.le_of_ble_eq_true rfl)⟩ ⟨(Nat.le_of_ble_eq_true rfl), (Nat.le_of_ble_eq_true rfl)⟩ xT8_b (xT8_at hX hw1.2.2.1 (va_free hw1.2.1 hw1.2.2.1 hw1.2.2.2 _ hC_)) 3 8 rfl rfl rfl _ hC_ (nd_T _ 0) rfl hl4.1 rfl (Nat.le_of_ble_eq_true rfl) dX11_text_16)) rfl (fun _ => rfl) (fun _ => rfl) (fun u_5 H1 locs hp hw7 => ?_)
  obtain ⟨nat_8, nplace_9, nkind_10, nvalue_11, nwords_12, nfault_13, nfaultPlace_14⟩ := u_5
  generalize H1 = H at hw7 ⊢
  have hw15 : WD D A s.heap (WZ_MtextX cI cJ ad mv mr (upd (upd (upd (upd (upd (upd (upd mi 13 nwords_12) 14 nat_8) 15 nkind_10) 16 nvalue_11) 17 nplace_9) 18 nfault_13) 19 nfaultPlace_14) mf mg) H locs := hw7
  obtain ⟨hp_16, hp_17, hp_18, hp_19, hp_20⟩ := hp
  have hp_16 : 0 ≤ nat_8.toInt := hp_16
  have hp_17 : nat_8.toInt ≤ (mi 12).toInt := hp_17
  have hp_18 : 0 ≤ nwords_12.toInt := hp_18
  have hp_19 : nwords_12.toInt ≤ 6 := hp_19
  have hp_20 : nfault_13.toInt = 0 := hp_20
  refine lv_iload_n (pc := 19) E.1 E.2.1 dX11_text_19 rfl (lv_at hl4 2 rfl) ?_
  rcases swt (x := z_k) 0 4 with hsw_21 | ⟨hsw_21k, hsw_211, hsw_212, hsw_21⟩
  · skip
    refine lv_tableOut (pc := 20) (tgt := 115) E.1 E.2.1 dX11_text_20 hsw_21 (by decide) ?_
    refine lv_aload_n (pc := 115) E.1 E.2.1 dX11_text_115 rfl (lv_at hl4 1 rfl) ?_
    refine x_get (pc := 116) (T := TX11) (N := 13) (ci := 11) (v := .ref (mr 10)) E hw15 inX11 0 2 q_608 rfl rfl (by decide) rfl rfl dX11_text_116 ?_
    refine lv_iconst (pc := 119) (v := 0) E.1 E.2.1 dX11_text_119 (by decide +kernel) ?_
    refine x_put (pc := 120) (T := TX8) (N := 9) (ci := 8) (ws' := (WZ_MtextX cI cJ ad mv mr (upd (upd (upd (upd (upd (upd (upd (upd mi 12 0) 13 nwords_12) 14 nat_8) 15 nkind_10) 16 nvalue_11) 17 nplace_9) 18 nfault_13) 19 nfaultPlace_14) mf mg)) E hw15 inX8 tyX8_ok nmX8 3 1 q_539 rfl rfl (by decide) rfl rfl rfl rfl (Nat.le_of_ble_eq_true rfl) rfl dX11_text_120 (fun H locs hw22 => ?_)
    refine lv_aload_n (pc := 123) E.1 E.2.1 dX11_text_123 rfl (lv_at hl4 1 rfl) ?_
    refine x_get (pc := 124) (T := TX11) (N := 13) (ci := 11) (v := .ref (mr 10)) E hw22 inX11 0 2 q_608 rfl rfl (by decide) rfl rfl dX11_text_124 ?_
    refine x_get (pc := 127) (T := TX8) (N := 9) (ci := 8) (v := .int nfault_13) E hw22 inX8 3 7 q_555 rfl rfl (by decide) rfl rfl dX11_text_127 ?_
    refine lv_if_ne (pc := 130) (tgt := 141) E.1 E.2.1 dX11_text_130 (by decide) (fun c_23 => absurd (meqE (a := nfault_13.toInt) (b := 0) rfl (by decide +kernel) (by omega)) c_23) (fun _ => ?_)
    refine lv_aload_n (pc := 133) E.1 E.2.1 dX11_text_133 rfl (lv_at hl4 1 rfl) ?_
    refine lv_iload_n (pc := 134) E.1 E.2.1 dX11_text_134 rfl (lv_at hl4 2 rfl) ?_
    refine ck_i (pc := 135) (ws' := (fun (u : (Nat → Int32) × (Nat → Nat → Int32) × (Nat → Nat → Int64)) => (WZ_MtextX cI cJ ad mv mr (mgs [(0, 0, 20)] u.1 (upd (upd (upd (upd (upd (upd (upd (upd mi 12 0) 13 nwords_12) 14 nat_8) 15 nkind_10) 16 nvalue_11) 17 nplace_9) 18 nfault_13) 19 nfaultPlace_14)) (mgs [(0, 0, 20)] u.2.1 mf) (mgs [(0, 0, 20)] u.2.2 mg)))) [true, true, true, true, true] hw22 rfl (fun hC_ => (rn_V (As := [.int z_k]) (rest := []) E hw22 (t_takeXb l D cI cJ _ mr (upd (upd (upd (upd (upd (upd (upd (upd mi 12 0) 13 nwords_12) 14 nat_8) 15 nkind_10) 16 nvalue_11) 17 nplace_9) 18 nfault_13) 19 nfaultPlace_14) mf mg z_k ad (vl [mv 0, mv 1, mv 2, mv 3, mv 4, mv 5, mv 6, mv 7, mv 8, mv 9, mv 10, mv 11, mv 12, mv 13, mv 14, mv 15, mv 16, mv 17, mv 18, mv 19, mv 20, mv 21, mv 22, mv 23, mv 24, mv 25, mv 26, mv 27, mv 28]) h0 h1 h2 (by show 0 ≤ (0 : Int32).toInt ∧ (0 : Int32).toInt ≤ 400; have k_0 : (0 : Int32).toInt = 0 := (by decide +kernel); omega) ⟨hp_18, hp_19⟩ (by show 0 ≤ nfault_13.toInt ∧ nfault_13.toInt ≤ 4; omega) h6) (gdV q_957 q_959 q_18 q_151 q_960) hdV_X11_takeDraft ⟨rfl, rfl⟩ ⟨(Nat.le_of_ble_eq_true rfl), (Nat.le_of_ble_eq_true rfl)⟩ ⟨(Nat.le_of_ble_eq_true rfl), (Nat.le_of_ble_eq_true rfl)⟩ xT_b xT_at 0 11 rfl rfl rfl _ hC_ (nd_T _ 0) rfl hl4.1 rfl (Nat.le_of_ble_eq_true rfl) dX11_text_135)) rfl (fun _ => rfl) (fun _ => rfl) (fun r_25 u_24 H1 locs hp hw26 => ?_)
    obtain ⟨Mi_27, Mf_28, Mg_29⟩ := u_24
    generalize H1 = H at hw26 ⊢
    have hw30 : WD D A s.heap (WZ_MtextX cI cJ ad mv mr (mgs [(0, 0, 20)] Mi_27 (upd (upd (upd (upd (upd (upd (upd (upd mi 12 0) 13 nwords_12) 14 nat_8) 15 nkind_10) 16 nvalue_11) 17 nplace_9) 18 nfault_13) 19 nfaultPlace_14)) (mgs [(0, 0, 20)] Mf_28 mf) (mgs [(0, 0, 20)] Mg_29 mg)) H locs := hw26
    obtain ⟨hp_31, hp_32, hp_33, hp_34, hp_35, hp_36, hp_37, hp_38, hp_39, hp_40, hp_41, hp_42, hp_43, hp_44⟩ := hp
    have hp_31 : 0 ≤ (Mi_27 1).toInt := hp_31
    have hp_32 : (Mi_27 1).toInt ≤ 5 := hp_32
    have hp_33 : 0 ≤ (Mi_27 2).toInt := hp_33
    have hp_34 : (Mi_27 2).toInt ≤ 6 := hp_34
    have hp_35 : 0 ≤ (Mi_27 9).toInt := hp_35
    have hp_36 : (Mi_27 9).toInt ≤ 10 := hp_36
    have hp_37 : 0 ≤ (Mi_27 12).toInt := hp_37
    have hp_38 : (Mi_27 12).toInt ≤ 400 := hp_38
    have hp_39 : 0 ≤ (Mi_27 13).toInt := hp_39
    have hp_40 : (Mi_27 13).toInt ≤ 6 := hp_40
    have hp_41 : 0 ≤ (Mi_27 18).toInt := hp_41
    have hp_42 : (Mi_27 18).toInt ≤ 4 := hp_42
    have hp_43 : (Mi_27 12).toInt = (0 : Int32).toInt := hp_43
    rw [show (0 : Int32).toInt = 0 from by decide +kernel] at hp_43
    have hp_44 : (Mi_27 9).toInt = (mi 9).toInt := hp_44
    refine lv_goto (pc := 138) (tgt := 142) E.1 E.2.1 dX11_text_138 (by decide) ?_
    exact em_i (w1 := (fun (u : (Nat → Int32) × (Nat → Nat → Int32) × (Nat → Nat → Int64)) => (WZ_MtextX cI cJ ad mv mr u.1 u.2.1 u.2.2))) E hr hlk ((mgs [(0, 0, 20)] Mi_27 (upd (upd (upd (upd (upd (upd (upd (upd mi 12 0) 13 nwords_12) 14 nat_8) 15 nkind_10) 16 nvalue_11) 17 nplace_9) 18 nfault_13) 19 nfaultPlace_14)), (mgs [(0, 0, 20)] Mf_28 mf), (mgs [(0, 0, 20)] Mg_29 mg)) hw30 ⟨hp_31, hp_32, hp_33, hp_34, hp_35, hp_36, hp_37, hp_38, hp_39, hp_40, hp_41, hp_42, (by show (Mi_27 12).toInt = 0; omega), hp_44⟩ (Nat.le_of_ble_eq_true rfl) (Nat.le_of_ble_eq_true rfl) dX11_text_142
  · skip
    rcases (show hsw_21k = 0 ∨ hsw_21k = 1 ∨ hsw_21k = 2 ∨ hsw_21k = 3 ∨ hsw_21k = 4 from by omega) with rfl | rfl | rfl | rfl | rfl
    · skip
      have hsw_21v : z_k.toInt = 0 := hsw_21
      have hsw_21e : z_k = 0 := Int32.toInt_inj.mp (by rw [hsw_21]; decide +kernel)
      refine lv_tableIn (pc := 20) (off := 36) (tgt := 56) E.1 E.2.1 dX11_text_20 (by rw [hsw_21e]; decide +kernel) (by rw [hsw_21e]; decide +kernel) (by rw [hsw_21e]; decide +kernel) (by decide) ?_
      exfalso; omega
    · skip
      have hsw_21v : z_k.toInt = 1 := hsw_21
      have hsw_21e : z_k = 1 := Int32.toInt_inj.mp (by rw [hsw_21]; decide +kernel)
      refine lv_tableIn (pc := 20) (off := 36) (tgt := 56) E.1 E.2.1 dX11_text_20 (by rw [hsw_21e]; decide +kernel) (by rw [hsw_21e]; decide +kernel) (by rw [hsw_21e]; decide +kernel) (by decide) ?_
      exfalso; omega
    · skip
      have hsw_21v : z_k.toInt = 2 := hsw_21
      have hsw_21e : z_k = 2 := Int32.toInt_inj.mp (by rw [hsw_21]; decide +kernel)
      refine lv_tableIn (pc := 20) (off := 50) (tgt := 70) E.1 E.2.1 dX11_text_20 (by rw [hsw_21e]; decide +kernel) (by rw [hsw_21e]; decide +kernel) (by rw [hsw_21e]; decide +kernel) (by decide) ?_
      exfalso; omega
    · skip
      have hsw_21v : z_k.toInt = 3 := hsw_21
      have hsw_21e : z_k = 3 := Int32.toInt_inj.mp (by rw [hsw_21]; decide +kernel)
      refine lv_tableIn (pc := 20) (off := 65) (tgt := 85) E.1 E.2.1 dX11_text_20 (by rw [hsw_21e]; decide +kernel) (by rw [hsw_21e]; decide +kernel) (by rw [hsw_21e]; decide +kernel) (by decide) ?_
      exfalso; omega
    · skip
      have hsw_21v : z_k.toInt = 4 := hsw_21
      have hsw_21e : z_k = 4 := Int32.toInt_inj.mp (by rw [hsw_21]; decide +kernel)
      refine lv_tableIn (pc := 20) (off := 80) (tgt := 100) E.1 E.2.1 dX11_text_20 (by rw [hsw_21e]; decide +kernel) (by rw [hsw_21e]; decide +kernel) (by rw [hsw_21e]; decide +kernel) (by decide) ?_
      exfalso; omega
set_option maxHeartbeats 4000000 in
set_option maxRecDepth 100000 in
theorem t_feed (l : Launch) (D : va_G) (cI cJ : ClassId) (sz : Nat) (mr : Nat → Nat) (mi : Nat → Int32) (mf : Nat → Nat → Int32) (mg : Nat → Nat → Int64) (z_a : Int32) (z_b : Int32) (z_c : Int32) (z_d : Int32) (z_e : Int32) (ad : Nat → Nat) (mv : Nat → Value) (h0 : 0 ≤ (mi 1).toInt ∧ (mi 1).toInt ≤ 5) (h1 : 0 ≤ (mi 2).toInt ∧ (mi 2).toInt ≤ 6) (h2 : 0 ≤ (mi 5).toInt ∧ (mi 5).toInt ≤ 400) (h3 : 0 ≤ (mi 6).toInt ∧ (mi 6).toInt ≤ 6) (h4 : 0 ≤ (mi 11).toInt ∧ (mi 11).toInt ≤ 4) : Met l yX11_feed (Cond.code yX11_feed cX11_feed 6 (some .int) :: GW) ({ frames := 11, cells := 0, slots := 0, locals := 263 } : Room) (va_Pc [.ref (mr 0), .int z_a, .int z_b, .int z_c, .int z_d, .int z_e] (PW D cI cJ sz (WZ_Mfeed cI cJ ad mv mr mi mf mg) xT)) (va_Qi (fun (r : Int32) (u : (Nat → Int32) × (Nat → Nat → Int32) × (Nat → Nat → Int64)) => (0 ≤ (u.1 1).toInt) ∧ ((u.1 1).toInt ≤ 5) ∧ (0 ≤ (u.1 2).toInt) ∧ ((u.1 2).toInt ≤ 6) ∧ (0 ≤ (u.1 5).toInt) ∧ ((u.1 5).toInt ≤ 400) ∧ (0 ≤ (u.1 6).toInt) ∧ ((u.1 6).toInt ≤ 6) ∧ (0 ≤ (u.1 11).toInt) ∧ ((u.1 11).toInt ≤ 4) ∧ ((r = (-1) ∧ 381 ≤ (mi 5).toInt ∧ (u.1 5).toInt = (mi 5).toInt) ∨ ((mi 5).toInt ≤ 380 ∧ (u.1 5).toInt = (mi 5).toInt + 20 ∧ r.toInt = (mi 5).toInt + 20))) (fun u => QW D cI cJ (va_A (WZ_Mfeed cI cJ ad mv mr mi mf mg) sz) ((fun (u : (Nat → Int32) × (Nat → Nat → Int32) × (Nat → Nat → Int64)) => (WZ_Mfeed cI cJ ad mv mr u.1 u.2.1 u.2.2)) u)) (va_A (WZ_Mfeed cI cJ ad mv mr mi mf mg) sz)) 0 0 (va_A (WZ_Mfeed cI cJ ad mv mr mi mf mg) sz) := by
  refine mk_met (y := yX11_feed) (bytes := cX11_feed) (maxL := 6) (avs := [.ref (mr 0), .int z_a, .int z_b, .int z_c, .int z_d, .int z_e]) (WS := (WZ_Mfeed cI cJ ad mv mr mi mf mg)) (Qf := fun A => va_Qi (fun (r : Int32) (u : (Nat → Int32) × (Nat → Nat → Int32) × (Nat → Nat → Int64)) => (0 ≤ (u.1 1).toInt) ∧ ((u.1 1).toInt ≤ 5) ∧ (0 ≤ (u.1 2).toInt) ∧ ((u.1 2).toInt ≤ 6) ∧ (0 ≤ (u.1 5).toInt) ∧ ((u.1 5).toInt ≤ 400) ∧ (0 ≤ (u.1 6).toInt) ∧ ((u.1 6).toInt ≤ 6) ∧ (0 ≤ (u.1 11).toInt) ∧ ((u.1 11).toInt ≤ 4) ∧ ((r = (-1) ∧ 381 ≤ (mi 5).toInt ∧ (u.1 5).toInt = (mi 5).toInt) ∨ ((mi 5).toInt ≤ 380 ∧ (u.1 5).toInt = (mi 5).toInt + 20 ∧ r.toInt = (mi 5).toInt + 20))) (fun u => QW D cI cJ A ((fun (u : (Nat → Int32) × (Nat → Nat → Int32) × (Nat → Nat → Int64)) => (WZ_Mfeed cI cJ ad mv mr u.1 u.2.1 u.2.2)) u)) A) (by decide) (Nat.le_of_ble_eq_true rfl) ?_
  intro p e s m below meth c A ls E hr hlk hnm hX hw1 hl2
  have hl3 : lv_has ls 6 [(0, .ref (mr 0)), (1, .int z_a), (2, .int z_b), (3, .int z_c), (4, .int z_d), (5, .int z_e)] := hl2
  refine lv_aload_n (pc := 0) E.1 E.2.1 dX11_feed_0 rfl (lv_at hl3 0 rfl) ?_
  refine x_get (pc := 1) (T := TX11) (N := 13) (ci := 11) (v := .ref (mr 3)) E hw1 inX11 0 2 q_608 rfl rfl (by decide) rfl rfl dX11_feed_1 ?_
  refine x_get (pc := 4) (T := TX8) (N := 9) (ci := 8) (v := .int (mi 5)) E hw1 inX8 1 1 q_539 rfl rfl (by decide) rfl rfl dX11_feed_4 ?_
  refine lv_bipush (pc := 7) (v := 20) E.1 E.2.1 dX11_feed_7 (by decide +kernel) ?_
  refine lv_iadd (pc := 9) E.1 E.2.1 dX11_feed_9 ?_
  refine lv_topi (fun v_4 ev_4 => ?_)
  have hv_4 : v_4.toInt = (mi 5).toInt + 20 := by rw [ev_4]; exact addE rfl (by decide +kernel) (by omega)
  refine lv_sipush (pc := 10) (v := 400) E.1 E.2.1 dX11_feed_10 (by decide +kernel) ?_
  refine lv_icmp_le (pc := 13) (tgt := 18) E.1 E.2.1 dX11_feed_13 (by decide) (fun c_5 => ?_) (fun c_5 => ?_)
  · skip
    have hc_5 := leE (a := v_4.toInt) (b := 400) rfl (by decide +kernel) c_5
    refine lv_aload_n (pc := 18) E.1 E.2.1 dX11_feed_18 rfl (lv_at hl3 0 rfl) ?_
    refine x_get (pc := 19) (T := TX11) (N := 13) (ci := 11) (v := .ref (mr 3)) E hw1 inX11 0 2 q_608 rfl rfl (by decide) rfl rfl dX11_feed_19 ?_
    refine lv_iload_n (pc := 22) E.1 E.2.1 dX11_feed_22 rfl (lv_at hl3 1 rfl) ?_
    refine ck_v (pc := 23) (ws' := (fun (u : (Nat → Int32) × Int32) => (WZ_Mfeed cI cJ ad mv mr (upd mi 5 u.2) (va_up mf 4 u.1) mg))) [false, true, true] hw1 rfl (fun hC_ => (rn_V (As := [.int z_a]) (rest := []) E hw1 (t_append l D cI cJ _ (shf 3 mr) (shf 3 mi) (shf 3 mf) (shf 3 mg) z_a ad h2.1 (by show (mi 5).toInt ≤ 396; omega)) (gdV q_698 q_699 q_700 q_160 q_701) hdV_X8_append ⟨rfl, rfl⟩ ⟨(Nat.le_of_ble_eq_true rfl), (Nat.le_of_ble_eq_true rfl)⟩ ⟨(Nat.le_of_ble_eq_true rfl), (Nat.le_of_ble_eq_true rfl)⟩ xT_b xT_at 1 8 rfl rfl rfl _ hC_ (nd_T _ 0) rfl hl3.1 rfl (Nat.le_of_ble_eq_true rfl) dX11_feed_23)) rfl (fun _ => rfl) (fun _ => rfl) (fun u_6 H1 locs hp hw8 => ?_)
    obtain ⟨gsigns_9, nsize_10⟩ := u_6
    generalize H1 = H at hw8 ⊢
    have hw11 : WD D A s.heap (WZ_Mfeed cI cJ ad mv mr (upd mi 5 nsize_10) (va_up mf 4 gsigns_9) mg) H locs := hw8
    have hp_12 := hp
    have hp_12 : nsize_10.toInt = (mi 5).toInt + 4 := hp_12
    refine lv_aload_n (pc := 26) E.1 E.2.1 dX11_feed_26 rfl (lv_at hl3 0 rfl) ?_
    refine x_get (pc := 27) (T := TX11) (N := 13) (ci := 11) (v := .ref (mr 3)) E hw11 inX11 0 2 q_608 rfl rfl (by decide) rfl rfl dX11_feed_27 ?_
    refine lv_iload_n (pc := 30) E.1 E.2.1 dX11_feed_30 rfl (lv_at hl3 2 rfl) ?_
    refine ck_v (pc := 31) (ws' := (fun (u : (Nat → Int32) × Int32) => (WZ_Mfeed cI cJ ad mv mr (upd mi 5 u.2) (va_up mf 4 u.1) mg))) [false, true, true] hw11 rfl (fun hC_ => (rn_V (As := [.int z_b]) (rest := []) E hw11 (t_append l D cI cJ _ (shf 3 mr) (shf 3 (upd mi 5 nsize_10)) (shf 3 (va_up mf 4 gsigns_9)) (shf 3 mg) z_b ad (by show 0 ≤ nsize_10.toInt; omega) (by show nsize_10.toInt ≤ 396; omega)) (gdV q_698 q_699 q_700 q_160 q_701) hdV_X8_append ⟨rfl, rfl⟩ ⟨(Nat.le_of_ble_eq_true rfl), (Nat.le_of_ble_eq_true rfl)⟩ ⟨(Nat.le_of_ble_eq_true rfl), (Nat.le_of_ble_eq_true rfl)⟩ xT_b xT_at 1 8 rfl rfl rfl _ hC_ (nd_T _ 0) rfl hl3.1 rfl (Nat.le_of_ble_eq_true rfl) dX11_feed_31)) rfl (fun _ => rfl) (fun _ => rfl) (fun u_13 H1 locs hp hw15 => ?_)
    obtain ⟨gsigns_16, nsize_17⟩ := u_13
    generalize H1 = H at hw15 ⊢
    have hw18 : WD D A s.heap (WZ_Mfeed cI cJ ad mv mr (upd mi 5 nsize_17) (va_up mf 4 gsigns_16) mg) H locs := hw15
    have hp_19 := hp
    have hp_19 : nsize_17.toInt = nsize_10.toInt + 4 := hp_19
    refine lv_aload_n (pc := 34) E.1 E.2.1 dX11_feed_34 rfl (lv_at hl3 0 rfl) ?_
    refine x_get (pc := 35) (T := TX11) (N := 13) (ci := 11) (v := .ref (mr 3)) E hw18 inX11 0 2 q_608 rfl rfl (by decide) rfl rfl dX11_feed_35 ?_
    refine lv_iload_n (pc := 38) E.1 E.2.1 dX11_feed_38 rfl (lv_at hl3 3 rfl) ?_
    refine ck_v (pc := 39) (ws' := (fun (u : (Nat → Int32) × Int32) => (WZ_Mfeed cI cJ ad mv mr (upd mi 5 u.2) (va_up mf 4 u.1) mg))) [false, true, true] hw18 rfl (fun hC_ => (rn_V (As := [.int z_c]) (rest := []) E hw18 (t_append l D cI cJ _ (shf 3 mr) (shf 3 (upd mi 5 nsize_17)) (shf 3 (va_up mf 4 gsigns_16)) (shf 3 mg) z_c ad (by show 0 ≤ nsize_17.toInt; omega) (by show nsize_17.toInt ≤ 396; omega)) (gdV q_698 q_699 q_700 q_160 q_701) hdV_X8_append ⟨rfl, rfl⟩ ⟨(Nat.le_of_ble_eq_true rfl), (Nat.le_of_ble_eq_true rfl)⟩ ⟨(Nat.le_of_ble_eq_true rfl), (Nat.le_of_ble_eq_true rfl)⟩ xT_b xT_at 1 8 rfl rfl rfl _ hC_ (nd_T _ 0) rfl hl3.1 rfl (Nat.le_of_ble_eq_true rfl) dX11_feed_39)) rfl (fun _ => rfl) (fun _ => rfl) (fun u_20 H1 locs hp hw22 => ?_)
    obtain ⟨gsigns_23, nsize_24⟩ := u_20
    generalize H1 = H at hw22 ⊢
    have hw25 : WD D A s.heap (WZ_Mfeed cI cJ ad mv mr (upd mi 5 nsize_24) (va_up mf 4 gsigns_23) mg) H locs := hw22
    have hp_26 := hp
    have hp_26 : nsize_24.toInt = nsize_17.toInt + 4 := hp_26
    refine lv_aload_n (pc := 42) E.1 E.2.1 dX11_feed_42 rfl (lv_at hl3 0 rfl) ?_
    refine x_get (pc := 43) (T := TX11) (N := 13) (ci := 11) (v := .ref (mr 3)) E hw25 inX11 0 2 q_608 rfl rfl (by decide) rfl rfl dX11_feed_43 ?_
    refine lv_iload (pc := 46) E.1 E.2.1 dX11_feed_46 (lv_at hl3 4 rfl) ?_
    refine ck_v (pc := 48) (ws' := (fun (u : (Nat → Int32) × Int32) => (WZ_Mfeed cI cJ ad mv mr (upd mi 5 u.2) (va_up mf 4 u.1) mg))) [false, true, true] hw25 rfl (fun hC_ => (rn_V (As := [.int z_d]) (rest := []) E hw25 (t_append l D cI cJ _ (shf 3 mr) (shf 3 (upd mi 5 nsize_24)) (shf 3 (va_up mf 4 gsigns_23)) (shf 3 mg) z_d ad (by show 0 ≤ nsize_24.toInt; omega) (by show nsize_24.toInt ≤ 396; omega)) (gdV q_698 q_699 q_700 q_160 q_701) hdV_X8_append ⟨rfl, rfl⟩ ⟨(Nat.le_of_ble_eq_true rfl), (Nat.le_of_ble_eq_true rfl)⟩ ⟨(Nat.le_of_ble_eq_true rfl), (Nat.le_of_ble_eq_true rfl)⟩ xT_b xT_at 1 8 rfl rfl rfl _ hC_ (nd_T _ 0) rfl hl3.1 rfl (Nat.le_of_ble_eq_true rfl) dX11_feed_48)) rfl (fun _ => rfl) (fun _ => rfl) (fun u_27 H1 locs hp hw29 => ?_)
    obtain ⟨gsigns_30, nsize_31⟩ := u_27
    generalize H1 = H at hw29 ⊢
    have hw32 : WD D A s.heap (WZ_Mfeed cI cJ ad mv mr (upd mi 5 nsize_31) (va_up mf 4 gsigns_30) mg) H locs := hw29
    have hp_33 := hp
    have hp_33 : nsize_31.toInt = nsize_24.toInt + 4 := hp_33
    refine lv_aload_n (pc := 51) E.1 E.2.1 dX11_feed_51 rfl (lv_at hl3 0 rfl) ?_
    refine x_get (pc := 52) (T := TX11) (N := 13) (ci := 11) (v := .ref (mr 3)) E hw32 inX11 0 2 q_608 rfl rfl (by decide) rfl rfl dX11_feed_52 ?_
    refine lv_iload (pc := 55) E.1 E.2.1 dX11_feed_55 (lv_at hl3 5 rfl) ?_
    refine ck_v (pc := 57) (ws' := (fun (u : (Nat → Int32) × Int32) => (WZ_Mfeed cI cJ ad mv mr (upd mi 5 u.2) (va_up mf 4 u.1) mg))) [false, true, true] hw32 rfl (fun hC_ => (rn_V (As := [.int z_e]) (rest := []) E hw32 (t_append l D cI cJ _ (shf 3 mr) (shf 3 (upd mi 5 nsize_31)) (shf 3 (va_up mf 4 gsigns_30)) (shf 3 mg) z_e ad (by show 0 ≤ nsize_31.toInt; omega) (by show nsize_31.toInt ≤ 396; omega)) (gdV q_698 q_699 q_700 q_160 q_701) hdV_X8_append ⟨rfl, rfl⟩ ⟨(Nat.le_of_ble_eq_true rfl), (Nat.le_of_ble_eq_true rfl)⟩ ⟨(Nat.le_of_ble_eq_true rfl), (Nat.le_of_ble_eq_true rfl)⟩ xT_b xT_at 1 8 rfl rfl rfl _ hC_ (nd_T _ 0) rfl hl3.1 rfl (Nat.le_of_ble_eq_true rfl) dX11_feed_57)) rfl (fun _ => rfl) (fun _ => rfl) (fun u_34 H1 locs hp hw36 => ?_)
    obtain ⟨gsigns_37, nsize_38⟩ := u_34
    generalize H1 = H at hw36 ⊢
    have hw39 : WD D A s.heap (WZ_Mfeed cI cJ ad mv mr (upd mi 5 nsize_38) (va_up mf 4 gsigns_37) mg) H locs := hw36
    have hp_40 := hp
    have hp_40 : nsize_38.toInt = nsize_31.toInt + 4 := hp_40
    refine lv_aload_n (pc := 60) E.1 E.2.1 dX11_feed_60 rfl (lv_at hl3 0 rfl) ?_
    refine x_get (pc := 61) (T := TX11) (N := 13) (ci := 11) (v := .ref (mr 3)) E hw39 inX11 0 2 q_608 rfl rfl (by decide) rfl rfl dX11_feed_61 ?_
    refine x_get (pc := 64) (T := TX8) (N := 9) (ci := 8) (v := .int nsize_38) E hw39 inX8 1 1 q_539 rfl rfl (by decide) rfl rfl dX11_feed_64 ?_
    exact em_i (w1 := (fun (u : (Nat → Int32) × (Nat → Nat → Int32) × (Nat → Nat → Int64)) => (WZ_Mfeed cI cJ ad mv mr u.1 u.2.1 u.2.2))) E hr hlk ((upd mi 5 nsize_38), (va_up mf 4 gsigns_37), mg) hw39 ⟨h0.1, h0.2, h1.1, h1.2, (by show 0 ≤ nsize_38.toInt; omega), (by show nsize_38.toInt ≤ 400; omega), h3.1, h3.2, h4.1, h4.2, (Or.inr (⟨(by show (mi 5).toInt ≤ 380; omega), (by show nsize_38.toInt = (mi 5).toInt + 20; omega), (by show nsize_38.toInt = (mi 5).toInt + 20; omega)⟩))⟩ (Nat.le_of_ble_eq_true rfl) (Nat.le_of_ble_eq_true rfl) dX11_feed_67
  · skip
    have hc_5 := nleE (a := v_4.toInt) (b := 400) rfl (by decide +kernel) c_5
    refine lv_iconst (pc := 16) (v := (-1)) E.1 E.2.1 dX11_feed_16 (by decide +kernel) ?_
    exact em_i (w1 := (fun (u : (Nat → Int32) × (Nat → Nat → Int32) × (Nat → Nat → Int64)) => (WZ_Mfeed cI cJ ad mv mr u.1 u.2.1 u.2.2))) E hr hlk (mi, mf, mg) hw1 ⟨h0.1, h0.2, h1.1, h1.2, h2.1, h2.2, h3.1, h3.2, h4.1, h4.2, (Or.inl ⟨rfl, (by show 381 ≤ (mi 5).toInt; omega), rfl⟩)⟩ (Nat.le_of_ble_eq_true rfl) (Nat.le_of_ble_eq_true rfl) dX11_feed_17
set_option maxHeartbeats 4000000 in
set_option maxRecDepth 100000 in
theorem t_end (l : Launch) (D : va_G) (cI cJ : ClassId) (sz : Nat) (mr : Nat → Nat) (mi : Nat → Int32) (mf : Nat → Nat → Int32) (mg : Nat → Nat → Int64) (z_n : Int32) (ad : Nat → Nat) (mv : Nat → Value) (h0 : 0 ≤ (mi 1).toInt ∧ (mi 1).toInt ≤ 5) (h1 : 0 ≤ (mi 2).toInt ∧ (mi 2).toInt ≤ 6) (h2 : 0 ≤ (mi 5).toInt ∧ (mi 5).toInt ≤ 400) (h3 : 0 ≤ (mi 6).toInt ∧ (mi 6).toInt ≤ 6) (h4 : 0 ≤ (mi 11).toInt ∧ (mi 11).toInt ≤ 4) : Met l yX11_end (Cond.code yX11_end cX11_end 2 (some .boolean) :: GW) ({ frames := 11, cells := 0, slots := 0, locals := 263 } : Room) (va_Pc [.ref (mr 0), .int z_n] (PW D cI cJ sz (WZ_Mfeed cI cJ ad mv mr mi mf mg) xT)) (va_Qi (fun (r : Int32) (u : (Nat → Int32) × (Nat → Nat → Int32) × (Nat → Nat → Int64)) => (0 ≤ (u.1 1).toInt) ∧ ((u.1 1).toInt ≤ 5) ∧ (0 ≤ (u.1 2).toInt) ∧ ((u.1 2).toInt ≤ 6) ∧ (0 ≤ (u.1 5).toInt) ∧ ((u.1 5).toInt ≤ 400) ∧ (0 ≤ (u.1 6).toInt) ∧ ((u.1 6).toInt ≤ 6) ∧ (0 ≤ (u.1 11).toInt) ∧ ((u.1 11).toInt ≤ 4) ∧ ((r = 0 ∧ z_n.toInt ≤ (-1) ∧ (u.1 5).toInt = (mi 5).toInt) ∨ (r = 0 ∧ (mi 5).toInt + 1 ≤ z_n.toInt ∧ (u.1 5).toInt = (mi 5).toInt) ∨ (r = 1 ∧ 0 ≤ z_n.toInt ∧ z_n.toInt ≤ (mi 5).toInt ∧ (u.1 5).toInt = z_n.toInt))) (fun u => QW D cI cJ (va_A (WZ_Mfeed cI cJ ad mv mr mi mf mg) sz) ((fun (u : (Nat → Int32) × (Nat → Nat → Int32) × (Nat → Nat → Int64)) => (WZ_Mfeed cI cJ ad mv mr u.1 u.2.1 u.2.2)) u)) (va_A (WZ_Mfeed cI cJ ad mv mr mi mf mg) sz)) 0 0 (va_A (WZ_Mfeed cI cJ ad mv mr mi mf mg) sz) := by
  refine mk_met (y := yX11_end) (bytes := cX11_end) (maxL := 2) (avs := [.ref (mr 0), .int z_n]) (WS := (WZ_Mfeed cI cJ ad mv mr mi mf mg)) (Qf := fun A => va_Qi (fun (r : Int32) (u : (Nat → Int32) × (Nat → Nat → Int32) × (Nat → Nat → Int64)) => (0 ≤ (u.1 1).toInt) ∧ ((u.1 1).toInt ≤ 5) ∧ (0 ≤ (u.1 2).toInt) ∧ ((u.1 2).toInt ≤ 6) ∧ (0 ≤ (u.1 5).toInt) ∧ ((u.1 5).toInt ≤ 400) ∧ (0 ≤ (u.1 6).toInt) ∧ ((u.1 6).toInt ≤ 6) ∧ (0 ≤ (u.1 11).toInt) ∧ ((u.1 11).toInt ≤ 4) ∧ ((r = 0 ∧ z_n.toInt ≤ (-1) ∧ (u.1 5).toInt = (mi 5).toInt) ∨ (r = 0 ∧ (mi 5).toInt + 1 ≤ z_n.toInt ∧ (u.1 5).toInt = (mi 5).toInt) ∨ (r = 1 ∧ 0 ≤ z_n.toInt ∧ z_n.toInt ≤ (mi 5).toInt ∧ (u.1 5).toInt = z_n.toInt))) (fun u => QW D cI cJ A ((fun (u : (Nat → Int32) × (Nat → Nat → Int32) × (Nat → Nat → Int64)) => (WZ_Mfeed cI cJ ad mv mr u.1 u.2.1 u.2.2)) u)) A) (by decide) (Nat.le_of_ble_eq_true rfl) ?_
  intro p e s m below meth c A ls E hr hlk hnm hX hw1 hl2
  have hl3 : lv_has ls 2 [(0, .ref (mr 0)), (1, .int z_n)] := hl2
  refine lv_iload_n (pc := 0) E.1 E.2.1 dX11_end_0 rfl (lv_at hl3 1 rfl) ?_
  refine lv_if_lt (pc := 1) (tgt := 15) E.1 E.2.1 dX11_end_1 (by decide) (fun c_4 => ?_) (fun c_4 => ?_)
  · skip
    have hc_4 := ltE (a := z_n.toInt) (b := 0) rfl (by decide +kernel) c_4
    refine lv_iconst (pc := 15) (v := 0) E.1 E.2.1 dX11_end_15 (by decide +kernel) ?_
    exact em_z (w1 := (fun (u : (Nat → Int32) × (Nat → Nat → Int32) × (Nat → Nat → Int64)) => (WZ_Mfeed cI cJ ad mv mr u.1 u.2.1 u.2.2))) E hr hlk (mi, mf, mg) hw1 ⟨h0.1, h0.2, h1.1, h1.2, h2.1, h2.2, h3.1, h3.2, h4.1, h4.2, (Or.inl ⟨rfl, (by show z_n.toInt ≤ (-1); omega), rfl⟩)⟩ (by decide +kernel) (Nat.le_of_ble_eq_true rfl) (Nat.le_of_ble_eq_true rfl) dX11_end_16
  · skip
    have hc_4 := nltE (a := z_n.toInt) (b := 0) rfl (by decide +kernel) c_4
    refine lv_iload_n (pc := 4) E.1 E.2.1 dX11_end_4 rfl (lv_at hl3 1 rfl) ?_
    refine lv_aload_n (pc := 5) E.1 E.2.1 dX11_end_5 rfl (lv_at hl3 0 rfl) ?_
    refine x_get (pc := 6) (T := TX11) (N := 13) (ci := 11) (v := .ref (mr 3)) E hw1 inX11 0 2 q_608 rfl rfl (by decide) rfl rfl dX11_end_6 ?_
    refine x_get (pc := 9) (T := TX8) (N := 9) (ci := 8) (v := .int (mi 5)) E hw1 inX8 1 1 q_539 rfl rfl (by decide) rfl rfl dX11_end_9 ?_
    refine lv_icmp_le (pc := 12) (tgt := 17) E.1 E.2.1 dX11_end_12 (by decide) (fun c_5 => ?_) (fun c_5 => ?_)
    · skip
      have hc_5 := leE (a := z_n.toInt) (b := (mi 5).toInt) rfl rfl c_5
      refine lv_aload_n (pc := 17) E.1 E.2.1 dX11_end_17 rfl (lv_at hl3 0 rfl) ?_
      refine x_get (pc := 18) (T := TX11) (N := 13) (ci := 11) (v := .ref (mr 3)) E hw1 inX11 0 2 q_608 rfl rfl (by decide) rfl rfl dX11_end_18 ?_
      refine lv_iload_n (pc := 21) E.1 E.2.1 dX11_end_21 rfl (lv_at hl3 1 rfl) ?_
      refine x_put (pc := 22) (T := TX8) (N := 9) (ci := 8) (ws' := (WZ_Mfeed cI cJ ad mv mr (upd mi 5 z_n) mf mg)) E hw1 inX8 tyX8_ok nmX8 1 1 q_539 rfl rfl (by decide) rfl rfl rfl rfl (Nat.le_of_ble_eq_true rfl) rfl dX11_end_22 (fun H locs hw6 => ?_)
      refine lv_iconst (pc := 25) (v := 1) E.1 E.2.1 dX11_end_25 (by decide +kernel) ?_
      exact em_z (w1 := (fun (u : (Nat → Int32) × (Nat → Nat → Int32) × (Nat → Nat → Int64)) => (WZ_Mfeed cI cJ ad mv mr u.1 u.2.1 u.2.2))) E hr hlk ((upd mi 5 z_n), mf, mg) hw6 ⟨h0.1, h0.2, h1.1, h1.2, (by show 0 ≤ z_n.toInt; have k_0 : (1 : Int32).toInt = 1 := (by decide +kernel); omega), (by show z_n.toInt ≤ 400; have k_0 : (1 : Int32).toInt = 1 := (by decide +kernel); omega), h3.1, h3.2, h4.1, h4.2, (Or.inr (Or.inr (⟨rfl, (by show 0 ≤ z_n.toInt; omega), (by show z_n.toInt ≤ (mi 5).toInt; omega), rfl⟩)))⟩ (by decide +kernel) (Nat.le_of_ble_eq_true rfl) (Nat.le_of_ble_eq_true rfl) dX11_end_26
    · skip
      have hc_5 := nleE (a := z_n.toInt) (b := (mi 5).toInt) rfl rfl c_5
      refine lv_iconst (pc := 15) (v := 0) E.1 E.2.1 dX11_end_15 (by decide +kernel) ?_
      exact em_z (w1 := (fun (u : (Nat → Int32) × (Nat → Nat → Int32) × (Nat → Nat → Int64)) => (WZ_Mfeed cI cJ ad mv mr u.1 u.2.1 u.2.2))) E hr hlk (mi, mf, mg) hw1 ⟨h0.1, h0.2, h1.1, h1.2, h2.1, h2.2, h3.1, h3.2, h4.1, h4.2, (Or.inr (Or.inl ⟨rfl, (by show (mi 5).toInt + 1 ≤ z_n.toInt; omega), rfl⟩))⟩ (by decide +kernel) (Nat.le_of_ble_eq_true rfl) (Nat.le_of_ble_eq_true rfl) dX11_end_16
set_option maxHeartbeats 4000000 in
set_option maxRecDepth 100000 in
theorem t_fault (l : Launch) (D : va_G) (cI cJ : ClassId) (sz : Nat) (mr : Nat → Nat) (mi : Nat → Int32) (mf : Nat → Nat → Int32) (mg : Nat → Nat → Int64) (z_what : Int32) (ad : Nat → Nat) (mv : Nat → Value) (h0 : 0 ≤ (mi 1).toInt ∧ (mi 1).toInt ≤ 5) (h1 : 0 ≤ (mi 2).toInt ∧ (mi 2).toInt ≤ 6) (h2 : 0 ≤ (mi 5).toInt ∧ (mi 5).toInt ≤ 400) (h3 : 0 ≤ (mi 6).toInt ∧ (mi 6).toInt ≤ 6) (h4 : 0 ≤ (mi 11).toInt ∧ (mi 11).toInt ≤ 4) : Met l yX11_fault (Cond.code yX11_fault cX11_fault 2 (some .int) :: GW) ({ frames := 11, cells := 0, slots := 0, locals := 263 } : Room) (va_Pc [.ref (mr 0), .int z_what] (PW D cI cJ sz (WZ_Mfeed cI cJ ad mv mr mi mf mg) xT)) (va_Qi (fun (r : Int32) (u : (Nat → Int32) × (Nat → Nat → Int32) × (Nat → Nat → Int64)) => (0 ≤ (u.1 1).toInt) ∧ ((u.1 1).toInt ≤ 5) ∧ (0 ≤ (u.1 2).toInt) ∧ ((u.1 2).toInt ≤ 6) ∧ (0 ≤ (u.1 5).toInt) ∧ ((u.1 5).toInt ≤ 400) ∧ (0 ≤ (u.1 6).toInt) ∧ ((u.1 6).toInt ≤ 6) ∧ (0 ≤ (u.1 11).toInt) ∧ ((u.1 11).toInt ≤ 4) ∧ ((u.1 5).toInt = (mi 5).toInt)) (fun u => QW D cI cJ (va_A (WZ_Mfeed cI cJ ad mv mr mi mf mg) sz) ((fun (u : (Nat → Int32) × (Nat → Nat → Int32) × (Nat → Nat → Int64)) => (WZ_Mfeed cI cJ ad mv mr u.1 u.2.1 u.2.2)) u)) (va_A (WZ_Mfeed cI cJ ad mv mr mi mf mg) sz)) 0 0 (va_A (WZ_Mfeed cI cJ ad mv mr mi mf mg) sz) := by
  refine mk_met (y := yX11_fault) (bytes := cX11_fault) (maxL := 2) (avs := [.ref (mr 0), .int z_what]) (WS := (WZ_Mfeed cI cJ ad mv mr mi mf mg)) (Qf := fun A => va_Qi (fun (r : Int32) (u : (Nat → Int32) × (Nat → Nat → Int32) × (Nat → Nat → Int64)) => (0 ≤ (u.1 1).toInt) ∧ ((u.1 1).toInt ≤ 5) ∧ (0 ≤ (u.1 2).toInt) ∧ ((u.1 2).toInt ≤ 6) ∧ (0 ≤ (u.1 5).toInt) ∧ ((u.1 5).toInt ≤ 400) ∧ (0 ≤ (u.1 6).toInt) ∧ ((u.1 6).toInt ≤ 6) ∧ (0 ≤ (u.1 11).toInt) ∧ ((u.1 11).toInt ≤ 4) ∧ ((u.1 5).toInt = (mi 5).toInt)) (fun u => QW D cI cJ A ((fun (u : (Nat → Int32) × (Nat → Nat → Int32) × (Nat → Nat → Int64)) => (WZ_Mfeed cI cJ ad mv mr u.1 u.2.1 u.2.2)) u)) A) (by decide) (Nat.le_of_ble_eq_true rfl) ?_
  intro p e s m below meth c A ls E hr hlk hnm hX hw1 hl2
  have hl3 : lv_has ls 2 [(0, .ref (mr 0)), (1, .int z_what)] := hl2
  refine lv_iload_n (pc := 0) E.1 E.2.1 dX11_fault_0 rfl (lv_at hl3 1 rfl) ?_
  refine lv_if_ne (pc := 1) (tgt := 12) E.1 E.2.1 dX11_fault_1 (by decide) (fun c_4 => ?_) (fun c_4 => ?_)
  · skip
    have hc_4 := neE (a := z_what.toInt) (b := 0) rfl (by decide +kernel) c_4
    refine lv_iload_n (pc := 12) E.1 E.2.1 dX11_fault_12 rfl (lv_at hl3 1 rfl) ?_
    refine lv_iconst (pc := 13) (v := 1) E.1 E.2.1 dX11_fault_13 (by decide +kernel) ?_
    refine lv_icmp_ne (pc := 14) (tgt := 27) E.1 E.2.1 dX11_fault_14 (by decide) (fun c_5 => ?_) (fun c_5 => ?_)
    · skip
      have hc_5 := neE (a := z_what.toInt) (b := 1) rfl (by decide +kernel) c_5
      refine lv_iconst (pc := 27) (v := (-1)) E.1 E.2.1 dX11_fault_27 (by decide +kernel) ?_
      exact em_i (w1 := (fun (u : (Nat → Int32) × (Nat → Nat → Int32) × (Nat → Nat → Int64)) => (WZ_Mfeed cI cJ ad mv mr u.1 u.2.1 u.2.2))) E hr hlk (mi, mf, mg) hw1 ⟨h0.1, h0.2, h1.1, h1.2, h2.1, h2.2, h3.1, h3.2, h4.1, h4.2, rfl⟩ (Nat.le_of_ble_eq_true rfl) (Nat.le_of_ble_eq_true rfl) dX11_fault_28
    · skip
      have hc_5 := eqE (a := z_what.toInt) (b := 1) rfl (by decide +kernel) c_5
      refine lv_aload_n (pc := 17) E.1 E.2.1 dX11_fault_17 rfl (lv_at hl3 0 rfl) ?_
      refine x_get (pc := 18) (T := TX11) (N := 13) (ci := 11) (v := .ref (mr 3)) E hw1 inX11 0 2 q_608 rfl rfl (by decide) rfl rfl dX11_fault_18 ?_
      refine x_get (pc := 21) (T := TX8) (N := 9) (ci := 8) (v := .int (mi 12)) E hw1 inX8 1 8 q_557 rfl rfl (by decide) rfl rfl dX11_fault_21 ?_
      refine lv_goto (pc := 24) (tgt := 28) E.1 E.2.1 dX11_fault_24 (by decide) ?_
      exact em_i (w1 := (fun (u : (Nat → Int32) × (Nat → Nat → Int32) × (Nat → Nat → Int64)) => (WZ_Mfeed cI cJ ad mv mr u.1 u.2.1 u.2.2))) E hr hlk (mi, mf, mg) hw1 ⟨h0.1, h0.2, h1.1, h1.2, h2.1, h2.2, h3.1, h3.2, h4.1, h4.2, rfl⟩ (Nat.le_of_ble_eq_true rfl) (Nat.le_of_ble_eq_true rfl) dX11_fault_28
  · skip
    have hc_4 := eqE (a := z_what.toInt) (b := 0) rfl (by decide +kernel) c_4
    refine lv_aload_n (pc := 4) E.1 E.2.1 dX11_fault_4 rfl (lv_at hl3 0 rfl) ?_
    refine x_get (pc := 5) (T := TX11) (N := 13) (ci := 11) (v := .ref (mr 3)) E hw1 inX11 0 2 q_608 rfl rfl (by decide) rfl rfl dX11_fault_5 ?_
    refine x_get (pc := 8) (T := TX8) (N := 9) (ci := 8) (v := .int (mi 11)) E hw1 inX8 1 7 q_555 rfl rfl (by decide) rfl rfl dX11_fault_8 ?_
    exact em_i (w1 := (fun (u : (Nat → Int32) × (Nat → Nat → Int32) × (Nat → Nat → Int64)) => (WZ_Mfeed cI cJ ad mv mr u.1 u.2.1 u.2.2))) E hr hlk (mi, mf, mg) hw1 ⟨h0.1, h0.2, h1.1, h1.2, h2.1, h2.2, h3.1, h3.2, h4.1, h4.2, rfl⟩ (Nat.le_of_ble_eq_true rfl) (Nat.le_of_ble_eq_true rfl) dX11_fault_11
