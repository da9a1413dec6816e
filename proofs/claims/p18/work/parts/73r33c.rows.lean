theorem tcEax73r33c_ {x y : Int32} (h : x.toInt = y.toInt) : x.toNatClampNeg = y.toNatClampNeg := by rw [Int32.toInt_inj.mp h]
theorem ax73r33c_0 {x0 x1 : Int} (h0 : x0 = x1 + 0) (h1 : 160 ≤ x1 ∧ x1 ≤ 316) : 0 ≤ x0 ∧ x0 < ((320 : Nat) : Int) := by omega
theorem ax73r33c_1 {x0 : Int} (h0 : 160 ≤ x0 ∧ x0 ≤ 316) : -2147483648 ≤ x0 + 0 ∧ x0 + 0 ≤ 2147483647 := by omega
theorem ax73r33c_2 {x0 x1 x2 : Int} (h0 : x0 = x1 + 0) (h1 : x2 = x1 + 0) : x2 = x0 := by omega
theorem ax73r33c_3 {x0 : Int} (h0 : x0 = -1) : x0 = (-1) := by omega
theorem ax73r33c_4 {x0 x1 : Int} (h0 : x0 = x1) (h1 : 0 ≤ x1) : ¬ x0 = (-1) := by omega
theorem ax73r33c_5 {x0 : Int} (h0 : 160 ≤ x0 ∧ x0 ≤ 316) : -2147483648 ≤ x0 + 1 ∧ x0 + 1 ≤ 2147483647 := by omega
theorem ax73r33c_6 {x0 : Int} (h0 : 0 ≤ x0 ∧ x0 ≤ 10) : -2147483648 ≤ x0 - 1 ∧ x0 - 1 ≤ 2147483647 := by omega
theorem ax73r33c_7 {x0 x1 : Int} (h0 : x0 = x1 + 1) (h1 : 160 ≤ x1 ∧ x1 ≤ 316) : 0 ≤ x0 ∧ x0 < ((320 : Nat) : Int) := by omega
theorem ax73r33c_8 {x0 x1 x2 : Int} (h0 : x0 = x1 + 1) (h1 : x2 = x1 + 1) : x2 = x0 := by omega
theorem ax73r33c_9 {x0 : Int} (h0 : 160 ≤ x0 ∧ x0 ≤ 316) : -2147483648 ≤ x0 + 2 ∧ x0 + 2 ≤ 2147483647 := by omega
theorem ax73r33c_10 {x0 x1 : Int} (h0 : x0 = x1 + 2) (h1 : 160 ≤ x1 ∧ x1 ≤ 316) : 0 ≤ x0 ∧ x0 < ((320 : Nat) : Int) := by omega
theorem ax73r33c_11 {x0 x1 x2 : Int} (h0 : x0 = x1 + 2) (h1 : x2 = x1 + 2) : x2 = x0 := by omega
theorem ax73r33c_12 {x0 x1 : Int} (h0 : x0 = x1) (h1 : 1 ≤ x1) : ¬ x0 = (-1) := by omega
theorem ax73r33c_13 {x0 : Int} (h0 : 160 ≤ x0 ∧ x0 ≤ 316) : -2147483648 ≤ x0 + 3 ∧ x0 + 3 ≤ 2147483647 := by omega
theorem ax73r33c_14 {x0 x1 : Int} (h0 : x0 = x1 + 3) (h1 : 160 ≤ x1 ∧ x1 ≤ 316) : 0 ≤ x0 ∧ x0 < ((320 : Nat) : Int) := by omega
theorem ax73r33c_15 {x0 x1 : Int} (h0 : x0 ≤ x1) (h1 : 0 ≤ x0) : 0 ≤ x1 := by omega
theorem ax73r33c_16 {x0 x1 x2 : Int} (h0 : x0 = x1 + 3) (h1 : x2 = x1 + 3) : x2 = x0 := by omega
theorem ax73r33c_17 {x0 x1 x2 x3 x4 x5 x6 : Int} (h0 : x0 + 1 ≤ x1) (h1 : x2 + 1 ≤ x3) (h2 : x1 + 1 ≤ x4) (h3 : x5 + 1 ≤ x2) (h4 : x4 + 1 ≤ x6) (h5 : x6 + 1 ≤ x5) : x0 + 1 ≤ x3 := by omega
theorem ax73r33c_18 {x0 : Int} (h0 : 0 ≤ x0) (h1 : x0 ≤ 40) : -2147483648 ≤ 4 * x0 ∧ 4 * x0 ≤ 2147483647 := by omega
theorem ax73r33c_19 {x0 x1 : Int} (h0 : x0 = 4 * x1) (h1 : 0 ≤ x1) (h2 : x1 ≤ 40) : -2147483648 ≤ 160 + x0 ∧ 160 + x0 ≤ 2147483647 := by omega
theorem ax73r33c_20 {x0 : Int} (h0 : 0 ≤ x0) (h1 : x0 ≤ 40) : -2147483648 ≤ x0 + 1 ∧ x0 + 1 ≤ 2147483647 := by omega
theorem ax73r33c_21 {x0 x1 : Int} (h0 : x0 = x1 + 1) (h1 : 0 ≤ x1) : 0 ≤ x0 := by omega
set_option maxHeartbeats 4000000 in
set_option maxRecDepth 100000 in
theorem s_readPath (l : Launch) (D : va_G) (cI cJ : ClassId) (sz M : Nat) (mr : Nat → Nat) (mi : Nat → Int32) (mf : Nat → Nat → Int32) (mg : Nat → Nat → Int64) (z_at : Int32) (h0 : 0 ≤ (mi 23).toInt) (h1 : (mi 23).toInt ≤ (mi 22).toInt) (h2 : (mi 22).toInt ≤ (mi 21).toInt) (h3 : (mi 21).toInt ≤ 400) (h4 : 0 ≤ (mi 24).toInt) (h5 : (mi 24).toInt ≤ 4) (h6 : (mi 24).toInt ≤ 4 * (mi 22).toInt - 4 * (mi 23).toInt) (h7 : ((mf 26) 153).toInt = 32) (h8 : 0 ≤ (mi 6).toInt ∧ (mi 6).toInt ≤ 10) (h9 : 160 ≤ z_at.toInt ∧ z_at.toInt ≤ 316) (a_paths : pathsOK (mf 43)) (lf_words : (∀ j : Nat, j < 154 → (mf 26) j = w0 j)) (lf_again : AGN ((mi 24).toInt) ((mi 25).toInt) ((mi 23).toInt) ((mi 22).toInt)) : Met l yX12_readPath (Cond.code yX12_readPath cX12_readPath 2 (some .int) :: GW) ({ frames := 5, cells := 0, slots := 0, locals := 128 } : Room) (va_Pc [.ref M, .int z_at] (PW D cI cJ sz (MW cI cJ M mr mi mf mg) xT)) (va_Qi (fun (r : Int32) (u : Int32 × Int32 × Int32 × Int32 × Int32 × Int32 × (Nat → Int32)) => (0 ≤ u.2.1.toInt) ∧ (u.2.1.toInt ≤ u.1.toInt) ∧ (u.1.toInt ≤ (mi 21).toInt) ∧ (0 ≤ u.2.2.1.toInt) ∧ (u.2.2.1.toInt ≤ 4) ∧ (u.2.2.1.toInt ≤ 4 * u.1.toInt - 4 * u.2.1.toInt) ∧ (pathsOK u.2.2.2.2.2.2) ∧ (AGN u.2.2.1.toInt u.2.2.2.1.toInt u.2.1.toInt u.1.toInt) ∧ (r = 0 → PT (mf 43) u.2.2.2.2.2.2 (z_at).toNatClampNeg) ∧ ((r = (-1)) ∨ (r = 0 ∧ (mi 23).toInt + 1 ≤ u.2.1.toInt))) (fun u => QW D cI cJ (va_A (MW cI cJ M mr mi mf mg) sz) ((fun (u : Int32 × Int32 × Int32 × Int32 × Int32 × Int32 × (Nat → Int32)) => (MW cI cJ M mr (upd (upd (upd (upd (upd (upd mi 22 u.1) 23 u.2.1) 24 u.2.2.1) 25 u.2.2.2.1) 38 u.2.2.2.2.1) 39 u.2.2.2.2.2.1) (va_up mf 43 u.2.2.2.2.2.2) mg)) u)) (va_A (MW cI cJ M mr mi mf mg) sz)) 0 0 (va_A (MW cI cJ M mr mi mf mg) sz) := by
  refine mk_met (y := yX12_readPath) (bytes := cX12_readPath) (maxL := 2) (avs := [.ref M, .int z_at]) (WS := (MW cI cJ M mr mi mf mg)) (Qf := fun A => va_Qi (fun (r : Int32) (u : Int32 × Int32 × Int32 × Int32 × Int32 × Int32 × (Nat → Int32)) => (0 ≤ u.2.1.toInt) ∧ (u.2.1.toInt ≤ u.1.toInt) ∧ (u.1.toInt ≤ (mi 21).toInt) ∧ (0 ≤ u.2.2.1.toInt) ∧ (u.2.2.1.toInt ≤ 4) ∧ (u.2.2.1.toInt ≤ 4 * u.1.toInt - 4 * u.2.1.toInt) ∧ (pathsOK u.2.2.2.2.2.2) ∧ (AGN u.2.2.1.toInt u.2.2.2.1.toInt u.2.1.toInt u.1.toInt) ∧ (r = 0 → PT (mf 43) u.2.2.2.2.2.2 (z_at).toNatClampNeg) ∧ ((r = (-1)) ∨ (r = 0 ∧ (mi 23).toInt + 1 ≤ u.2.1.toInt))) (fun u => QW D cI cJ A ((fun (u : Int32 × Int32 × Int32 × Int32 × Int32 × Int32 × (Nat → Int32)) => (MW cI cJ M mr (upd (upd (upd (upd (upd (upd mi 22 u.1) 23 u.2.1) 24 u.2.2.1) 25 u.2.2.2.1) 38 u.2.2.2.2.1) 39 u.2.2.2.2.2.1) (va_up mf 43 u.2.2.2.2.2.2) mg)) u)) A) (by decide) (Nat.le_of_ble_eq_true rfl) ?_
  intro p e s m below meth c A ls E hr hlk hnm hX hw1 hl2
  have hl3 : lv_has ls 2 [(0, .ref M), (1, .int z_at)] := hl2
  refine lv_aload_n (pc := 0) E.1 E.2.1 dX12_readPath_0 rfl (lv_at hl3 0 rfl) ?_
  refine x_get (pc := 1) (T := TX12) (N := 70) (ci := 12) (v := .ref (mr 43)) E hw1 inX12 0 43 q_1442 rfl rfl (by decide) rfl rfl dX12_readPath_1 ?_
  refine lv_iload_n (pc := 4) E.1 E.2.1 dX12_readPath_4 rfl (lv_at hl3 1 rfl) ?_
  refine lv_iconst (pc := 5) (v := 0) E.1 E.2.1 dX12_readPath_5 (by decide +kernel) ?_
  refine lv_iadd (pc := 6) E.1 E.2.1 dX12_readPath_6 ?_
  refine lv_topi (fun v_4 ev_4 => ?_)
  have hv_4 : v_4.toInt = z_at.toInt + 0 := by rw [ev_4]; exact addE rfl (by decide +kernel) (by omega)
  refine lv_aload_n (pc := 7) E.1 E.2.1 dX12_readPath_7 rfl (lv_at hl3 0 rfl) ?_
  refine lv_iconst (pc := 8) (v := 0) E.1 E.2.1 dX12_readPath_8 (by decide +kernel) ?_
  refine lv_aload_n (pc := 9) E.1 E.2.1 dX12_readPath_9 rfl (lv_at hl3 0 rfl) ?_
  refine x_get (pc := 10) (T := TX12) (N := 70) (ci := 12) (v := .int (mi 6)) E hw1 inX12 0 6 q_1405 rfl rfl (by decide) rfl rfl dX12_readPath_10 ?_
  refine lv_iconst (pc := 13) (v := 1) E.1 E.2.1 dX12_readPath_13 (by decide +kernel) ?_
  refine lv_isub (pc := 14) E.1 E.2.1 dX12_readPath_14 ?_
  refine lv_topi (fun v_5 ev_5 => ?_)
  have hv_5 : v_5.toInt = (mi 6).toInt - 1 := by rw [ev_5]; exact subE rfl (by decide +kernel) (by omega)
  refine cm_i (pc := 15) hw1 (rn_M (As := [.int 0, .int v_5]) (rest := [.int v_4, .ref (mr 43)]) E hw1 (s_readNumber l D cI cJ _ M mr mi mf mg 0 v_5 h0 h1 h2 h3 h4 h5 h6 h7 (show (∀ j : Nat, j < 154 → (mf 26) j = w0 j) from lf_words) (show AGN ((mi 24).toInt) ((mi 25).toInt) ((mi 23).toInt) ((mi 22).toInt) from lf_again)) (gdV q_1706 q_1708 q_62 q_162 q_1709) hdV_X12_readNumber ⟨rfl, rfl⟩ ⟨(Nat.le_of_ble_eq_true rfl), (Nat.le_of_ble_eq_true rfl)⟩ ⟨(Nat.le_of_ble_eq_true rfl), (Nat.le_of_ble_eq_true rfl)⟩ 12 rfl rfl rfl rfl hl3.1 rfl (Nat.le_of_ble_eq_true rfl) dX12_readPath_15) (fun r_7 u_6 H1 locs hp hw8 => ?_)
  obtain ⟨nspot_9, nfrom_10, ntoken_11, nvalue_12, nreadFault_13, nreadPlace_14⟩ := u_6
  generalize H1 = H at hw8 ⊢
  have hw15 : WD D A s.heap (MW cI cJ M mr (upd (upd (upd (upd (upd (upd mi 22 nspot_9) 23 nfrom_10) 24 ntoken_11) 25 nvalue_12) 38 nreadFault_13) 39 nreadPlace_14) mf mg) H locs := hw8
  obtain ⟨hp_16, hp_17, hp_18, hp_19, hp_20, hp_21, hp_22, hp_23⟩ := hp
  have hp_16 : 0 ≤ nfrom_10.toInt := hp_16
  have hp_17 : nfrom_10.toInt ≤ nspot_9.toInt := hp_17
  have hp_18 : nspot_9.toInt ≤ (mi 21).toInt := hp_18
  have hp_19 : 0 ≤ ntoken_11.toInt := hp_19
  have hp_20 : ntoken_11.toInt ≤ 4 := hp_20
  have hp_21 : ntoken_11.toInt ≤ 4 * nspot_9.toInt - 4 * nfrom_10.toInt := hp_21
  have hp_22 : AGN ntoken_11.toInt nvalue_12.toInt nfrom_10.toInt nspot_9.toInt := hp_22
  rcases hp_23 with rfl | ⟨ha_24, ha_25, ha_26⟩
  · skip
    refine x_iastG (pc := 18) (f := (mf 43)) (wf := fun g => (MW cI cJ M mr (upd (upd (upd (upd (upd (upd mi 22 nspot_9) 23 nfrom_10) 24 ntoken_11) 25 nvalue_12) 38 nreadFault_13) 39 nreadPlace_14) (va_up mf 43 g) mg)) E hw15 21 rfl (inbE (a := v_4.toInt) rfl (ax73r33c_0 hv_4 h9)) (fun _ => rfl) dX12_readPath_18 (fun g_27 H locs eg_27 hw28 => ?_)
    have hpk_29 : pathsOK g_27 := pathsOK_hi a_paths eg_27 (by omega)
    refine lv_aload_n (pc := 19) E.1 E.2.1 dX12_readPath_19 rfl (lv_at hl3 0 rfl) ?_
    refine x_get (pc := 20) (T := TX12) (N := 70) (ci := 12) (v := .ref (mr 43)) E hw28 inX12 0 43 q_1442 rfl rfl (by decide) rfl rfl dX12_readPath_20 ?_
    refine lv_iload_n (pc := 23) E.1 E.2.1 dX12_readPath_23 rfl (lv_at hl3 1 rfl) ?_
    refine lv_iconst (pc := 24) (v := 0) E.1 E.2.1 dX12_readPath_24 (by decide +kernel) ?_
    refine lv_iadd (pc := 25) E.1 E.2.1 dX12_readPath_25 ?_
    refine lv_topi (fun v_30 ev_30 => ?_)
    have hv_30 : v_30.toInt = z_at.toInt + 0 := by rw [ev_30]; exact addE rfl (by decide +kernel) (ax73r33c_1 h9)
    refine x_iald (pc := 26) (f := g_27) E hw28 21 rfl (inbE (a := v_30.toInt) rfl (ax73r33c_0 hv_30 h9)) dX12_readPath_26 ?_
    refine lv_topi (fun v_31 ev_31 => ?_)
    have hsv_31 : v_31.toInt = ((-1) : Int32).toInt := by rw [ev_31, eg_27, show v_30.toNatClampNeg = v_4.toNatClampNeg from (tcEax73r33c_ (ax73r33c_2 hv_4 hv_30)), pk_us]
    rw [show ((-1) : Int32).toInt = -1 from by decide +kernel] at hsv_31
    refine lv_iconst (pc := 27) (v := (-1)) E.1 E.2.1 dX12_readPath_27 (by decide +kernel) ?_
    refine lv_icmp_eq (pc := 28) (tgt := 41) E.1 E.2.1 dX12_readPath_28 (by decide) (fun _ => ?_) (fun c_32 => absurd (meqE (a := v_31.toInt) (b := (-1)) rfl (by decide +kernel) (ax73r33c_3 hsv_31)) c_32)
    refine lv_iconst (pc := 41) (v := (-1)) E.1 E.2.1 dX12_readPath_41 (by decide +kernel) ?_
    exact em_i (w1 := (fun (u : Int32 × Int32 × Int32 × Int32 × Int32 × Int32 × (Nat → Int32)) => (MW cI cJ M mr (upd (upd (upd (upd (upd (upd mi 22 u.1) 23 u.2.1) 24 u.2.2.1) 25 u.2.2.2.1) 38 u.2.2.2.2.1) 39 u.2.2.2.2.2.1) (va_up mf 43 u.2.2.2.2.2.2) mg))) E hr hlk (nspot_9, nfrom_10, ntoken_11, nvalue_12, nreadFault_13, nreadPlace_14, g_27) hw28 ⟨hp_16, hp_17, hp_18, hp_19, hp_20, hp_21, hpk_29, hp_22, (fun h => absurd h (by decide +kernel)), (Or.inl rfl)⟩ (Nat.le_of_ble_eq_true rfl) (Nat.le_of_ble_eq_true rfl) dX12_readPath_42
  · skip
    have ha_24 : (0 : Int32).toInt ≤ r_7.toInt := ha_24
    rw [show (0 : Int32).toInt = 0 from by decide +kernel] at ha_24
    have ha_25 : r_7.toInt ≤ v_5.toInt := ha_25
    have ha_26 : (mi 23).toInt + 1 ≤ nfrom_10.toInt := ha_26
    refine x_iastG (pc := 18) (f := (mf 43)) (wf := fun g => (MW cI cJ M mr (upd (upd (upd (upd (upd (upd mi 22 nspot_9) 23 nfrom_10) 24 ntoken_11) 25 nvalue_12) 38 nreadFault_13) 39 nreadPlace_14) (va_up mf 43 g) mg)) E hw15 21 rfl (inbE (a := v_4.toInt) rfl (ax73r33c_0 hv_4 h9)) (fun _ => rfl) dX12_readPath_18 (fun g_33 H locs eg_33 hw34 => ?_)
    have hpk_35 : pathsOK g_33 := pathsOK_hi a_paths eg_33 (by omega)
    refine lv_aload_n (pc := 19) E.1 E.2.1 dX12_readPath_19 rfl (lv_at hl3 0 rfl) ?_
    refine x_get (pc := 20) (T := TX12) (N := 70) (ci := 12) (v := .ref (mr 43)) E hw34 inX12 0 43 q_1442 rfl rfl (by decide) rfl rfl dX12_readPath_20 ?_
    refine lv_iload_n (pc := 23) E.1 E.2.1 dX12_readPath_23 rfl (lv_at hl3 1 rfl) ?_
    refine lv_iconst (pc := 24) (v := 0) E.1 E.2.1 dX12_readPath_24 (by decide +kernel) ?_
    refine lv_iadd (pc := 25) E.1 E.2.1 dX12_readPath_25 ?_
    refine lv_topi (fun v_36 ev_36 => ?_)
    have hv_36 : v_36.toInt = z_at.toInt + 0 := by rw [ev_36]; exact addE rfl (by decide +kernel) (ax73r33c_1 h9)
    refine x_iald (pc := 26) (f := g_33) E hw34 21 rfl (inbE (a := v_36.toInt) rfl (ax73r33c_0 hv_36 h9)) dX12_readPath_26 ?_
    refine lv_topi (fun v_37 ev_37 => ?_)
    have hsv_37 : v_37.toInt = r_7.toInt := by rw [ev_37, eg_33, show v_36.toNatClampNeg = v_4.toNatClampNeg from (tcEax73r33c_ (ax73r33c_2 hv_4 hv_36)), pk_us]
    refine lv_iconst (pc := 27) (v := (-1)) E.1 E.2.1 dX12_readPath_27 (by decide +kernel) ?_
    refine lv_icmp_eq (pc := 28) (tgt := 41) E.1 E.2.1 dX12_readPath_28 (by decide) (fun c_38 => absurd c_38 (mneE (a := v_37.toInt) (b := (-1)) rfl (by decide +kernel) (ax73r33c_4 hsv_37 ha_24))) (fun _ => ?_)
    refine lv_aload_n (pc := 31) E.1 E.2.1 dX12_readPath_31 rfl (lv_at hl3 0 rfl) ?_
    refine lv_bipush (pc := 32) (v := 17) E.1 E.2.1 dX12_readPath_32 (by decide +kernel) ?_
    refine cm_i (pc := 34) hw34 (rn_M (As := [.int 17]) (rest := []) E hw34 (s_readWord l D cI cJ _ M mr (upd (upd (upd (upd (upd (upd mi 22 nspot_9) 23 nfrom_10) 24 ntoken_11) 25 nvalue_12) 38 nreadFault_13) 39 nreadPlace_14) (va_up mf 43 g_33) mg 17 hp_16 hp_17 hp_18 h3 hp_19 hp_20 hp_21 h7 (show (∀ j : Nat, j < 154 → (mf 26) j = w0 j) from lf_words) (show AGN ntoken_11.toInt nvalue_12.toInt nfrom_10.toInt nspot_9.toInt from hp_22)) (gdV q_1710 q_1712 q_63 q_162 q_1713) hdV_X12_readWord ⟨rfl, rfl⟩ ⟨(Nat.le_of_ble_eq_true rfl), (Nat.le_of_ble_eq_true rfl)⟩ ⟨(Nat.le_of_ble_eq_true rfl), (Nat.le_of_ble_eq_true rfl)⟩ 12 rfl rfl rfl rfl hl3.1 rfl (Nat.le_of_ble_eq_true rfl) dX12_readPath_34) (fun r_40 u_39 H1 locs hp hw41 => ?_)
    obtain ⟨nspot_42, nfrom_43, ntoken_44, nvalue_45, nreadFault_46, nreadPlace_47⟩ := u_39
    generalize H1 = H at hw41 ⊢
    have hw48 : WD D A s.heap (MW cI cJ M mr (upd (upd (upd (upd (upd (upd mi 22 nspot_42) 23 nfrom_43) 24 ntoken_44) 25 nvalue_45) 38 nreadFault_46) 39 nreadPlace_47) (va_up mf 43 g_33) mg) H locs := hw41
    obtain ⟨hp_49, hp_50, hp_51, hp_52, hp_53, hp_54, hp_55, hp_56⟩ := hp
    have hp_49 : 0 ≤ nfrom_43.toInt := hp_49
    have hp_50 : nfrom_43.toInt ≤ nspot_42.toInt := hp_50
    have hp_51 : nspot_42.toInt ≤ (mi 21).toInt := hp_51
    have hp_52 : 0 ≤ ntoken_44.toInt := hp_52
    have hp_53 : ntoken_44.toInt ≤ 4 := hp_53
    have hp_54 : ntoken_44.toInt ≤ 4 * nspot_42.toInt - 4 * nfrom_43.toInt := hp_54
    have hp_55 : AGN ntoken_44.toInt nvalue_45.toInt nfrom_43.toInt nspot_42.toInt := hp_55
    rcases hp_56 with rfl | ⟨rfl, ha_57⟩
    · skip
      refine lv_iconst (pc := 37) (v := (-1)) E.1 E.2.1 dX12_readPath_37 (by decide +kernel) ?_
      refine lv_icmp_ne (pc := 38) (tgt := 43) E.1 E.2.1 dX12_readPath_38 (by decide) (fun c_58 => absurd (meqE (a := (-1)) (b := (-1)) (by decide +kernel) (by decide +kernel) (by decide +kernel)) c_58) (fun _ => ?_)
      refine lv_iconst (pc := 41) (v := (-1)) E.1 E.2.1 dX12_readPath_41 (by decide +kernel) ?_
      exact em_i (w1 := (fun (u : Int32 × Int32 × Int32 × Int32 × Int32 × Int32 × (Nat → Int32)) => (MW cI cJ M mr (upd (upd (upd (upd (upd (upd mi 22 u.1) 23 u.2.1) 24 u.2.2.1) 25 u.2.2.2.1) 38 u.2.2.2.2.1) 39 u.2.2.2.2.2.1) (va_up mf 43 u.2.2.2.2.2.2) mg))) E hr hlk (nspot_42, nfrom_43, ntoken_44, nvalue_45, nreadFault_46, nreadPlace_47, g_33) hw48 ⟨hp_49, hp_50, hp_51, hp_52, hp_53, hp_54, hpk_35, hp_55, (fun h => absurd h (by decide +kernel)), (Or.inl rfl)⟩ (Nat.le_of_ble_eq_true rfl) (Nat.le_of_ble_eq_true rfl) dX12_readPath_42
    · skip
      have ha_57 : nfrom_10.toInt + 1 ≤ nfrom_43.toInt := ha_57
      refine lv_iconst (pc := 37) (v := (-1)) E.1 E.2.1 dX12_readPath_37 (by decide +kernel) ?_
      refine lv_icmp_ne (pc := 38) (tgt := 43) E.1 E.2.1 dX12_readPath_38 (by decide) (fun _ => ?_) (fun c_59 => absurd c_59 (mneE (a := 0) (b := (-1)) (by decide +kernel) (by decide +kernel) (by decide +kernel)))
      refine lv_aload_n (pc := 43) E.1 E.2.1 dX12_readPath_43 rfl (lv_at hl3 0 rfl) ?_
      refine x_get (pc := 44) (T := TX12) (N := 70) (ci := 12) (v := .ref (mr 43)) E hw48 inX12 0 43 q_1442 rfl rfl (by decide) rfl rfl dX12_readPath_44 ?_
      refine lv_iload_n (pc := 47) E.1 E.2.1 dX12_readPath_47 rfl (lv_at hl3 1 rfl) ?_
      refine lv_iconst (pc := 48) (v := 1) E.1 E.2.1 dX12_readPath_48 (by decide +kernel) ?_
      refine lv_iadd (pc := 49) E.1 E.2.1 dX12_readPath_49 ?_
      refine lv_topi (fun v_60 ev_60 => ?_)
      have hv_60 : v_60.toInt = z_at.toInt + 1 := by rw [ev_60]; exact addE rfl (by decide +kernel) (ax73r33c_5 h9)
      refine lv_aload_n (pc := 50) E.1 E.2.1 dX12_readPath_50 rfl (lv_at hl3 0 rfl) ?_
      refine lv_iconst (pc := 51) (v := 0) E.1 E.2.1 dX12_readPath_51 (by decide +kernel) ?_
      refine lv_aload_n (pc := 52) E.1 E.2.1 dX12_readPath_52 rfl (lv_at hl3 0 rfl) ?_
      refine x_get (pc := 53) (T := TX12) (N := 70) (ci := 12) (v := .int (mi 6)) E hw48 inX12 0 6 q_1405 rfl rfl (by decide) rfl rfl dX12_readPath_53 ?_
      refine lv_iconst (pc := 56) (v := 1) E.1 E.2.1 dX12_readPath_56 (by decide +kernel) ?_
      refine lv_isub (pc := 57) E.1 E.2.1 dX12_readPath_57 ?_
      refine lv_topi (fun v_61 ev_61 => ?_)
      have hv_61 : v_61.toInt = (mi 6).toInt - 1 := by rw [ev_61]; exact subE rfl (by decide +kernel) (ax73r33c_6 h8)
      refine cm_i (pc := 58) hw48 (rn_M (As := [.int 0, .int v_61]) (rest := [.int v_60, .ref (mr 43)]) E hw48 (s_readNumber l D cI cJ _ M mr (upd (upd (upd (upd (upd (upd mi 22 nspot_42) 23 nfrom_43) 24 ntoken_44) 25 nvalue_45) 38 nreadFault_46) 39 nreadPlace_47) (va_up mf 43 g_33) mg 0 v_61 hp_49 hp_50 hp_51 h3 hp_52 hp_53 hp_54 h7 (show (∀ j : Nat, j < 154 → (mf 26) j = w0 j) from lf_words) (show AGN ntoken_44.toInt nvalue_45.toInt nfrom_43.toInt nspot_42.toInt from hp_55)) (gdV q_1706 q_1708 q_62 q_162 q_1709) hdV_X12_readNumber ⟨rfl, rfl⟩ ⟨(Nat.le_of_ble_eq_true rfl), (Nat.le_of_ble_eq_true rfl)⟩ ⟨(Nat.le_of_ble_eq_true rfl), (Nat.le_of_ble_eq_true rfl)⟩ 12 rfl rfl rfl rfl hl3.1 rfl (Nat.le_of_ble_eq_true rfl) dX12_readPath_58) (fun r_63 u_62 H1 locs hp hw64 => ?_)
      obtain ⟨nspot_65, nfrom_66, ntoken_67, nvalue_68, nreadFault_69, nreadPlace_70⟩ := u_62
      generalize H1 = H at hw64 ⊢
      have hw71 : WD D A s.heap (MW cI cJ M mr (upd (upd (upd (upd (upd (upd mi 22 nspot_65) 23 nfrom_66) 24 ntoken_67) 25 nvalue_68) 38 nreadFault_69) 39 nreadPlace_70) (va_up mf 43 g_33) mg) H locs := hw64
      obtain ⟨hp_72, hp_73, hp_74, hp_75, hp_76, hp_77, hp_78, hp_79⟩ := hp
      have hp_72 : 0 ≤ nfrom_66.toInt := hp_72
      have hp_73 : nfrom_66.toInt ≤ nspot_65.toInt := hp_73
      have hp_74 : nspot_65.toInt ≤ (mi 21).toInt := hp_74
      have hp_75 : 0 ≤ ntoken_67.toInt := hp_75
      have hp_76 : ntoken_67.toInt ≤ 4 := hp_76
      have hp_77 : ntoken_67.toInt ≤ 4 * nspot_65.toInt - 4 * nfrom_66.toInt := hp_77
      have hp_78 : AGN ntoken_67.toInt nvalue_68.toInt nfrom_66.toInt nspot_65.toInt := hp_78
      rcases hp_79 with rfl | ⟨ha_80, ha_81, ha_82⟩
      · skip
        refine x_iastG (pc := 61) (f := g_33) (wf := fun g => (MW cI cJ M mr (upd (upd (upd (upd (upd (upd mi 22 nspot_65) 23 nfrom_66) 24 ntoken_67) 25 nvalue_68) 38 nreadFault_69) 39 nreadPlace_70) (va_up mf 43 g) mg)) E hw71 21 rfl (inbE (a := v_60.toInt) rfl (ax73r33c_7 hv_60 h9)) (fun _ => rfl) dX12_readPath_61 (fun g_83 H locs eg_83 hw84 => ?_)
        have hpk_85 : pathsOK g_83 := pathsOK_hi hpk_35 eg_83 (by omega)
        refine lv_aload_n (pc := 62) E.1 E.2.1 dX12_readPath_62 rfl (lv_at hl3 0 rfl) ?_
        refine x_get (pc := 63) (T := TX12) (N := 70) (ci := 12) (v := .ref (mr 43)) E hw84 inX12 0 43 q_1442 rfl rfl (by decide) rfl rfl dX12_readPath_63 ?_
        refine lv_iload_n (pc := 66) E.1 E.2.1 dX12_readPath_66 rfl (lv_at hl3 1 rfl) ?_
        refine lv_iconst (pc := 67) (v := 1) E.1 E.2.1 dX12_readPath_67 (by decide +kernel) ?_
        refine lv_iadd (pc := 68) E.1 E.2.1 dX12_readPath_68 ?_
        refine lv_topi (fun v_86 ev_86 => ?_)
        have hv_86 : v_86.toInt = z_at.toInt + 1 := by rw [ev_86]; exact addE rfl (by decide +kernel) (ax73r33c_5 h9)
        refine x_iald (pc := 69) (f := g_83) E hw84 21 rfl (inbE (a := v_86.toInt) rfl (ax73r33c_7 hv_86 h9)) dX12_readPath_69 ?_
        refine lv_topi (fun v_87 ev_87 => ?_)
        have hsv_87 : v_87.toInt = ((-1) : Int32).toInt := by rw [ev_87, eg_83, show v_86.toNatClampNeg = v_60.toNatClampNeg from (tcEax73r33c_ (ax73r33c_8 hv_60 hv_86)), pk_us]
        rw [show ((-1) : Int32).toInt = -1 from by decide +kernel] at hsv_87
        refine lv_iconst (pc := 70) (v := (-1)) E.1 E.2.1 dX12_readPath_70 (by decide +kernel) ?_
        refine lv_icmp_eq (pc := 71) (tgt := 84) E.1 E.2.1 dX12_readPath_71 (by decide) (fun _ => ?_) (fun c_88 => absurd (meqE (a := v_87.toInt) (b := (-1)) rfl (by decide +kernel) (ax73r33c_3 hsv_87)) c_88)
        refine lv_iconst (pc := 84) (v := (-1)) E.1 E.2.1 dX12_readPath_84 (by decide +kernel) ?_
        exact em_i (w1 := (fun (u : Int32 × Int32 × Int32 × Int32 × Int32 × Int32 × (Nat → Int32)) => (MW cI cJ M mr (upd (upd (upd (upd (upd (upd mi 22 u.1) 23 u.2.1) 24 u.2.2.1) 25 u.2.2.2.1) 38 u.2.2.2.2.1) 39 u.2.2.2.2.2.1) (va_up mf 43 u.2.2.2.2.2.2) mg))) E hr hlk (nspot_65, nfrom_66, ntoken_67, nvalue_68, nreadFault_69, nreadPlace_70, g_83) hw84 ⟨hp_72, hp_73, hp_74, hp_75, hp_76, hp_77, hpk_85, hp_78, (fun h => absurd h (by decide +kernel)), (Or.inl rfl)⟩ (Nat.le_of_ble_eq_true rfl) (Nat.le_of_ble_eq_true rfl) dX12_readPath_85
      · skip
        have ha_80 : (0 : Int32).toInt ≤ r_63.toInt := ha_80
        rw [show (0 : Int32).toInt = 0 from by decide +kernel] at ha_80
        have ha_81 : r_63.toInt ≤ v_61.toInt := ha_81
        have ha_82 : nfrom_43.toInt + 1 ≤ nfrom_66.toInt := ha_82
        refine x_iastG (pc := 61) (f := g_33) (wf := fun g => (MW cI cJ M mr (upd (upd (upd (upd (upd (upd mi 22 nspot_65) 23 nfrom_66) 24 ntoken_67) 25 nvalue_68) 38 nreadFault_69) 39 nreadPlace_70) (va_up mf 43 g) mg)) E hw71 21 rfl (inbE (a := v_60.toInt) rfl (ax73r33c_7 hv_60 h9)) (fun _ => rfl) dX12_readPath_61 (fun g_89 H locs eg_89 hw90 => ?_)
        have hpk_91 : pathsOK g_89 := pathsOK_hi hpk_35 eg_89 (by omega)
        refine lv_aload_n (pc := 62) E.1 E.2.1 dX12_readPath_62 rfl (lv_at hl3 0 rfl) ?_
        refine x_get (pc := 63) (T := TX12) (N := 70) (ci := 12) (v := .ref (mr 43)) E hw90 inX12 0 43 q_1442 rfl rfl (by decide) rfl rfl dX12_readPath_63 ?_
        refine lv_iload_n (pc := 66) E.1 E.2.1 dX12_readPath_66 rfl (lv_at hl3 1 rfl) ?_
        refine lv_iconst (pc := 67) (v := 1) E.1 E.2.1 dX12_readPath_67 (by decide +kernel) ?_
        refine lv_iadd (pc := 68) E.1 E.2.1 dX12_readPath_68 ?_
        refine lv_topi (fun v_92 ev_92 => ?_)
        have hv_92 : v_92.toInt = z_at.toInt + 1 := by rw [ev_92]; exact addE rfl (by decide +kernel) (ax73r33c_5 h9)
        refine x_iald (pc := 69) (f := g_89) E hw90 21 rfl (inbE (a := v_92.toInt) rfl (ax73r33c_7 hv_92 h9)) dX12_readPath_69 ?_
        refine lv_topi (fun v_93 ev_93 => ?_)
        have hsv_93 : v_93.toInt = r_63.toInt := by rw [ev_93, eg_89, show v_92.toNatClampNeg = v_60.toNatClampNeg from (tcEax73r33c_ (ax73r33c_8 hv_60 hv_92)), pk_us]
        refine lv_iconst (pc := 70) (v := (-1)) E.1 E.2.1 dX12_readPath_70 (by decide +kernel) ?_
        refine lv_icmp_eq (pc := 71) (tgt := 84) E.1 E.2.1 dX12_readPath_71 (by decide) (fun c_94 => absurd c_94 (mneE (a := v_93.toInt) (b := (-1)) rfl (by decide +kernel) (ax73r33c_4 hsv_93 ha_80))) (fun _ => ?_)
        refine lv_aload_n (pc := 74) E.1 E.2.1 dX12_readPath_74 rfl (lv_at hl3 0 rfl) ?_
        refine lv_bipush (pc := 75) (v := 18) E.1 E.2.1 dX12_readPath_75 (by decide +kernel) ?_
        refine cm_i (pc := 77) hw90 (rn_M (As := [.int 18]) (rest := []) E hw90 (s_readWord l D cI cJ _ M mr (upd (upd (upd (upd (upd (upd mi 22 nspot_65) 23 nfrom_66) 24 ntoken_67) 25 nvalue_68) 38 nreadFault_69) 39 nreadPlace_70) (va_up mf 43 g_89) mg 18 hp_72 hp_73 hp_74 h3 hp_75 hp_76 hp_77 h7 (show (∀ j : Nat, j < 154 → (mf 26) j = w0 j) from lf_words) (show AGN ntoken_67.toInt nvalue_68.toInt nfrom_66.toInt nspot_65.toInt from hp_78)) (gdV q_1710 q_1712 q_63 q_162 q_1713) hdV_X12_readWord ⟨rfl, rfl⟩ ⟨(Nat.le_of_ble_eq_true rfl), (Nat.le_of_ble_eq_true rfl)⟩ ⟨(Nat.le_of_ble_eq_true rfl), (Nat.le_of_ble_eq_true rfl)⟩ 12 rfl rfl rfl rfl hl3.1 rfl (Nat.le_of_ble_eq_true rfl) dX12_readPath_77) (fun r_96 u_95 H1 locs hp hw97 => ?_)
        obtain ⟨nspot_98, nfrom_99, ntoken_100, nvalue_101, nreadFault_102, nreadPlace_103⟩ := u_95
        generalize H1 = H at hw97 ⊢
        have hw104 : WD D A s.heap (MW cI cJ M mr (upd (upd (upd (upd (upd (upd mi 22 nspot_98) 23 nfrom_99) 24 ntoken_100) 25 nvalue_101) 38 nreadFault_102) 39 nreadPlace_103) (va_up mf 43 g_89) mg) H locs := hw97
        obtain ⟨hp_105, hp_106, hp_107, hp_108, hp_109, hp_110, hp_111, hp_112⟩ := hp
        have hp_105 : 0 ≤ nfrom_99.toInt := hp_105
        have hp_106 : nfrom_99.toInt ≤ nspot_98.toInt := hp_106
        have hp_107 : nspot_98.toInt ≤ (mi 21).toInt := hp_107
        have hp_108 : 0 ≤ ntoken_100.toInt := hp_108
        have hp_109 : ntoken_100.toInt ≤ 4 := hp_109
        have hp_110 : ntoken_100.toInt ≤ 4 * nspot_98.toInt - 4 * nfrom_99.toInt := hp_110
        have hp_111 : AGN ntoken_100.toInt nvalue_101.toInt nfrom_99.toInt nspot_98.toInt := hp_111
        rcases hp_112 with rfl | ⟨rfl, ha_113⟩
        · skip
          refine lv_iconst (pc := 80) (v := (-1)) E.1 E.2.1 dX12_readPath_80 (by decide +kernel) ?_
          refine lv_icmp_ne (pc := 81) (tgt := 86) E.1 E.2.1 dX12_readPath_81 (by decide) (fun c_114 => absurd (meqE (a := (-1)) (b := (-1)) (by decide +kernel) (by decide +kernel) (by decide +kernel)) c_114) (fun _ => ?_)
          refine lv_iconst (pc := 84) (v := (-1)) E.1 E.2.1 dX12_readPath_84 (by decide +kernel) ?_
          exact em_i (w1 := (fun (u : Int32 × Int32 × Int32 × Int32 × Int32 × Int32 × (Nat → Int32)) => (MW cI cJ M mr (upd (upd (upd (upd (upd (upd mi 22 u.1) 23 u.2.1) 24 u.2.2.1) 25 u.2.2.2.1) 38 u.2.2.2.2.1) 39 u.2.2.2.2.2.1) (va_up mf 43 u.2.2.2.2.2.2) mg))) E hr hlk (nspot_98, nfrom_99, ntoken_100, nvalue_101, nreadFault_102, nreadPlace_103, g_89) hw104 ⟨hp_105, hp_106, hp_107, hp_108, hp_109, hp_110, hpk_91, hp_111, (fun h => absurd h (by decide +kernel)), (Or.inl rfl)⟩ (Nat.le_of_ble_eq_true rfl) (Nat.le_of_ble_eq_true rfl) dX12_readPath_85
        · skip
          have ha_113 : nfrom_66.toInt + 1 ≤ nfrom_99.toInt := ha_113
          refine lv_iconst (pc := 80) (v := (-1)) E.1 E.2.1 dX12_readPath_80 (by decide +kernel) ?_
          refine lv_icmp_ne (pc := 81) (tgt := 86) E.1 E.2.1 dX12_readPath_81 (by decide) (fun _ => ?_) (fun c_115 => absurd c_115 (mneE (a := 0) (b := (-1)) (by decide +kernel) (by decide +kernel) (by decide +kernel)))
          refine lv_aload_n (pc := 86) E.1 E.2.1 dX12_readPath_86 rfl (lv_at hl3 0 rfl) ?_
          refine x_get (pc := 87) (T := TX12) (N := 70) (ci := 12) (v := .ref (mr 43)) E hw104 inX12 0 43 q_1442 rfl rfl (by decide) rfl rfl dX12_readPath_87 ?_
          refine lv_iload_n (pc := 90) E.1 E.2.1 dX12_readPath_90 rfl (lv_at hl3 1 rfl) ?_
          refine lv_iconst (pc := 91) (v := 2) E.1 E.2.1 dX12_readPath_91 (by decide +kernel) ?_
          refine lv_iadd (pc := 92) E.1 E.2.1 dX12_readPath_92 ?_
          refine lv_topi (fun v_116 ev_116 => ?_)
          have hv_116 : v_116.toInt = z_at.toInt + 2 := by rw [ev_116]; exact addE rfl (by decide +kernel) (ax73r33c_9 h9)
          refine lv_aload_n (pc := 93) E.1 E.2.1 dX12_readPath_93 rfl (lv_at hl3 0 rfl) ?_
          refine lv_iconst (pc := 94) (v := 1) E.1 E.2.1 dX12_readPath_94 (by decide +kernel) ?_
          refine lv_bipush (pc := 95) (v := 99) E.1 E.2.1 dX12_readPath_95 (by decide +kernel) ?_
          refine cm_i (pc := 97) hw104 (rn_M (As := [.int 1, .int 99]) (rest := [.int v_116, .ref (mr 43)]) E hw104 (s_readNumber l D cI cJ _ M mr (upd (upd (upd (upd (upd (upd mi 22 nspot_98) 23 nfrom_99) 24 ntoken_100) 25 nvalue_101) 38 nreadFault_102) 39 nreadPlace_103) (va_up mf 43 g_89) mg 1 99 hp_105 hp_106 hp_107 h3 hp_108 hp_109 hp_110 h7 (show (∀ j : Nat, j < 154 → (mf 26) j = w0 j) from lf_words) (show AGN ntoken_100.toInt nvalue_101.toInt nfrom_99.toInt nspot_98.toInt from hp_111)) (gdV q_1706 q_1708 q_62 q_162 q_1709) hdV_X12_readNumber ⟨rfl, rfl⟩ ⟨(Nat.le_of_ble_eq_true rfl), (Nat.le_of_ble_eq_true rfl)⟩ ⟨(Nat.le_of_ble_eq_true rfl), (Nat.le_of_ble_eq_true rfl)⟩ 12 rfl rfl rfl rfl hl3.1 rfl (Nat.le_of_ble_eq_true rfl) dX12_readPath_97) (fun r_118 u_117 H1 locs hp hw119 => ?_)
          obtain ⟨nspot_120, nfrom_121, ntoken_122, nvalue_123, nreadFault_124, nreadPlace_125⟩ := u_117
          generalize H1 = H at hw119 ⊢
          have hw126 : WD D A s.heap (MW cI cJ M mr (upd (upd (upd (upd (upd (upd mi 22 nspot_120) 23 nfrom_121) 24 ntoken_122) 25 nvalue_123) 38 nreadFault_124) 39 nreadPlace_125) (va_up mf 43 g_89) mg) H locs := hw119
          obtain ⟨hp_127, hp_128, hp_129, hp_130, hp_131, hp_132, hp_133, hp_134⟩ := hp
          have hp_127 : 0 ≤ nfrom_121.toInt := hp_127
          have hp_128 : nfrom_121.toInt ≤ nspot_120.toInt := hp_128
          have hp_129 : nspot_120.toInt ≤ (mi 21).toInt := hp_129
          have hp_130 : 0 ≤ ntoken_122.toInt := hp_130
          have hp_131 : ntoken_122.toInt ≤ 4 := hp_131
          have hp_132 : ntoken_122.toInt ≤ 4 * nspot_120.toInt - 4 * nfrom_121.toInt := hp_132
          have hp_133 : AGN ntoken_122.toInt nvalue_123.toInt nfrom_121.toInt nspot_120.toInt := hp_133
          rcases hp_134 with rfl | ⟨ha_135, ha_136, ha_137⟩
          · skip
            refine x_iastG (pc := 100) (f := g_89) (wf := fun g => (MW cI cJ M mr (upd (upd (upd (upd (upd (upd mi 22 nspot_120) 23 nfrom_121) 24 ntoken_122) 25 nvalue_123) 38 nreadFault_124) 39 nreadPlace_125) (va_up mf 43 g) mg)) E hw126 21 rfl (inbE (a := v_116.toInt) rfl (ax73r33c_10 hv_116 h9)) (fun _ => rfl) dX12_readPath_100 (fun g_138 H locs eg_138 hw139 => ?_)
            have hpk_140 : pathsOK g_138 := pathsOK_hi hpk_91 eg_138 (by omega)
            refine lv_aload_n (pc := 101) E.1 E.2.1 dX12_readPath_101 rfl (lv_at hl3 0 rfl) ?_
            refine x_get (pc := 102) (T := TX12) (N := 70) (ci := 12) (v := .ref (mr 43)) E hw139 inX12 0 43 q_1442 rfl rfl (by decide) rfl rfl dX12_readPath_102 ?_
            refine lv_iload_n (pc := 105) E.1 E.2.1 dX12_readPath_105 rfl (lv_at hl3 1 rfl) ?_
            refine lv_iconst (pc := 106) (v := 2) E.1 E.2.1 dX12_readPath_106 (by decide +kernel) ?_
            refine lv_iadd (pc := 107) E.1 E.2.1 dX12_readPath_107 ?_
            refine lv_topi (fun v_141 ev_141 => ?_)
            have hv_141 : v_141.toInt = z_at.toInt + 2 := by rw [ev_141]; exact addE rfl (by decide +kernel) (ax73r33c_9 h9)
            refine x_iald (pc := 108) (f := g_138) E hw139 21 rfl (inbE (a := v_141.toInt) rfl (ax73r33c_10 hv_141 h9)) dX12_readPath_108 ?_
            refine lv_topi (fun v_142 ev_142 => ?_)
            have hsv_142 : v_142.toInt = ((-1) : Int32).toInt := by rw [ev_142, eg_138, show v_141.toNatClampNeg = v_116.toNatClampNeg from (tcEax73r33c_ (ax73r33c_11 hv_116 hv_141)), pk_us]
            rw [show ((-1) : Int32).toInt = -1 from by decide +kernel] at hsv_142
            refine lv_iconst (pc := 109) (v := (-1)) E.1 E.2.1 dX12_readPath_109 (by decide +kernel) ?_
            refine lv_icmp_ne (pc := 110) (tgt := 115) E.1 E.2.1 dX12_readPath_110 (by decide) (fun c_143 => absurd (meqE (a := v_142.toInt) (b := (-1)) rfl (by decide +kernel) (ax73r33c_3 hsv_142)) c_143) (fun _ => ?_)
            refine lv_iconst (pc := 113) (v := (-1)) E.1 E.2.1 dX12_readPath_113 (by decide +kernel) ?_
            exact em_i (w1 := (fun (u : Int32 × Int32 × Int32 × Int32 × Int32 × Int32 × (Nat → Int32)) => (MW cI cJ M mr (upd (upd (upd (upd (upd (upd mi 22 u.1) 23 u.2.1) 24 u.2.2.1) 25 u.2.2.2.1) 38 u.2.2.2.2.1) 39 u.2.2.2.2.2.1) (va_up mf 43 u.2.2.2.2.2.2) mg))) E hr hlk (nspot_120, nfrom_121, ntoken_122, nvalue_123, nreadFault_124, nreadPlace_125, g_138) hw139 ⟨hp_127, hp_128, hp_129, hp_130, hp_131, hp_132, hpk_140, hp_133, (fun h => absurd h (by decide +kernel)), (Or.inl rfl)⟩ (Nat.le_of_ble_eq_true rfl) (Nat.le_of_ble_eq_true rfl) dX12_readPath_114
          · skip
            have ha_135 : (1 : Int32).toInt ≤ r_118.toInt := ha_135
            rw [show (1 : Int32).toInt = 1 from by decide +kernel] at ha_135
            have ha_136 : r_118.toInt ≤ (99 : Int32).toInt := ha_136
            rw [show (99 : Int32).toInt = 99 from by decide +kernel] at ha_136
            have ha_137 : nfrom_99.toInt + 1 ≤ nfrom_121.toInt := ha_137
            refine x_iastG (pc := 100) (f := g_89) (wf := fun g => (MW cI cJ M mr (upd (upd (upd (upd (upd (upd mi 22 nspot_120) 23 nfrom_121) 24 ntoken_122) 25 nvalue_123) 38 nreadFault_124) 39 nreadPlace_125) (va_up mf 43 g) mg)) E hw126 21 rfl (inbE (a := v_116.toInt) rfl (ax73r33c_10 hv_116 h9)) (fun _ => rfl) dX12_readPath_100 (fun g_144 H locs eg_144 hw145 => ?_)
            have hpk_146 : pathsOK g_144 := pathsOK_hi hpk_91 eg_144 (by omega)
            refine lv_aload_n (pc := 101) E.1 E.2.1 dX12_readPath_101 rfl (lv_at hl3 0 rfl) ?_
            refine x_get (pc := 102) (T := TX12) (N := 70) (ci := 12) (v := .ref (mr 43)) E hw145 inX12 0 43 q_1442 rfl rfl (by decide) rfl rfl dX12_readPath_102 ?_
            refine lv_iload_n (pc := 105) E.1 E.2.1 dX12_readPath_105 rfl (lv_at hl3 1 rfl) ?_
            refine lv_iconst (pc := 106) (v := 2) E.1 E.2.1 dX12_readPath_106 (by decide +kernel) ?_
            refine lv_iadd (pc := 107) E.1 E.2.1 dX12_readPath_107 ?_
            refine lv_topi (fun v_147 ev_147 => ?_)
            have hv_147 : v_147.toInt = z_at.toInt + 2 := by rw [ev_147]; exact addE rfl (by decide +kernel) (ax73r33c_9 h9)
            refine x_iald (pc := 108) (f := g_144) E hw145 21 rfl (inbE (a := v_147.toInt) rfl (ax73r33c_10 hv_147 h9)) dX12_readPath_108 ?_
            refine lv_topi (fun v_148 ev_148 => ?_)
            have hsv_148 : v_148.toInt = r_118.toInt := by rw [ev_148, eg_144, show v_147.toNatClampNeg = v_116.toNatClampNeg from (tcEax73r33c_ (ax73r33c_11 hv_116 hv_147)), pk_us]
            refine lv_iconst (pc := 109) (v := (-1)) E.1 E.2.1 dX12_readPath_109 (by decide +kernel) ?_
            refine lv_icmp_ne (pc := 110) (tgt := 115) E.1 E.2.1 dX12_readPath_110 (by decide) (fun _ => ?_) (fun c_149 => absurd c_149 (mneE (a := v_148.toInt) (b := (-1)) rfl (by decide +kernel) (ax73r33c_12 hsv_148 ha_135)))
            refine lv_aload_n (pc := 115) E.1 E.2.1 dX12_readPath_115 rfl (lv_at hl3 0 rfl) ?_
            refine x_get (pc := 116) (T := TX12) (N := 70) (ci := 12) (v := .ref (mr 43)) E hw145 inX12 0 43 q_1442 rfl rfl (by decide) rfl rfl dX12_readPath_116 ?_
            refine lv_iload_n (pc := 119) E.1 E.2.1 dX12_readPath_119 rfl (lv_at hl3 1 rfl) ?_
            refine lv_iconst (pc := 120) (v := 3) E.1 E.2.1 dX12_readPath_120 (by decide +kernel) ?_
            refine lv_iadd (pc := 121) E.1 E.2.1 dX12_readPath_121 ?_
            refine lv_topi (fun v_150 ev_150 => ?_)
            have hv_150 : v_150.toInt = z_at.toInt + 3 := by rw [ev_150]; exact addE rfl (by decide +kernel) (ax73r33c_13 h9)
            refine lv_bipush (pc := 122) (v := 9) E.1 E.2.1 dX12_readPath_122 (by decide +kernel) ?_
            refine x_iastG (pc := 124) (f := g_144) (wf := fun g => (MW cI cJ M mr (upd (upd (upd (upd (upd (upd mi 22 nspot_120) 23 nfrom_121) 24 ntoken_122) 25 nvalue_123) 38 nreadFault_124) 39 nreadPlace_125) (va_up mf 43 g) mg)) E hw145 21 rfl (inbE (a := v_150.toInt) rfl (ax73r33c_14 hv_150 h9)) (fun _ => rfl) dX12_readPath_124 (fun g_151 H locs eg_151 hw152 => ?_)
            have hpk_153 : pathsOK g_151 := pathsOK_hi hpk_146 eg_151 (by omega)
            refine lv_aload_n (pc := 125) E.1 E.2.1 dX12_readPath_125 rfl (lv_at hl3 0 rfl) ?_
            refine lv_bipush (pc := 126) (v := 19) E.1 E.2.1 dX12_readPath_126 (by decide +kernel) ?_
            refine cm_i (pc := 128) hw152 (rn_M (As := [.int 19]) (rest := []) E hw152 (s_isWord2 l D cI cJ _ M mr (upd (upd (upd (upd (upd (upd mi 22 nspot_120) 23 nfrom_121) 24 ntoken_122) 25 nvalue_123) 38 nreadFault_124) 39 nreadPlace_125) (va_up mf 43 g_151) mg 19) (gdV q_1694 q_1696 q_59 q_162 q_1697) hdV_X12_isWord ⟨rfl, rfl⟩ ⟨(Nat.le_of_ble_eq_true rfl), (Nat.le_of_ble_eq_true rfl)⟩ ⟨(Nat.le_of_ble_eq_true rfl), (Nat.le_of_ble_eq_true rfl)⟩ 12 rfl rfl rfl rfl hl3.1 rfl (Nat.le_of_ble_eq_true rfl) dX12_readPath_128) (fun r_155 u_154 H1 locs hp hw156 => ?_)
            generalize H1 = H at hw156 ⊢
            have hw157 : WD D A s.heap (MW cI cJ M mr (upd (upd (upd (upd (upd (upd mi 22 nspot_120) 23 nfrom_121) 24 ntoken_122) 25 nvalue_123) 38 nreadFault_124) 39 nreadPlace_125) (va_up mf 43 g_151) mg) H locs := hw156
            have hp_158 := hp
            rcases hp_158 with ⟨rfl, ha_159, ha_160⟩ | rfl
            · skip
              have ha_159 : ntoken_122.toInt = 2 := ha_159
              have ha_160 : nvalue_123.toInt = (19 : Int32).toInt := ha_160
              rw [show (19 : Int32).toInt = 19 from by decide +kernel] at ha_160
              refine lv_if_eq (pc := 131) (tgt := 167) E.1 E.2.1 dX12_readPath_131 (by decide) (fun c_161 => absurd c_161 (mneE (a := 1) (b := 0) (by decide +kernel) (by decide +kernel) (by decide +kernel))) (fun _ => ?_)
              refine lv_aload_n (pc := 134) E.1 E.2.1 dX12_readPath_134 rfl (lv_at hl3 0 rfl) ?_
              refine cm_v (pc := 135) hw157 (rn_M (As := []) (rest := []) E hw157 (s_reads2 l D cI cJ _ M mr (upd (upd (upd (upd (upd (upd mi 22 nspot_120) 23 nfrom_121) 24 ntoken_122) 25 nvalue_123) 38 nreadFault_124) 39 nreadPlace_125) (va_up mf 43 g_151) mg (ax73r33c_15 hp_128 hp_127) hp_129 h3 h7 (show (∀ j : Nat, j < 154 → (mf 26) j = w0 j) from lf_words)) (gdV q_1666 q_1668 q_52 q_162 q_1669) hdV_X12_reads ⟨rfl, rfl⟩ ⟨(Nat.le_of_ble_eq_true rfl), (Nat.le_of_ble_eq_true rfl)⟩ ⟨(Nat.le_of_ble_eq_true rfl), (Nat.le_of_ble_eq_true rfl)⟩ 12 rfl rfl rfl rfl hl3.1 rfl (Nat.le_of_ble_eq_true rfl) dX12_readPath_135) (fun u_162 H1 locs hp hw164 => ?_)
              obtain ⟨nspot_165, nfrom_166, ntoken_167, nvalue_168⟩ := u_162
              generalize H1 = H at hw164 ⊢
              have hw169 : WD D A s.heap (MW cI cJ M mr (upd (upd (upd (upd (upd (upd mi 22 nspot_165) 23 nfrom_166) 24 ntoken_167) 25 nvalue_168) 38 nreadFault_124) 39 nreadPlace_125) (va_up mf 43 g_151) mg) H locs := hw164
              obtain ⟨hp_170, hp_171, hp_172, hp_173, hp_174, hp_175, hp_176, hp_177⟩ := hp
              have hp_170 : 0 ≤ nfrom_166.toInt := hp_170
              have hp_171 : nfrom_166.toInt ≤ nspot_165.toInt := hp_171
              have hp_172 : nspot_165.toInt ≤ (mi 21).toInt := hp_172
              have hp_173 : 0 ≤ ntoken_167.toInt := hp_173
              have hp_174 : ntoken_167.toInt ≤ 4 := hp_174
              have hp_175 : ntoken_167.toInt ≤ 4 * nspot_165.toInt - 4 * nfrom_166.toInt := hp_175
              have hp_176 : nspot_120.toInt ≤ nfrom_166.toInt := hp_176
              have hp_177 : AGN ntoken_167.toInt nvalue_168.toInt nfrom_166.toInt nspot_165.toInt := hp_177
              refine lv_aload_n (pc := 138) E.1 E.2.1 dX12_readPath_138 rfl (lv_at hl3 0 rfl) ?_
              refine x_get (pc := 139) (T := TX12) (N := 70) (ci := 12) (v := .ref (mr 43)) E hw169 inX12 0 43 q_1442 rfl rfl (by decide) rfl rfl dX12_readPath_139 ?_
              refine lv_iload_n (pc := 142) E.1 E.2.1 dX12_readPath_142 rfl (lv_at hl3 1 rfl) ?_
              refine lv_iconst (pc := 143) (v := 3) E.1 E.2.1 dX12_readPath_143 (by decide +kernel) ?_
              refine lv_iadd (pc := 144) E.1 E.2.1 dX12_readPath_144 ?_
              refine lv_topi (fun v_178 ev_178 => ?_)
              have hv_178 : v_178.toInt = z_at.toInt + 3 := by rw [ev_178]; exact addE rfl (by decide +kernel) (ax73r33c_13 h9)
              refine lv_aload_n (pc := 145) E.1 E.2.1 dX12_readPath_145 rfl (lv_at hl3 0 rfl) ?_
              refine lv_iconst (pc := 146) (v := 0) E.1 E.2.1 dX12_readPath_146 (by decide +kernel) ?_
              refine lv_bipush (pc := 147) (v := 9) E.1 E.2.1 dX12_readPath_147 (by decide +kernel) ?_
              refine cm_i (pc := 149) hw169 (rn_M (As := [.int 0, .int 9]) (rest := [.int v_178, .ref (mr 43)]) E hw169 (s_readNumber l D cI cJ _ M mr (upd (upd (upd (upd (upd (upd mi 22 nspot_165) 23 nfrom_166) 24 ntoken_167) 25 nvalue_168) 38 nreadFault_124) 39 nreadPlace_125) (va_up mf 43 g_151) mg 0 9 hp_170 hp_171 hp_172 h3 hp_173 hp_174 hp_175 h7 (show (∀ j : Nat, j < 154 → (mf 26) j = w0 j) from lf_words) (show AGN ntoken_167.toInt nvalue_168.toInt nfrom_166.toInt nspot_165.toInt from hp_177)) (gdV q_1706 q_1708 q_62 q_162 q_1709) hdV_X12_readNumber ⟨rfl, rfl⟩ ⟨(Nat.le_of_ble_eq_true rfl), (Nat.le_of_ble_eq_true rfl)⟩ ⟨(Nat.le_of_ble_eq_true rfl), (Nat.le_of_ble_eq_true rfl)⟩ 12 rfl rfl rfl rfl hl3.1 rfl (Nat.le_of_ble_eq_true rfl) dX12_readPath_149) (fun r_180 u_179 H1 locs hp hw181 => ?_)
              obtain ⟨nspot_182, nfrom_183, ntoken_184, nvalue_185, nreadFault_186, nreadPlace_187⟩ := u_179
              generalize H1 = H at hw181 ⊢
              have hw188 : WD D A s.heap (MW cI cJ M mr (upd (upd (upd (upd (upd (upd mi 22 nspot_182) 23 nfrom_183) 24 ntoken_184) 25 nvalue_185) 38 nreadFault_186) 39 nreadPlace_187) (va_up mf 43 g_151) mg) H locs := hw181
              obtain ⟨hp_189, hp_190, hp_191, hp_192, hp_193, hp_194, hp_195, hp_196⟩ := hp
              have hp_189 : 0 ≤ nfrom_183.toInt := hp_189
              have hp_190 : nfrom_183.toInt ≤ nspot_182.toInt := hp_190
              have hp_191 : nspot_182.toInt ≤ (mi 21).toInt := hp_191
              have hp_192 : 0 ≤ ntoken_184.toInt := hp_192
              have hp_193 : ntoken_184.toInt ≤ 4 := hp_193
              have hp_194 : ntoken_184.toInt ≤ 4 * nspot_182.toInt - 4 * nfrom_183.toInt := hp_194
              have hp_195 : AGN ntoken_184.toInt nvalue_185.toInt nfrom_183.toInt nspot_182.toInt := hp_195
              rcases hp_196 with rfl | ⟨ha_197, ha_198, ha_199⟩
              · skip
                refine x_iastG (pc := 152) (f := g_151) (wf := fun g => (MW cI cJ M mr (upd (upd (upd (upd (upd (upd mi 22 nspot_182) 23 nfrom_183) 24 ntoken_184) 25 nvalue_185) 38 nreadFault_186) 39 nreadPlace_187) (va_up mf 43 g) mg)) E hw188 21 rfl (inbE (a := v_178.toInt) rfl (ax73r33c_14 hv_178 h9)) (fun _ => rfl) dX12_readPath_152 (fun g_200 H locs eg_200 hw201 => ?_)
                have hpk_202 : pathsOK g_200 := pathsOK_hi hpk_153 eg_200 (by omega)
                refine lv_aload_n (pc := 153) E.1 E.2.1 dX12_readPath_153 rfl (lv_at hl3 0 rfl) ?_
                refine x_get (pc := 154) (T := TX12) (N := 70) (ci := 12) (v := .ref (mr 43)) E hw201 inX12 0 43 q_1442 rfl rfl (by decide) rfl rfl dX12_readPath_154 ?_
                refine lv_iload_n (pc := 157) E.1 E.2.1 dX12_readPath_157 rfl (lv_at hl3 1 rfl) ?_
                refine lv_iconst (pc := 158) (v := 3) E.1 E.2.1 dX12_readPath_158 (by decide +kernel) ?_
                refine lv_iadd (pc := 159) E.1 E.2.1 dX12_readPath_159 ?_
                refine lv_topi (fun v_203 ev_203 => ?_)
                have hv_203 : v_203.toInt = z_at.toInt + 3 := by rw [ev_203]; exact addE rfl (by decide +kernel) (ax73r33c_13 h9)
                refine x_iald (pc := 160) (f := g_200) E hw201 21 rfl (inbE (a := v_203.toInt) rfl (ax73r33c_14 hv_203 h9)) dX12_readPath_160 ?_
                refine lv_topi (fun v_204 ev_204 => ?_)
                have hsv_204 : v_204.toInt = ((-1) : Int32).toInt := by rw [ev_204, eg_200, show v_203.toNatClampNeg = v_178.toNatClampNeg from (tcEax73r33c_ (ax73r33c_16 hv_178 hv_203)), pk_us]
                rw [show ((-1) : Int32).toInt = -1 from by decide +kernel] at hsv_204
                refine lv_iconst (pc := 161) (v := (-1)) E.1 E.2.1 dX12_readPath_161 (by decide +kernel) ?_
                refine lv_icmp_ne (pc := 162) (tgt := 167) E.1 E.2.1 dX12_readPath_162 (by decide) (fun c_205 => absurd (meqE (a := v_204.toInt) (b := (-1)) rfl (by decide +kernel) (ax73r33c_3 hsv_204)) c_205) (fun _ => ?_)
                refine lv_iconst (pc := 165) (v := (-1)) E.1 E.2.1 dX12_readPath_165 (by decide +kernel) ?_
                exact em_i (w1 := (fun (u : Int32 × Int32 × Int32 × Int32 × Int32 × Int32 × (Nat → Int32)) => (MW cI cJ M mr (upd (upd (upd (upd (upd (upd mi 22 u.1) 23 u.2.1) 24 u.2.2.1) 25 u.2.2.2.1) 38 u.2.2.2.2.1) 39 u.2.2.2.2.2.1) (va_up mf 43 u.2.2.2.2.2.2) mg))) E hr hlk (nspot_182, nfrom_183, ntoken_184, nvalue_185, nreadFault_186, nreadPlace_187, g_200) hw201 ⟨hp_189, hp_190, hp_191, hp_192, hp_193, hp_194, hpk_202, hp_195, (fun h => absurd h (by decide +kernel)), (Or.inl rfl)⟩ (Nat.le_of_ble_eq_true rfl) (Nat.le_of_ble_eq_true rfl) dX12_readPath_166
              · skip
                have ha_197 : (0 : Int32).toInt ≤ r_180.toInt := ha_197
                rw [show (0 : Int32).toInt = 0 from by decide +kernel] at ha_197
                have ha_198 : r_180.toInt ≤ (9 : Int32).toInt := ha_198
                rw [show (9 : Int32).toInt = 9 from by decide +kernel] at ha_198
                have ha_199 : nfrom_166.toInt + 1 ≤ nfrom_183.toInt := ha_199
                refine x_iastG (pc := 152) (f := g_151) (wf := fun g => (MW cI cJ M mr (upd (upd (upd (upd (upd (upd mi 22 nspot_182) 23 nfrom_183) 24 ntoken_184) 25 nvalue_185) 38 nreadFault_186) 39 nreadPlace_187) (va_up mf 43 g) mg)) E hw188 21 rfl (inbE (a := v_178.toInt) rfl (ax73r33c_14 hv_178 h9)) (fun _ => rfl) dX12_readPath_152 (fun g_206 H locs eg_206 hw207 => ?_)
                have hpk_208 : pathsOK g_206 := pathsOK_hi hpk_153 eg_206 (by omega)
                refine lv_aload_n (pc := 153) E.1 E.2.1 dX12_readPath_153 rfl (lv_at hl3 0 rfl) ?_
                refine x_get (pc := 154) (T := TX12) (N := 70) (ci := 12) (v := .ref (mr 43)) E hw207 inX12 0 43 q_1442 rfl rfl (by decide) rfl rfl dX12_readPath_154 ?_
                refine lv_iload_n (pc := 157) E.1 E.2.1 dX12_readPath_157 rfl (lv_at hl3 1 rfl) ?_
                refine lv_iconst (pc := 158) (v := 3) E.1 E.2.1 dX12_readPath_158 (by decide +kernel) ?_
                refine lv_iadd (pc := 159) E.1 E.2.1 dX12_readPath_159 ?_
                refine lv_topi (fun v_209 ev_209 => ?_)
                have hv_209 : v_209.toInt = z_at.toInt + 3 := by rw [ev_209]; exact addE rfl (by decide +kernel) (ax73r33c_13 h9)
                refine x_iald (pc := 160) (f := g_206) E hw207 21 rfl (inbE (a := v_209.toInt) rfl (ax73r33c_14 hv_209 h9)) dX12_readPath_160 ?_
                refine lv_topi (fun v_210 ev_210 => ?_)
                have hsv_210 : v_210.toInt = r_180.toInt := by rw [ev_210, eg_206, show v_209.toNatClampNeg = v_178.toNatClampNeg from (tcEax73r33c_ (ax73r33c_16 hv_178 hv_209)), pk_us]
                refine lv_iconst (pc := 161) (v := (-1)) E.1 E.2.1 dX12_readPath_161 (by decide +kernel) ?_
                refine lv_icmp_ne (pc := 162) (tgt := 167) E.1 E.2.1 dX12_readPath_162 (by decide) (fun _ => ?_) (fun c_211 => absurd c_211 (mneE (a := v_210.toInt) (b := (-1)) rfl (by decide +kernel) (ax73r33c_4 hsv_210 ha_197)))
                refine lv_aload_n (pc := 167) E.1 E.2.1 dX12_readPath_167 rfl (lv_at hl3 0 rfl) ?_
                refine lv_bipush (pc := 168) (v := 59) E.1 E.2.1 dX12_readPath_168 (by decide +kernel) ?_
                refine cm_i (pc := 170) hw207 (rn_M (As := [.int 59]) (rest := []) E hw207 (s_readMark l D cI cJ _ M mr (upd (upd (upd (upd (upd (upd mi 22 nspot_182) 23 nfrom_183) 24 ntoken_184) 25 nvalue_185) 38 nreadFault_186) 39 nreadPlace_187) (va_up mf 43 g_206) mg 59 hp_189 hp_190 hp_191 h3 hp_192 hp_193 hp_194 h7 (show (∀ j : Nat, j < 154 → (mf 26) j = w0 j) from lf_words) (show AGN ntoken_184.toInt nvalue_185.toInt nfrom_183.toInt nspot_182.toInt from hp_195)) (gdV q_1714 q_1716 q_64 q_162 q_1717) hdV_X12_readMark ⟨rfl, rfl⟩ ⟨(Nat.le_of_ble_eq_true rfl), (Nat.le_of_ble_eq_true rfl)⟩ ⟨(Nat.le_of_ble_eq_true rfl), (Nat.le_of_ble_eq_true rfl)⟩ 12 rfl rfl rfl rfl hl3.1 rfl (Nat.le_of_ble_eq_true rfl) dX12_readPath_170) (fun r_213 u_212 H1 locs hp hw214 => ?_)
                obtain ⟨nspot_215, nfrom_216, ntoken_217, nvalue_218, nreadFault_219, nreadPlace_220⟩ := u_212
                generalize H1 = H at hw214 ⊢
                have hw221 : WD D A s.heap (MW cI cJ M mr (upd (upd (upd (upd (upd (upd mi 22 nspot_215) 23 nfrom_216) 24 ntoken_217) 25 nvalue_218) 38 nreadFault_219) 39 nreadPlace_220) (va_up mf 43 g_206) mg) H locs := hw214
                obtain ⟨hp_222, hp_223, hp_224, hp_225, hp_226, hp_227, hp_228, hp_229⟩ := hp
                have hp_222 : 0 ≤ nfrom_216.toInt := hp_222
                have hp_223 : nfrom_216.toInt ≤ nspot_215.toInt := hp_223
                have hp_224 : nspot_215.toInt ≤ (mi 21).toInt := hp_224
                have hp_225 : 0 ≤ ntoken_217.toInt := hp_225
                have hp_226 : ntoken_217.toInt ≤ 4 := hp_226
                have hp_227 : ntoken_217.toInt ≤ 4 * nspot_215.toInt - 4 * nfrom_216.toInt := hp_227
                have hp_228 : AGN ntoken_217.toInt nvalue_218.toInt nfrom_216.toInt nspot_215.toInt := hp_228
                rcases hp_229 with rfl | ⟨rfl, ha_230⟩
                · skip
                  exact em_i (w1 := (fun (u : Int32 × Int32 × Int32 × Int32 × Int32 × Int32 × (Nat → Int32)) => (MW cI cJ M mr (upd (upd (upd (upd (upd (upd mi 22 u.1) 23 u.2.1) 24 u.2.2.1) 25 u.2.2.2.1) 38 u.2.2.2.2.1) 39 u.2.2.2.2.2.1) (va_up mf 43 u.2.2.2.2.2.2) mg))) E hr hlk (nspot_215, nfrom_216, ntoken_217, nvalue_218, nreadFault_219, nreadPlace_220, g_206) hw221 ⟨hp_222, hp_223, hp_224, hp_225, hp_226, hp_227, hpk_208, hp_228, (fun h => absurd h (by decide +kernel)), (Or.inl rfl)⟩ (Nat.le_of_ble_eq_true rfl) (Nat.le_of_ble_eq_true rfl) dX12_readPath_173
                · skip
                  have ha_230 : nfrom_183.toInt + 1 ≤ nfrom_216.toInt := ha_230
                  exact em_i (w1 := (fun (u : Int32 × Int32 × Int32 × Int32 × Int32 × Int32 × (Nat → Int32)) => (MW cI cJ M mr (upd (upd (upd (upd (upd (upd mi 22 u.1) 23 u.2.1) 24 u.2.2.1) 25 u.2.2.2.1) 38 u.2.2.2.2.1) 39 u.2.2.2.2.2.1) (va_up mf 43 u.2.2.2.2.2.2) mg))) E hr hlk (nspot_215, nfrom_216, ntoken_217, nvalue_218, nreadFault_219, nreadPlace_220, g_206) hw221 ⟨hp_222, hp_223, hp_224, hp_225, hp_226, hp_227, hpk_208, hp_228, (fun _ => (show PT (mf 43) g_206 (z_at).toNatClampNeg from ⟨⟨(by have q0 := idxI (x := z_at) (by omega); rw [un1 eg_206 (by omega) (by omega), un1 eg_151 (by omega) (by omega), un1 eg_144 (by omega) (by omega), un1 eg_89 (by omega) (by omega), us1 eg_33 (by omega) (by omega)]; omega), (by have q0 := idxI (x := z_at) (by omega); rw [un1 eg_206 (by omega) (by omega), un1 eg_151 (by omega) (by omega), un1 eg_144 (by omega) (by omega), us1 eg_89 (by omega) (by omega)]; omega)⟩, fun j hj => by have q0 := idxI (x := z_at) (by omega); rw [un1 eg_206 (by omega) (by omega), un1 eg_151 (by omega) (by omega), un1 eg_144 (by omega) (by omega), un1 eg_89 (by omega) (by omega), un1 eg_33 (by omega) (by omega)]⟩)), (Or.inr (⟨rfl, (by show (mi 23).toInt + 1 ≤ nfrom_216.toInt; omega)⟩))⟩ (Nat.le_of_ble_eq_true rfl) (Nat.le_of_ble_eq_true rfl) dX12_readPath_173
            · skip
              refine lv_if_eq (pc := 131) (tgt := 167) E.1 E.2.1 dX12_readPath_131 (by decide) (fun _ => ?_) (fun c_231 => absurd (meqE (a := 0) (b := 0) (by decide +kernel) (by decide +kernel) (by decide +kernel)) c_231)
              refine lv_aload_n (pc := 167) E.1 E.2.1 dX12_readPath_167 rfl (lv_at hl3 0 rfl) ?_
              refine lv_bipush (pc := 168) (v := 59) E.1 E.2.1 dX12_readPath_168 (by decide +kernel) ?_
              refine cm_i (pc := 170) hw157 (rn_M (As := [.int 59]) (rest := []) E hw157 (s_readMark l D cI cJ _ M mr (upd (upd (upd (upd (upd (upd mi 22 nspot_120) 23 nfrom_121) 24 ntoken_122) 25 nvalue_123) 38 nreadFault_124) 39 nreadPlace_125) (va_up mf 43 g_151) mg 59 hp_127 hp_128 hp_129 h3 hp_130 hp_131 hp_132 h7 (show (∀ j : Nat, j < 154 → (mf 26) j = w0 j) from lf_words) (show AGN ntoken_122.toInt nvalue_123.toInt nfrom_121.toInt nspot_120.toInt from hp_133)) (gdV q_1714 q_1716 q_64 q_162 q_1717) hdV_X12_readMark ⟨rfl, rfl⟩ ⟨(Nat.le_of_ble_eq_true rfl), (Nat.le_of_ble_eq_true rfl)⟩ ⟨(Nat.le_of_ble_eq_true rfl), (Nat.le_of_ble_eq_true rfl)⟩ 12 rfl rfl rfl rfl hl3.1 rfl (Nat.le_of_ble_eq_true rfl) dX12_readPath_170) (fun r_233 u_232 H1 locs hp hw234 => ?_)
              obtain ⟨nspot_235, nfrom_236, ntoken_237, nvalue_238, nreadFault_239, nreadPlace_240⟩ := u_232
              generalize H1 = H at hw234 ⊢
              have hw241 : WD D A s.heap (MW cI cJ M mr (upd (upd (upd (upd (upd (upd mi 22 nspot_235) 23 nfrom_236) 24 ntoken_237) 25 nvalue_238) 38 nreadFault_239) 39 nreadPlace_240) (va_up mf 43 g_151) mg) H locs := hw234
              obtain ⟨hp_242, hp_243, hp_244, hp_245, hp_246, hp_247, hp_248, hp_249⟩ := hp
              have hp_242 : 0 ≤ nfrom_236.toInt := hp_242
              have hp_243 : nfrom_236.toInt ≤ nspot_235.toInt := hp_243
              have hp_244 : nspot_235.toInt ≤ (mi 21).toInt := hp_244
              have hp_245 : 0 ≤ ntoken_237.toInt := hp_245
              have hp_246 : ntoken_237.toInt ≤ 4 := hp_246
              have hp_247 : ntoken_237.toInt ≤ 4 * nspot_235.toInt - 4 * nfrom_236.toInt := hp_247
              have hp_248 : AGN ntoken_237.toInt nvalue_238.toInt nfrom_236.toInt nspot_235.toInt := hp_248
              rcases hp_249 with rfl | ⟨rfl, ha_250⟩
              · skip
                exact em_i (w1 := (fun (u : Int32 × Int32 × Int32 × Int32 × Int32 × Int32 × (Nat → Int32)) => (MW cI cJ M mr (upd (upd (upd (upd (upd (upd mi 22 u.1) 23 u.2.1) 24 u.2.2.1) 25 u.2.2.2.1) 38 u.2.2.2.2.1) 39 u.2.2.2.2.2.1) (va_up mf 43 u.2.2.2.2.2.2) mg))) E hr hlk (nspot_235, nfrom_236, ntoken_237, nvalue_238, nreadFault_239, nreadPlace_240, g_151) hw241 ⟨hp_242, hp_243, hp_244, hp_245, hp_246, hp_247, hpk_153, hp_248, (fun h => absurd h (by decide +kernel)), (Or.inl rfl)⟩ (Nat.le_of_ble_eq_true rfl) (Nat.le_of_ble_eq_true rfl) dX12_readPath_173
              · skip
                have ha_250 : nfrom_121.toInt + 1 ≤ nfrom_236.toInt := ha_250
                exact em_i (w1 := (fun (u : Int32 × Int32 × Int32 × Int32 × Int32 × Int32 × (Nat → Int32)) => (MW cI cJ M mr (upd (upd (upd (upd (upd (upd mi 22 u.1) 23 u.2.1) 24 u.2.2.1) 25 u.2.2.2.1) 38 u.2.2.2.2.1) 39 u.2.2.2.2.2.1) (va_up mf 43 u.2.2.2.2.2.2) mg))) E hr hlk (nspot_235, nfrom_236, ntoken_237, nvalue_238, nreadFault_239, nreadPlace_240, g_151) hw241 ⟨hp_242, hp_243, hp_244, hp_245, hp_246, hp_247, hpk_153, hp_248, (fun _ => (show PT (mf 43) g_151 (z_at).toNatClampNeg from ⟨⟨(by have q0 := idxI (x := z_at) (by omega); rw [un1 eg_151 (by omega) (by omega), un1 eg_144 (by omega) (by omega), un1 eg_89 (by omega) (by omega), us1 eg_33 (by omega) (by omega)]; omega), (by have q0 := idxI (x := z_at) (by omega); rw [un1 eg_151 (by omega) (by omega), un1 eg_144 (by omega) (by omega), us1 eg_89 (by omega) (by omega)]; omega)⟩, fun j hj => by have q0 := idxI (x := z_at) (by omega); rw [un1 eg_151 (by omega) (by omega), un1 eg_144 (by omega) (by omega), un1 eg_89 (by omega) (by omega), un1 eg_33 (by omega) (by omega)]⟩)), (Or.inr (⟨rfl, (ax73r33c_17 ha_26 ha_250 ha_57 ha_137 ha_82 ha_113)⟩))⟩ (Nat.le_of_ble_eq_true rfl) (Nat.le_of_ble_eq_true rfl) dX12_readPath_173

set_option maxHeartbeats 4000000 in
set_option maxRecDepth 100000 in
theorem s_readPaths (l : Launch) (D : va_G) (cI cJ : ClassId) (sz M : Nat) (mr : Nat → Nat) (mi : Nat → Int32) (mf : Nat → Nat → Int32) (mg : Nat → Nat → Int64)  (h0 : 0 ≤ (mi 23).toInt) (h1 : (mi 23).toInt ≤ (mi 22).toInt) (h2 : (mi 22).toInt ≤ (mi 21).toInt) (h3 : (mi 21).toInt ≤ 400) (h4 : 0 ≤ (mi 24).toInt) (h5 : (mi 24).toInt ≤ 4) (h6 : (mi 24).toInt ≤ 4 * (mi 22).toInt - 4 * (mi 23).toInt) (h7 : ((mf 26) 153).toInt = 32) (h8 : 0 ≤ (mi 6).toInt ∧ (mi 6).toInt ≤ 10) (a_paths : pathsOK (mf 43)) (lf_words : (∀ j : Nat, j < 154 → (mf 26) j = w0 j)) (lf_again : AGN ((mi 24).toInt) ((mi 25).toInt) ((mi 23).toInt) ((mi 22).toInt)) : Met l yX12_readPaths (Cond.code yX12_readPaths cX12_readPaths 2 (some .int) :: GW) ({ frames := 6, cells := 0, slots := 0, locals := 149 } : Room) (va_Pc [.ref M] (PW D cI cJ sz (MW cI cJ M mr mi mf mg) xT)) (va_Qi (fun (r : Int32) (u : Int32 × Int32 × Int32 × Int32 × Int32 × Int32 × (Nat → Int32)) => (0 ≤ u.2.1.toInt) ∧ (u.2.1.toInt ≤ u.1.toInt) ∧ (u.1.toInt ≤ (mi 21).toInt) ∧ (0 ≤ u.2.2.1.toInt) ∧ (u.2.2.1.toInt ≤ 4) ∧ (u.2.2.1.toInt ≤ 4 * u.1.toInt - 4 * u.2.1.toInt) ∧ (pathsOK u.2.2.2.2.2.2) ∧ (AGN u.2.2.1.toInt u.2.2.2.1.toInt u.2.1.toInt u.1.toInt) ∧ ((0 ≤ (r : Int32).toInt → PD u.2.2.2.2.2.2 (r : Int32).toInt)) ∧ ((r = (-1)) ∨ (0 ≤ r.toInt ∧ r.toInt ≤ 40))) (fun u => QW D cI cJ (va_A (MW cI cJ M mr mi mf mg) sz) ((fun (u : Int32 × Int32 × Int32 × Int32 × Int32 × Int32 × (Nat → Int32)) => (MW cI cJ M mr (upd (upd (upd (upd (upd (upd mi 22 u.1) 23 u.2.1) 24 u.2.2.1) 25 u.2.2.2.1) 38 u.2.2.2.2.1) 39 u.2.2.2.2.2.1) (va_up mf 43 u.2.2.2.2.2.2) mg)) u)) (va_A (MW cI cJ M mr mi mf mg) sz)) 0 0 (va_A (MW cI cJ M mr mi mf mg) sz) := by
  refine mk_met (y := yX12_readPaths) (bytes := cX12_readPaths) (maxL := 2) (avs := [.ref M]) (WS := (MW cI cJ M mr mi mf mg)) (Qf := fun A => va_Qi (fun (r : Int32) (u : Int32 × Int32 × Int32 × Int32 × Int32 × Int32 × (Nat → Int32)) => (0 ≤ u.2.1.toInt) ∧ (u.2.1.toInt ≤ u.1.toInt) ∧ (u.1.toInt ≤ (mi 21).toInt) ∧ (0 ≤ u.2.2.1.toInt) ∧ (u.2.2.1.toInt ≤ 4) ∧ (u.2.2.1.toInt ≤ 4 * u.1.toInt - 4 * u.2.1.toInt) ∧ (pathsOK u.2.2.2.2.2.2) ∧ (AGN u.2.2.1.toInt u.2.2.2.1.toInt u.2.1.toInt u.1.toInt) ∧ ((0 ≤ (r : Int32).toInt → PD u.2.2.2.2.2.2 (r : Int32).toInt)) ∧ ((r = (-1)) ∨ (0 ≤ r.toInt ∧ r.toInt ≤ 40))) (fun u => QW D cI cJ A ((fun (u : Int32 × Int32 × Int32 × Int32 × Int32 × Int32 × (Nat → Int32)) => (MW cI cJ M mr (upd (upd (upd (upd (upd (upd mi 22 u.1) 23 u.2.1) 24 u.2.2.1) 25 u.2.2.2.1) 38 u.2.2.2.2.1) 39 u.2.2.2.2.2.1) (va_up mf 43 u.2.2.2.2.2.2) mg)) u)) A) (by decide) (Nat.le_of_ble_eq_true rfl) ?_
  intro p e s m below meth c A ls E hr hlk hnm hX hw1 hl2
  have hl3 : lv_has ls 2 [(0, .ref M)] := hl2
  refine lv_iconst (pc := 0) (v := 0) E.1 E.2.1 dX12_readPaths_0 (by decide +kernel) ?_
  refine lv_istore_n (pc := 1) (lv' := [(1, .int 0), (0, .ref M)]) E.1 E.2.1 dX12_readPaths_1 rfl hl3 (by decide) rfl (fun ls hl4 => ?_)
  have loop_5 : ∀ (k : Nat) (x_6 : Int32) (x_7 : Int32) (x_8 : Int32) (x_9 : Int32) (x_10 : Int32) (x_11 : Int32) (x_12 : Int32) (g_13 : Nat → Int32) (H : Heap) (locs : List Loc) (ls : Array Slot), (0 ≤ x_8.toInt) ∧ (x_8.toInt ≤ x_7.toInt) ∧ (x_7.toInt ≤ (mi 21).toInt) ∧ (0 ≤ x_9.toInt) ∧ (x_9.toInt ≤ 4) ∧ (x_9.toInt ≤ 4 * x_7.toInt - 4 * x_8.toInt) ∧ (0 ≤ x_6.toInt) ∧ (x_6.toInt ≤ 40) ∧ pathsOK g_13 ∧ (PD g_13 x_6.toInt) ∧ (AGN x_9.toInt x_10.toInt x_8.toInt x_7.toInt) → (mi 21).toInt - x_8.toInt < (k : Int) → WD D A s.heap (MW cI cJ M mr (upd (upd (upd (upd (upd (upd mi 22 x_7) 23 x_8) 24 x_9) 25 x_10) 38 x_11) 39 x_12) (va_up mf 43 g_13) mg) H locs → lv_has ls 2 [(1, .int x_6), (0, .ref M)] → W p l e ({ frames := 6, cells := 0, slots := 0, locals := 149 } : Room) s m ([.ref M] : List Value).toArray below meth c H locs 0 0 (MQ below (va_Qi (fun (r : Int32) (u : Int32 × Int32 × Int32 × Int32 × Int32 × Int32 × (Nat → Int32)) => (0 ≤ u.2.1.toInt) ∧ (u.2.1.toInt ≤ u.1.toInt) ∧ (u.1.toInt ≤ (mi 21).toInt) ∧ (0 ≤ u.2.2.1.toInt) ∧ (u.2.2.1.toInt ≤ 4) ∧ (u.2.2.1.toInt ≤ 4 * u.1.toInt - 4 * u.2.1.toInt) ∧ (pathsOK u.2.2.2.2.2.2) ∧ (AGN u.2.2.1.toInt u.2.2.2.1.toInt u.2.1.toInt u.1.toInt) ∧ ((0 ≤ (r : Int32).toInt → PD u.2.2.2.2.2.2 (r : Int32).toInt)) ∧ ((r = (-1)) ∨ (0 ≤ r.toInt ∧ r.toInt ≤ 40))) (fun u => QW D cI cJ A ((fun (u : Int32 × Int32 × Int32 × Int32 × Int32 × Int32 × (Nat → Int32)) => (MW cI cJ M mr (upd (upd (upd (upd (upd (upd mi 22 u.1) 23 u.2.1) 24 u.2.2.1) 25 u.2.2.2.1) 38 u.2.2.2.2.1) 39 u.2.2.2.2.2.1) (va_up mf 43 u.2.2.2.2.2.2) mg)) u)) A) ([.ref M] : List Value).toArray s 0 0 A) (F0 m 2 ls []) := by
    intro k
    induction k with
    | zero =>
      intro x_6 x_7 x_8 x_9 x_10 x_11 x_12 g_13 _ _ _ hinv hm
      obtain ⟨hi_13_0, hi_13_1, hi_13_2, hi_13_3, hi_13_4, hi_13_5, hi_13_6, hi_13_7, hi_13_8, hi_13_9, hi_13_10⟩ := hinv
      exact absurd hm (by omega)
    | succ k ih_14 =>
      intro x_6 x_7 x_8 x_9 x_10 x_11 x_12 g_13 H locs ls hinv hm hw15 hl16
      obtain ⟨hi_13_0, hi_13_1, hi_13_2, hi_13_3, hi_13_4, hi_13_5, hi_13_6, hi_13_7, hi_13_8, hi_13_9, hi_13_10⟩ := hinv
      refine lv_aload_n (pc := 2) E.1 E.2.1 dX12_readPaths_2 rfl (lv_at hl16 1 rfl) ?_
      refine lv_bipush (pc := 3) (v := 16) E.1 E.2.1 dX12_readPaths_3 (by decide +kernel) ?_
      refine cm_i (pc := 5) hw15 (rn_M (As := [.int 16]) (rest := []) E hw15 (s_isWord2 l D cI cJ _ M mr (upd (upd (upd (upd (upd (upd mi 22 x_7) 23 x_8) 24 x_9) 25 x_10) 38 x_11) 39 x_12) (va_up mf 43 g_13) mg 16) (gdV q_1694 q_1696 q_59 q_162 q_1697) hdV_X12_isWord ⟨rfl, rfl⟩ ⟨(Nat.le_of_ble_eq_true rfl), (Nat.le_of_ble_eq_true rfl)⟩ ⟨(Nat.le_of_ble_eq_true rfl), (Nat.le_of_ble_eq_true rfl)⟩ 12 rfl rfl rfl rfl hl16.1 rfl (Nat.le_of_ble_eq_true rfl) dX12_readPaths_5) (fun r_18 u_17 H1 locs hp hw19 => ?_)
      generalize H1 = H at hw19 ⊢
      have hw20 : WD D A s.heap (MW cI cJ M mr (upd (upd (upd (upd (upd (upd mi 22 x_7) 23 x_8) 24 x_9) 25 x_10) 38 x_11) 39 x_12) (va_up mf 43 g_13) mg) H locs := hw19
      have hp_21 := hp
      rcases hp_21 with ⟨rfl, ha_22, ha_23⟩ | rfl
      · skip
        have ha_22 : x_9.toInt = 2 := ha_22
        have ha_23 : x_10.toInt = (16 : Int32).toInt := ha_23
        rw [show (16 : Int32).toInt = 16 from by decide +kernel] at ha_23
        refine lv_if_eq (pc := 8) (tgt := 51) E.1 E.2.1 dX12_readPaths_8 (by decide) (fun c_24 => absurd c_24 (mneE (a := 1) (b := 0) (by decide +kernel) (by decide +kernel) (by decide +kernel))) (fun _ => ?_)
        refine lv_iload_n (pc := 11) E.1 E.2.1 dX12_readPaths_11 rfl (lv_at hl16 0 rfl) ?_
        refine lv_bipush (pc := 12) (v := 40) E.1 E.2.1 dX12_readPaths_12 (by decide +kernel) ?_
        refine lv_icmp_ne (pc := 14) (tgt := 23) E.1 E.2.1 dX12_readPaths_14 (by decide) (fun c_25 => ?_) (fun c_25 => ?_)
        · skip
          have hc_25 := neE (a := x_6.toInt) (b := 40) rfl (by decide +kernel) c_25
          refine lv_aload_n (pc := 23) E.1 E.2.1 dX12_readPaths_23 rfl (lv_at hl16 1 rfl) ?_
          refine cm_v (pc := 24) hw20 (rn_M (As := []) (rest := []) E hw20 (s_reads2 l D cI cJ _ M mr (upd (upd (upd (upd (upd (upd mi 22 x_7) 23 x_8) 24 x_9) 25 x_10) 38 x_11) 39 x_12) (va_up mf 43 g_13) mg (ax73r33c_15 hi_13_1 hi_13_0) hi_13_2 h3 h7 (show (∀ j : Nat, j < 154 → (mf 26) j = w0 j) from lf_words)) (gdV q_1666 q_1668 q_52 q_162 q_1669) hdV_X12_reads ⟨rfl, rfl⟩ ⟨(Nat.le_of_ble_eq_true rfl), (Nat.le_of_ble_eq_true rfl)⟩ ⟨(Nat.le_of_ble_eq_true rfl), (Nat.le_of_ble_eq_true rfl)⟩ 12 rfl rfl rfl rfl hl16.1 rfl (Nat.le_of_ble_eq_true rfl) dX12_readPaths_24) (fun u_26 H1 locs hp hw28 => ?_)
          obtain ⟨nspot_29, nfrom_30, ntoken_31, nvalue_32⟩ := u_26
          generalize H1 = H at hw28 ⊢
          have hw33 : WD D A s.heap (MW cI cJ M mr (upd (upd (upd (upd (upd (upd mi 22 nspot_29) 23 nfrom_30) 24 ntoken_31) 25 nvalue_32) 38 x_11) 39 x_12) (va_up mf 43 g_13) mg) H locs := hw28
          obtain ⟨hp_34, hp_35, hp_36, hp_37, hp_38, hp_39, hp_40, hp_41⟩ := hp
          have hp_34 : 0 ≤ nfrom_30.toInt := hp_34
          have hp_35 : nfrom_30.toInt ≤ nspot_29.toInt := hp_35
          have hp_36 : nspot_29.toInt ≤ (mi 21).toInt := hp_36
          have hp_37 : 0 ≤ ntoken_31.toInt := hp_37
          have hp_38 : ntoken_31.toInt ≤ 4 := hp_38
          have hp_39 : ntoken_31.toInt ≤ 4 * nspot_29.toInt - 4 * nfrom_30.toInt := hp_39
          have hp_40 : x_7.toInt ≤ nfrom_30.toInt := hp_40
          have hp_41 : AGN ntoken_31.toInt nvalue_32.toInt nfrom_30.toInt nspot_29.toInt := hp_41
          refine lv_aload_n (pc := 27) E.1 E.2.1 dX12_readPaths_27 rfl (lv_at hl16 1 rfl) ?_
          refine lv_sipush (pc := 28) (v := 160) E.1 E.2.1 dX12_readPaths_28 (by decide +kernel) ?_
          refine lv_iconst (pc := 31) (v := 4) E.1 E.2.1 dX12_readPaths_31 (by decide +kernel) ?_
          refine lv_iload_n (pc := 32) E.1 E.2.1 dX12_readPaths_32 rfl (lv_at hl16 0 rfl) ?_
          refine lv_imul (pc := 33) E.1 E.2.1 dX12_readPaths_33 ?_
          refine lv_topi (fun v_42 ev_42 => ?_)
          have hv_42 : v_42.toInt = 4 * x_6.toInt := by rw [ev_42]; exact mulE (by decide +kernel) rfl (ax73r33c_18 hi_13_6 hi_13_7)
          refine lv_iadd (pc := 34) E.1 E.2.1 dX12_readPaths_34 ?_
          refine lv_topi (fun v_43 ev_43 => ?_)
          have hv_43 : v_43.toInt = 160 + v_42.toInt := by rw [ev_43]; exact addE (by decide +kernel) rfl (ax73r33c_19 hv_42 hi_13_6 hi_13_7)
          refine cm_i (pc := 35) hw33 (rn_M (As := [.int v_43]) (rest := []) E hw33 (s_readPath l D cI cJ _ M mr (upd (upd (upd (upd (upd (upd mi 22 nspot_29) 23 nfrom_30) 24 ntoken_31) 25 nvalue_32) 38 x_11) 39 x_12) (va_up mf 43 g_13) mg v_43 hp_34 hp_35 hp_36 h3 hp_37 hp_38 hp_39 h7 h8 (by show 160 ≤ v_43.toInt ∧ v_43.toInt ≤ 316; omega) hi_13_8 (show (∀ j : Nat, j < 154 → (mf 26) j = w0 j) from lf_words) (show AGN ntoken_31.toInt nvalue_32.toInt nfrom_30.toInt nspot_29.toInt from hp_41)) (gdV q_1702 q_1704 q_61 q_162 q_1705) hdV_X12_readPath ⟨rfl, rfl⟩ ⟨(Nat.le_of_ble_eq_true rfl), (Nat.le_of_ble_eq_true rfl)⟩ ⟨(Nat.le_of_ble_eq_true rfl), (Nat.le_of_ble_eq_true rfl)⟩ 12 rfl rfl rfl rfl hl16.1 rfl (Nat.le_of_ble_eq_true rfl) dX12_readPaths_35) (fun r_45 u_44 H1 locs hp hw46 => ?_)
          obtain ⟨nspot_47, nfrom_48, ntoken_49, nvalue_50, nreadFault_51, nreadPlace_52, gpaths_53⟩ := u_44
          generalize H1 = H at hw46 ⊢
          have hw54 : WD D A s.heap (MW cI cJ M mr (upd (upd (upd (upd (upd (upd mi 22 nspot_47) 23 nfrom_48) 24 ntoken_49) 25 nvalue_50) 38 nreadFault_51) 39 nreadPlace_52) (va_up mf 43 gpaths_53) mg) H locs := hw46
          obtain ⟨hp_55, hp_56, hp_57, hp_58, hp_59, hp_60, hp_61, hp_62, hp_63, hp_64⟩ := hp
          have hp_55 : 0 ≤ nfrom_48.toInt := hp_55
          have hp_56 : nfrom_48.toInt ≤ nspot_47.toInt := hp_56
          have hp_57 : nspot_47.toInt ≤ (mi 21).toInt := hp_57
          have hp_58 : 0 ≤ ntoken_49.toInt := hp_58
          have hp_59 : ntoken_49.toInt ≤ 4 := hp_59
          have hp_60 : ntoken_49.toInt ≤ 4 * nspot_47.toInt - 4 * nfrom_48.toInt := hp_60
          have hp_62 : AGN ntoken_49.toInt nvalue_50.toInt nfrom_48.toInt nspot_47.toInt := hp_62
          have hp_63 : r_45 = 0 → PT g_13 gpaths_53 (v_43).toNatClampNeg := hp_63
          rcases hp_64 with rfl | ⟨rfl, ha_65⟩
          · skip
            refine lv_iconst (pc := 38) (v := (-1)) E.1 E.2.1 dX12_readPaths_38 (by decide +kernel) ?_
            refine lv_icmp_ne (pc := 39) (tgt := 44) E.1 E.2.1 dX12_readPaths_39 (by decide) (fun c_66 => absurd (meqE (a := (-1)) (b := (-1)) (by decide +kernel) (by decide +kernel) (by decide +kernel)) c_66) (fun _ => ?_)
            refine lv_iconst (pc := 42) (v := (-1)) E.1 E.2.1 dX12_readPaths_42 (by decide +kernel) ?_
            exact em_i (w1 := (fun (u : Int32 × Int32 × Int32 × Int32 × Int32 × Int32 × (Nat → Int32)) => (MW cI cJ M mr (upd (upd (upd (upd (upd (upd mi 22 u.1) 23 u.2.1) 24 u.2.2.1) 25 u.2.2.2.1) 38 u.2.2.2.2.1) 39 u.2.2.2.2.2.1) (va_up mf 43 u.2.2.2.2.2.2) mg))) E hr hlk (nspot_47, nfrom_48, ntoken_49, nvalue_50, nreadFault_51, nreadPlace_52, gpaths_53) hw54 ⟨hp_55, hp_56, hp_57, hp_58, hp_59, hp_60, hp_61, hp_62, (show (0 ≤ ((-1) : Int32).toInt → PD gpaths_53 ((-1) : Int32).toInt) from (fun h => absurd h (by decide +kernel))), (Or.inl rfl)⟩ (Nat.le_of_ble_eq_true rfl) (Nat.le_of_ble_eq_true rfl) dX12_readPaths_43
          · skip
            have hp_63 := hp_63 rfl
            have ha_65 : nfrom_30.toInt + 1 ≤ nfrom_48.toInt := ha_65
            refine lv_iconst (pc := 38) (v := (-1)) E.1 E.2.1 dX12_readPaths_38 (by decide +kernel) ?_
            refine lv_icmp_ne (pc := 39) (tgt := 44) E.1 E.2.1 dX12_readPaths_39 (by decide) (fun _ => ?_) (fun c_67 => absurd c_67 (mneE (a := 0) (b := (-1)) (by decide +kernel) (by decide +kernel) (by decide +kernel)))
            refine lv_iload_n (pc := 44) E.1 E.2.1 dX12_readPaths_44 rfl (lv_at hl16 0 rfl) ?_
            refine lv_iconst (pc := 45) (v := 1) E.1 E.2.1 dX12_readPaths_45 (by decide +kernel) ?_
            refine lv_iadd (pc := 46) E.1 E.2.1 dX12_readPaths_46 ?_
            refine lv_topi (fun v_68 ev_68 => ?_)
            have hv_68 : v_68.toInt = x_6.toInt + 1 := by rw [ev_68]; exact addE rfl (by decide +kernel) (ax73r33c_20 hi_13_6 hi_13_7)
            refine lv_istore_n (pc := 47) (lv' := [(1, .int v_68), (0, .ref M)]) E.1 E.2.1 dX12_readPaths_47 rfl hl16 (by decide) rfl (fun ls hl69 => ?_)
            refine lv_goto (pc := 48) (tgt := 2) E.1 E.2.1 dX12_readPaths_48 (by decide) ?_
            exact ih_14 v_68 nspot_47 nfrom_48 ntoken_49 nvalue_50 nreadFault_51 nreadPlace_52 gpaths_53 _ _ _ ⟨hp_55, hp_56, hp_57, hp_58, hp_59, hp_60, (ax73r33c_21 hv_68 hi_13_6), (by show v_68.toInt ≤ 40; omega), hp_61, (PD_step hi_13_9 hp_63 (by have q := idxI (x := v_43) (by omega); omega) (by omega)), (show AGN ntoken_49.toInt nvalue_50.toInt nfrom_48.toInt nspot_47.toInt from hp_62)⟩ (by omega) hw54 (lv_sub hl69 [0, 1] rfl)
        · skip
          have hc_25 := eqE (a := x_6.toInt) (b := 40) rfl (by decide +kernel) c_25
          refine lv_aload_n (pc := 17) E.1 E.2.1 dX12_readPaths_17 rfl (lv_at hl16 1 rfl) ?_
          refine lv_iconst (pc := 18) (v := 3) E.1 E.2.1 dX12_readPaths_18 (by decide +kernel) ?_
          refine cm_i (pc := 19) hw20 (rn_M (As := [.int 3]) (rest := []) E hw20 (s_errs2 l D cI cJ _ M mr (upd (upd (upd (upd (upd (upd mi 22 x_7) 23 x_8) 24 x_9) 25 x_10) 38 x_11) 39 x_12) (va_up mf 43 g_13) mg 3) (gdV q_1698 q_1700 q_60 q_162 q_1701) hdV_X12_errs ⟨rfl, rfl⟩ ⟨(Nat.le_of_ble_eq_true rfl), (Nat.le_of_ble_eq_true rfl)⟩ ⟨(Nat.le_of_ble_eq_true rfl), (Nat.le_of_ble_eq_true rfl)⟩ 12 rfl rfl rfl rfl hl16.1 rfl (Nat.le_of_ble_eq_true rfl) dX12_readPaths_19) (fun r_71 u_70 H1 locs hp hw72 => ?_)
          obtain ⟨nreadFault_73, nreadPlace_74⟩ := u_70
          generalize H1 = H at hw72 ⊢
          have hw75 : WD D A s.heap (MW cI cJ M mr (upd (upd (upd (upd (upd (upd mi 22 x_7) 23 x_8) 24 x_9) 25 x_10) 38 nreadFault_73) 39 nreadPlace_74) (va_up mf 43 g_13) mg) H locs := hw72
          have hp_76 := hp
          rcases hp_76 with rfl
          · skip
            exact em_i (w1 := (fun (u : Int32 × Int32 × Int32 × Int32 × Int32 × Int32 × (Nat → Int32)) => (MW cI cJ M mr (upd (upd (upd (upd (upd (upd mi 22 u.1) 23 u.2.1) 24 u.2.2.1) 25 u.2.2.2.1) 38 u.2.2.2.2.1) 39 u.2.2.2.2.2.1) (va_up mf 43 u.2.2.2.2.2.2) mg))) E hr hlk (x_7, x_8, x_9, x_10, nreadFault_73, nreadPlace_74, g_13) hw75 ⟨hi_13_0, hi_13_1, hi_13_2, hi_13_3, hi_13_4, hi_13_5, hi_13_8, hi_13_10, (show (0 ≤ ((-1) : Int32).toInt → PD g_13 ((-1) : Int32).toInt) from (fun h => absurd h (by decide +kernel))), (Or.inl rfl)⟩ (Nat.le_of_ble_eq_true rfl) (Nat.le_of_ble_eq_true rfl) dX12_readPaths_22
      · skip
        refine lv_if_eq (pc := 8) (tgt := 51) E.1 E.2.1 dX12_readPaths_8 (by decide) (fun _ => ?_) (fun c_77 => absurd (meqE (a := 0) (b := 0) (by decide +kernel) (by decide +kernel) (by omega)) c_77)
        refine lv_aload_n (pc := 51) E.1 E.2.1 dX12_readPaths_51 rfl (lv_at hl16 1 rfl) ?_
        refine x_get (pc := 52) (T := TX12) (N := 70) (ci := 12) (v := .int x_9) E hw20 inX12 0 24 q_1423 rfl rfl (by decide) rfl rfl dX12_readPaths_52 ?_
        refine lv_if_ne (pc := 55) (tgt := 62) E.1 E.2.1 dX12_readPaths_55 (by decide) (fun c_78 => ?_) (fun c_78 => ?_)
        · skip
          have hc_78 := neE (a := x_9.toInt) (b := 0) rfl (by decide +kernel) c_78
          refine lv_aload_n (pc := 62) E.1 E.2.1 dX12_readPaths_62 rfl (lv_at hl16 1 rfl) ?_
          refine lv_iconst (pc := 63) (v := 1) E.1 E.2.1 dX12_readPaths_63 (by decide +kernel) ?_
          refine cm_i (pc := 64) hw20 (rn_M (As := [.int 1]) (rest := []) E hw20 (s_errs2 l D cI cJ _ M mr (upd (upd (upd (upd (upd (upd mi 22 x_7) 23 x_8) 24 x_9) 25 x_10) 38 x_11) 39 x_12) (va_up mf 43 g_13) mg 1) (gdV q_1698 q_1700 q_60 q_162 q_1701) hdV_X12_errs ⟨rfl, rfl⟩ ⟨(Nat.le_of_ble_eq_true rfl), (Nat.le_of_ble_eq_true rfl)⟩ ⟨(Nat.le_of_ble_eq_true rfl), (Nat.le_of_ble_eq_true rfl)⟩ 12 rfl rfl rfl rfl hl16.1 rfl (Nat.le_of_ble_eq_true rfl) dX12_readPaths_64) (fun r_80 u_79 H1 locs hp hw81 => ?_)
          obtain ⟨nreadFault_82, nreadPlace_83⟩ := u_79
          generalize H1 = H at hw81 ⊢
          have hw84 : WD D A s.heap (MW cI cJ M mr (upd (upd (upd (upd (upd (upd mi 22 x_7) 23 x_8) 24 x_9) 25 x_10) 38 nreadFault_82) 39 nreadPlace_83) (va_up mf 43 g_13) mg) H locs := hw81
          have hp_85 := hp
          rcases hp_85 with rfl
          · skip
            exact em_i (w1 := (fun (u : Int32 × Int32 × Int32 × Int32 × Int32 × Int32 × (Nat → Int32)) => (MW cI cJ M mr (upd (upd (upd (upd (upd (upd mi 22 u.1) 23 u.2.1) 24 u.2.2.1) 25 u.2.2.2.1) 38 u.2.2.2.2.1) 39 u.2.2.2.2.2.1) (va_up mf 43 u.2.2.2.2.2.2) mg))) E hr hlk (x_7, x_8, x_9, x_10, nreadFault_82, nreadPlace_83, g_13) hw84 ⟨hi_13_0, hi_13_1, hi_13_2, hi_13_3, hi_13_4, hi_13_5, hi_13_8, hi_13_10, (show (0 ≤ ((-1) : Int32).toInt → PD g_13 ((-1) : Int32).toInt) from (fun h => absurd h (by decide +kernel))), (Or.inl rfl)⟩ (Nat.le_of_ble_eq_true rfl) (Nat.le_of_ble_eq_true rfl) dX12_readPaths_67
        · skip
          have hc_78 := eqE (a := x_9.toInt) (b := 0) rfl (by decide +kernel) c_78
          refine lv_iload_n (pc := 58) E.1 E.2.1 dX12_readPaths_58 rfl (lv_at hl16 0 rfl) ?_
          refine lv_goto (pc := 59) (tgt := 67) E.1 E.2.1 dX12_readPaths_59 (by decide) ?_
          exact em_i (w1 := (fun (u : Int32 × Int32 × Int32 × Int32 × Int32 × Int32 × (Nat → Int32)) => (MW cI cJ M mr (upd (upd (upd (upd (upd (upd mi 22 u.1) 23 u.2.1) 24 u.2.2.1) 25 u.2.2.2.1) 38 u.2.2.2.2.1) 39 u.2.2.2.2.2.1) (va_up mf 43 u.2.2.2.2.2.2) mg))) E hr hlk (x_7, x_8, x_9, x_10, x_11, x_12, g_13) hw20 ⟨hi_13_0, hi_13_1, hi_13_2, hi_13_3, hi_13_4, hi_13_5, hi_13_8, hi_13_10, (show (0 ≤ (x_6 : Int32).toInt → PD g_13 (x_6 : Int32).toInt) from (fun _ => hi_13_9)), (Or.inr (⟨hi_13_6, hi_13_7⟩))⟩ (Nat.le_of_ble_eq_true rfl) (Nat.le_of_ble_eq_true rfl) dX12_readPaths_67
  exact loop_5 (Int.toNat ((mi 21).toInt - (mi 23).toInt) + 1) 0 (mi 22) (mi 23) (mi 24) (mi 25) (mi 38) (mi 39) (mf 43) _ _ _ ⟨h0, h1, h2, h4, h5, h6, (by show 0 ≤ (0 : Int32).toInt; have k_0 : (0 : Int32).toInt = 0 := (by decide +kernel); omega), (by show (0 : Int32).toInt ≤ 40; have k_0 : (0 : Int32).toInt = 0 := (by decide +kernel); omega), a_paths, (fun i hi => absurd hi (by have k9 : (0 : Int32).toInt = 0 := (by decide +kernel); omega)), (show AGN ((mi 24).toInt) ((mi 25).toInt) ((mi 23).toInt) ((mi 22).toInt) from lf_again)⟩ (by have k_0 : (0 : Int32).toInt = 0 := (by decide +kernel); omega) hw1 (lv_sub hl4 [0, 1] rfl)

