set_option maxHeartbeats 4000000 in
set_option maxRecDepth 100000 in
theorem s_readsText2 (l : Launch) (D : va_G) (cI cJ : ClassId) (sz M : Nat) (mr : Nat → Nat) (mi : Nat → Int32) (mf : Nat → Nat → Int32) (mg : Nat → Nat → Int64)  (h0 : 0 ≤ (mi 22).toInt) (h1 : (mi 22).toInt ≤ (mi 21).toInt) (h2 : (mi 21).toInt ≤ 400) (h3 : ((mf 26) 153).toInt = 32) (h4 : 0 ≤ (mi 6).toInt ∧ (mi 6).toInt ≤ 10) (a_paths : pathsOK (mf 43)) (lf_words : (∀ j : Nat, j < 154 → (mf 26) j = w0 j)) : Met l yX12_readsText (Cond.code yX12_readsText cX12_readsText 2 (some .int) :: GW) ({ frames := 10, cells := 0, slots := 0, locals := 234 } : Room) (va_Pc [.ref M, .int 2] (PW D cI cJ sz (MW cI cJ M mr mi mf mg) xT)) (va_Qi (fun (r : Int32) (u : Int32 × Int32 × Int32 × Int32 × Int32 × Int32 × Int32 × (Nat → Int32)) => (pathsOK u.2.2.2.2.2.2.2) ∧ ((0 ≤ (r : Int32).toInt → PD u.2.2.2.2.2.2.2 (r : Int32).toInt)) ∧ ((r = (-1)) ∨ (0 ≤ r.toInt ∧ r.toInt ≤ 40))) (fun u => QW D cI cJ (va_A (MW cI cJ M mr mi mf mg) sz) ((fun (u : Int32 × Int32 × Int32 × Int32 × Int32 × Int32 × Int32 × (Nat → Int32)) => (MW cI cJ M mr (upd (upd (upd (upd (upd (upd (upd mi 22 u.1) 23 u.2.1) 24 u.2.2.1) 25 u.2.2.2.1) 38 u.2.2.2.2.1) 39 u.2.2.2.2.2.1) 33 u.2.2.2.2.2.2.1) (va_up mf 43 u.2.2.2.2.2.2.2) mg)) u)) (va_A (MW cI cJ M mr mi mf mg) sz)) 0 0 (va_A (MW cI cJ M mr mi mf mg) sz) := by
  refine mk_met (y := yX12_readsText) (bytes := cX12_readsText) (maxL := 2) (avs := [.ref M, .int 2]) (WS := (MW cI cJ M mr mi mf mg)) (Qf := fun A => va_Qi (fun (r : Int32) (u : Int32 × Int32 × Int32 × Int32 × Int32 × Int32 × Int32 × (Nat → Int32)) => (pathsOK u.2.2.2.2.2.2.2) ∧ ((0 ≤ (r : Int32).toInt → PD u.2.2.2.2.2.2.2 (r : Int32).toInt)) ∧ ((r = (-1)) ∨ (0 ≤ r.toInt ∧ r.toInt ≤ 40))) (fun u => QW D cI cJ A ((fun (u : Int32 × Int32 × Int32 × Int32 × Int32 × Int32 × Int32 × (Nat → Int32)) => (MW cI cJ M mr (upd (upd (upd (upd (upd (upd (upd mi 22 u.1) 23 u.2.1) 24 u.2.2.1) 25 u.2.2.2.1) 38 u.2.2.2.2.1) 39 u.2.2.2.2.2.1) 33 u.2.2.2.2.2.2.1) (va_up mf 43 u.2.2.2.2.2.2.2) mg)) u)) A) (by decide) (Nat.le_of_ble_eq_true rfl) ?_
  intro p e s m below meth c A ls E hr hlk hnm hX hw1 hl2
  have hl3 : lv_has ls 2 [(0, .ref M), (1, .int 2)] := hl2
  refine lv_aload_n (pc := 0) E.1 E.2.1 dX12_readsText_0 rfl (lv_at hl3 0 rfl) ?_
  refine lv_iload_n (pc := 1) E.1 E.2.1 dX12_readsText_1 rfl (lv_at hl3 1 rfl) ?_
  refine x_put (pc := 2) (T := TX12) (N := 70) (ci := 12) (ws' := (MW cI cJ M mr (upd mi 33 2) mf mg)) E hw1 inX12 tyX12_ok nmX12 0 33 q_1432 rfl rfl (by decide) rfl rfl rfl rfl (Nat.le_of_ble_eq_true rfl) rfl dX12_readsText_2 (fun H locs hw4 => ?_)
  refine lv_aload_n (pc := 5) E.1 E.2.1 dX12_readsText_5 rfl (lv_at hl3 0 rfl) ?_
  refine cm_v (pc := 6) hw4 (rn_M (As := []) (rest := []) E hw4 (s_reads2 l D cI cJ _ M mr (upd mi 33 2) mf mg h0 h1 h2 h3 (show (∀ j : Nat, j < 154 → (mf 26) j = w0 j) from lf_words)) (gdV q_1666 q_1668 q_52 q_162 q_1669) hdV_X12_reads ⟨rfl, rfl⟩ ⟨(Nat.le_of_ble_eq_true rfl), (Nat.le_of_ble_eq_true rfl)⟩ ⟨(Nat.le_of_ble_eq_true rfl), (Nat.le_of_ble_eq_true rfl)⟩ 12 rfl rfl rfl rfl hl3.1 rfl (Nat.le_of_ble_eq_true rfl) dX12_readsText_6) (fun u_5 H1 locs hp hw7 => ?_)
  obtain ⟨nspot_8, nfrom_9, ntoken_10, nvalue_11⟩ := u_5
  generalize H1 = H at hw7 ⊢
  have hw12 : WD D A s.heap (MW cI cJ M mr (upd (upd (upd (upd (upd mi 22 nspot_8) 23 nfrom_9) 24 ntoken_10) 25 nvalue_11) 33 2) mf mg) H locs := hw7
  obtain ⟨hp_13, hp_14, hp_15, hp_16, hp_17, hp_18, hp_19, hp_20⟩ := hp
  have hp_13 : 0 ≤ nfrom_9.toInt := hp_13
  have hp_14 : nfrom_9.toInt ≤ nspot_8.toInt := hp_14
  have hp_15 : nspot_8.toInt ≤ (mi 21).toInt := hp_15
  have hp_16 : 0 ≤ ntoken_10.toInt := hp_16
  have hp_17 : ntoken_10.toInt ≤ 4 := hp_17
  have hp_18 : ntoken_10.toInt ≤ 4 * nspot_8.toInt - 4 * nfrom_9.toInt := hp_18
  have hp_19 : (mi 22).toInt ≤ nfrom_9.toInt := hp_19
  have hp_20 : AGN ntoken_10.toInt nvalue_11.toInt nfrom_9.toInt nspot_8.toInt := hp_20
  refine lv_iload_n (pc := 9) E.1 E.2.1 dX12_readsText_9 rfl (lv_at hl3 1 rfl) ?_
  refine lv_iconst (pc := 10) (v := 2) E.1 E.2.1 dX12_readsText_10 (by decide +kernel) ?_
  refine lv_icmp_ne (pc := 11) (tgt := 19) E.1 E.2.1 dX12_readsText_11 (by decide) (fun c_21 => absurd (meqE (a := 2) (b := 2) (by decide +kernel) (by decide +kernel) (by omega)) c_21) (fun _ => ?_)
  refine lv_aload_n (pc := 14) E.1 E.2.1 dX12_readsText_14 rfl (lv_at hl3 0 rfl) ?_
  refine cm_i (pc := 15) hw12 (rn_M (As := []) (rest := []) E hw12 (s_readPaths l D cI cJ _ M mr (upd (upd (upd (upd (upd mi 22 nspot_8) 23 nfrom_9) 24 ntoken_10) 25 nvalue_11) 33 2) mf mg hp_13 hp_14 hp_15 h2 hp_16 hp_17 hp_18 h3 h4 a_paths (show (∀ j : Nat, j < 154 → (mf 26) j = w0 j) from lf_words) (show AGN ntoken_10.toInt nvalue_11.toInt nfrom_9.toInt nspot_8.toInt from hp_20)) (gdV q_1690 q_1692 q_58 q_162 q_1693) hdV_X12_readPaths ⟨rfl, rfl⟩ ⟨(Nat.le_of_ble_eq_true rfl), (Nat.le_of_ble_eq_true rfl)⟩ ⟨(Nat.le_of_ble_eq_true rfl), (Nat.le_of_ble_eq_true rfl)⟩ 12 rfl rfl rfl rfl hl3.1 rfl (Nat.le_of_ble_eq_true rfl) dX12_readsText_15) (fun r_23 u_22 H1 locs hp hw24 => ?_)
  obtain ⟨nspot_25, nfrom_26, ntoken_27, nvalue_28, nreadFault_29, nreadPlace_30, gpaths_31⟩ := u_22
  generalize H1 = H at hw24 ⊢
  have hw32 : WD D A s.heap (MW cI cJ M mr (upd (upd (upd (upd (upd (upd (upd mi 22 nspot_25) 23 nfrom_26) 24 ntoken_27) 25 nvalue_28) 33 2) 38 nreadFault_29) 39 nreadPlace_30) (va_up mf 43 gpaths_31) mg) H locs := hw24
  obtain ⟨hp_33, hp_34, hp_35, hp_36, hp_37, hp_38, hp_39, hp_40, hp_41, hp_42⟩ := hp
  have hp_33 : 0 ≤ nfrom_26.toInt := hp_33
  have hp_34 : nfrom_26.toInt ≤ nspot_25.toInt := hp_34
  have hp_35 : nspot_25.toInt ≤ (mi 21).toInt := hp_35
  have hp_36 : 0 ≤ ntoken_27.toInt := hp_36
  have hp_37 : ntoken_27.toInt ≤ 4 := hp_37
  have hp_38 : ntoken_27.toInt ≤ 4 * nspot_25.toInt - 4 * nfrom_26.toInt := hp_38
  have hp_40 : AGN ntoken_27.toInt nvalue_28.toInt nfrom_26.toInt nspot_25.toInt := hp_40
  have hp_41 : (0 ≤ (r_23 : Int32).toInt → PD gpaths_31 (r_23 : Int32).toInt) := hp_41
  rcases hp_42 with rfl | ⟨ha_43, ha_44⟩
  · skip
    exact em_i (w1 := (fun (u : Int32 × Int32 × Int32 × Int32 × Int32 × Int32 × Int32 × (Nat → Int32)) => (MW cI cJ M mr (upd (upd (upd (upd (upd (upd (upd mi 22 u.1) 23 u.2.1) 24 u.2.2.1) 25 u.2.2.2.1) 38 u.2.2.2.2.1) 39 u.2.2.2.2.2.1) 33 u.2.2.2.2.2.2.1) (va_up mf 43 u.2.2.2.2.2.2.2) mg))) E hr hlk (nspot_25, nfrom_26, ntoken_27, nvalue_28, nreadFault_29, nreadPlace_30, 2, gpaths_31) hw32 ⟨hp_39, (show (0 ≤ ((-1) : Int32).toInt → PD gpaths_31 ((-1) : Int32).toInt) from (fun h => absurd h (by decide +kernel))), (Or.inl rfl)⟩ (Nat.le_of_ble_eq_true rfl) (Nat.le_of_ble_eq_true rfl) dX12_readsText_18
  · skip
    have ha_43 : 0 ≤ r_23.toInt := ha_43
    have ha_44 : r_23.toInt ≤ 40 := ha_44
    exact em_i (w1 := (fun (u : Int32 × Int32 × Int32 × Int32 × Int32 × Int32 × Int32 × (Nat → Int32)) => (MW cI cJ M mr (upd (upd (upd (upd (upd (upd (upd mi 22 u.1) 23 u.2.1) 24 u.2.2.1) 25 u.2.2.2.1) 38 u.2.2.2.2.1) 39 u.2.2.2.2.2.1) 33 u.2.2.2.2.2.2.1) (va_up mf 43 u.2.2.2.2.2.2.2) mg))) E hr hlk (nspot_25, nfrom_26, ntoken_27, nvalue_28, nreadFault_29, nreadPlace_30, 2, gpaths_31) hw32 ⟨hp_39, (show (0 ≤ (r_23 : Int32).toInt → PD gpaths_31 (r_23 : Int32).toInt) from hp_41), (Or.inr (⟨(by show 0 ≤ r_23.toInt; omega), (by show r_23.toInt ≤ 40; omega)⟩))⟩ (Nat.le_of_ble_eq_true rfl) (Nat.le_of_ble_eq_true rfl) dX12_readsText_18

set_option maxHeartbeats 4000000 in
set_option maxRecDepth 100000 in
theorem s_readsText3 (l : Launch) (D : va_G) (cI cJ : ClassId) (sz M : Nat) (mr : Nat → Nat) (mi : Nat → Int32) (mf : Nat → Nat → Int32) (mg : Nat → Nat → Int64)  (h0 : 0 ≤ (mi 22).toInt) (h1 : (mi 22).toInt ≤ (mi 21).toInt) (h2 : (mi 21).toInt ≤ 400) (h3 : ((mf 26) 153).toInt = 32) (h4 : 0 ≤ (mi 6).toInt ∧ (mi 6).toInt ≤ 10) (lf_words : (∀ j : Nat, j < 154 → (mf 26) j = w0 j)) : Met l yX12_readsText (Cond.code yX12_readsText cX12_readsText 2 (some .int) :: GW) ({ frames := 10, cells := 0, slots := 0, locals := 234 } : Room) (va_Pc [.ref M, .int 3] (PW D cI cJ sz (MW cI cJ M mr mi mf mg) xT)) (va_Qi (fun (r : Int32) (u : Int32 × Int32 × Int32 × Int32 × Int32 × Int32 × Int32 × (Nat → Int32)) => ((r = (-1)) ∨ (0 ≤ r.toInt ∧ r.toInt ≤ 10))) (fun u => QW D cI cJ (va_A (MW cI cJ M mr mi mf mg) sz) ((fun (u : Int32 × Int32 × Int32 × Int32 × Int32 × Int32 × Int32 × (Nat → Int32)) => (MW cI cJ M mr (upd (upd (upd (upd (upd (upd (upd mi 22 u.1) 23 u.2.1) 24 u.2.2.1) 25 u.2.2.2.1) 38 u.2.2.2.2.1) 39 u.2.2.2.2.2.1) 33 u.2.2.2.2.2.2.1) (va_up mf 45 u.2.2.2.2.2.2.2) mg)) u)) (va_A (MW cI cJ M mr mi mf mg) sz)) 0 0 (va_A (MW cI cJ M mr mi mf mg) sz) := by
  refine mk_met (y := yX12_readsText) (bytes := cX12_readsText) (maxL := 2) (avs := [.ref M, .int 3]) (WS := (MW cI cJ M mr mi mf mg)) (Qf := fun A => va_Qi (fun (r : Int32) (u : Int32 × Int32 × Int32 × Int32 × Int32 × Int32 × Int32 × (Nat → Int32)) => ((r = (-1)) ∨ (0 ≤ r.toInt ∧ r.toInt ≤ 10))) (fun u => QW D cI cJ A ((fun (u : Int32 × Int32 × Int32 × Int32 × Int32 × Int32 × Int32 × (Nat → Int32)) => (MW cI cJ M mr (upd (upd (upd (upd (upd (upd (upd mi 22 u.1) 23 u.2.1) 24 u.2.2.1) 25 u.2.2.2.1) 38 u.2.2.2.2.1) 39 u.2.2.2.2.2.1) 33 u.2.2.2.2.2.2.1) (va_up mf 45 u.2.2.2.2.2.2.2) mg)) u)) A) (by decide) (Nat.le_of_ble_eq_true rfl) ?_
  intro p e s m below meth c A ls E hr hlk hnm hX hw1 hl2
  have hl3 : lv_has ls 2 [(0, .ref M), (1, .int 3)] := hl2
  refine lv_aload_n (pc := 0) E.1 E.2.1 dX12_readsText_0 rfl (lv_at hl3 0 rfl) ?_
  refine lv_iload_n (pc := 1) E.1 E.2.1 dX12_readsText_1 rfl (lv_at hl3 1 rfl) ?_
  refine x_put (pc := 2) (T := TX12) (N := 70) (ci := 12) (ws' := (MW cI cJ M mr (upd mi 33 3) mf mg)) E hw1 inX12 tyX12_ok nmX12 0 33 q_1432 rfl rfl (by decide) rfl rfl rfl rfl (Nat.le_of_ble_eq_true rfl) rfl dX12_readsText_2 (fun H locs hw4 => ?_)
  refine lv_aload_n (pc := 5) E.1 E.2.1 dX12_readsText_5 rfl (lv_at hl3 0 rfl) ?_
  refine cm_v (pc := 6) hw4 (rn_M (As := []) (rest := []) E hw4 (s_reads2 l D cI cJ _ M mr (upd mi 33 3) mf mg h0 h1 h2 h3 (show (∀ j : Nat, j < 154 → (mf 26) j = w0 j) from lf_words)) (gdV q_1666 q_1668 q_52 q_162 q_1669) hdV_X12_reads ⟨rfl, rfl⟩ ⟨(Nat.le_of_ble_eq_true rfl), (Nat.le_of_ble_eq_true rfl)⟩ ⟨(Nat.le_of_ble_eq_true rfl), (Nat.le_of_ble_eq_true rfl)⟩ 12 rfl rfl rfl rfl hl3.1 rfl (Nat.le_of_ble_eq_true rfl) dX12_readsText_6) (fun u_5 H1 locs hp hw7 => ?_)
  obtain ⟨nspot_8, nfrom_9, ntoken_10, nvalue_11⟩ := u_5
  generalize H1 = H at hw7 ⊢
  have hw12 : WD D A s.heap (MW cI cJ M mr (upd (upd (upd (upd (upd mi 22 nspot_8) 23 nfrom_9) 24 ntoken_10) 25 nvalue_11) 33 3) mf mg) H locs := hw7
  obtain ⟨hp_13, hp_14, hp_15, hp_16, hp_17, hp_18, hp_19, hp_20⟩ := hp
  have hp_13 : 0 ≤ nfrom_9.toInt := hp_13
  have hp_14 : nfrom_9.toInt ≤ nspot_8.toInt := hp_14
  have hp_15 : nspot_8.toInt ≤ (mi 21).toInt := hp_15
  have hp_16 : 0 ≤ ntoken_10.toInt := hp_16
  have hp_17 : ntoken_10.toInt ≤ 4 := hp_17
  have hp_18 : ntoken_10.toInt ≤ 4 * nspot_8.toInt - 4 * nfrom_9.toInt := hp_18
  have hp_19 : (mi 22).toInt ≤ nfrom_9.toInt := hp_19
  have hp_20 : AGN ntoken_10.toInt nvalue_11.toInt nfrom_9.toInt nspot_8.toInt := hp_20
  refine lv_iload_n (pc := 9) E.1 E.2.1 dX12_readsText_9 rfl (lv_at hl3 1 rfl) ?_
  refine lv_iconst (pc := 10) (v := 2) E.1 E.2.1 dX12_readsText_10 (by decide +kernel) ?_
  refine lv_icmp_ne (pc := 11) (tgt := 19) E.1 E.2.1 dX12_readsText_11 (by decide) (fun _ => ?_) (fun c_21 => absurd c_21 (mneE (a := 3) (b := 2) (by decide +kernel) (by decide +kernel) (by omega)))
  refine lv_iload_n (pc := 19) E.1 E.2.1 dX12_readsText_19 rfl (lv_at hl3 1 rfl) ?_
  refine lv_iconst (pc := 20) (v := 3) E.1 E.2.1 dX12_readsText_20 (by decide +kernel) ?_
  refine lv_icmp_ne (pc := 21) (tgt := 29) E.1 E.2.1 dX12_readsText_21 (by decide) (fun c_22 => absurd (meqE (a := 3) (b := 3) (by decide +kernel) (by decide +kernel) (by omega)) c_22) (fun _ => ?_)
  refine lv_aload_n (pc := 24) E.1 E.2.1 dX12_readsText_24 rfl (lv_at hl3 0 rfl) ?_
  refine cm_i (pc := 25) hw12 (rn_M (As := []) (rest := []) E hw12 (s_readNeeds l D cI cJ _ M mr (upd (upd (upd (upd (upd mi 22 nspot_8) 23 nfrom_9) 24 ntoken_10) 25 nvalue_11) 33 3) mf mg hp_13 hp_14 hp_15 h2 hp_16 hp_17 hp_18 h3 h4 (show (∀ j : Nat, j < 154 → (mf 26) j = w0 j) from lf_words) (show AGN ntoken_10.toInt nvalue_11.toInt nfrom_9.toInt nspot_8.toInt from hp_20)) (gdV q_1722 q_1724 q_66 q_162 q_1725) hdV_X12_readNeeds ⟨rfl, rfl⟩ ⟨(Nat.le_of_ble_eq_true rfl), (Nat.le_of_ble_eq_true rfl)⟩ ⟨(Nat.le_of_ble_eq_true rfl), (Nat.le_of_ble_eq_true rfl)⟩ 12 rfl rfl rfl rfl hl3.1 rfl (Nat.le_of_ble_eq_true rfl) dX12_readsText_25) (fun r_24 u_23 H1 locs hp hw25 => ?_)
  obtain ⟨nspot_26, nfrom_27, ntoken_28, nvalue_29, nreadFault_30, nreadPlace_31, gneeds_32⟩ := u_23
  generalize H1 = H at hw25 ⊢
  have hw33 : WD D A s.heap (MW cI cJ M mr (upd (upd (upd (upd (upd (upd (upd mi 22 nspot_26) 23 nfrom_27) 24 ntoken_28) 25 nvalue_29) 33 3) 38 nreadFault_30) 39 nreadPlace_31) (va_up mf 45 gneeds_32) mg) H locs := hw25
  obtain ⟨hp_34, hp_35, hp_36, hp_37, hp_38, hp_39, hp_40, hp_41⟩ := hp
  have hp_34 : 0 ≤ nfrom_27.toInt := hp_34
  have hp_35 : nfrom_27.toInt ≤ nspot_26.toInt := hp_35
  have hp_36 : nspot_26.toInt ≤ (mi 21).toInt := hp_36
  have hp_37 : 0 ≤ ntoken_28.toInt := hp_37
  have hp_38 : ntoken_28.toInt ≤ 4 := hp_38
  have hp_39 : ntoken_28.toInt ≤ 4 * nspot_26.toInt - 4 * nfrom_27.toInt := hp_39
  have hp_40 : AGN ntoken_28.toInt nvalue_29.toInt nfrom_27.toInt nspot_26.toInt := hp_40
  rcases hp_41 with rfl | ⟨ha_42, ha_43⟩
  · skip
    exact em_i (w1 := (fun (u : Int32 × Int32 × Int32 × Int32 × Int32 × Int32 × Int32 × (Nat → Int32)) => (MW cI cJ M mr (upd (upd (upd (upd (upd (upd (upd mi 22 u.1) 23 u.2.1) 24 u.2.2.1) 25 u.2.2.2.1) 38 u.2.2.2.2.1) 39 u.2.2.2.2.2.1) 33 u.2.2.2.2.2.2.1) (va_up mf 45 u.2.2.2.2.2.2.2) mg))) E hr hlk (nspot_26, nfrom_27, ntoken_28, nvalue_29, nreadFault_30, nreadPlace_31, 3, gneeds_32) hw33 (Or.inl rfl) (Nat.le_of_ble_eq_true rfl) (Nat.le_of_ble_eq_true rfl) dX12_readsText_28
  · skip
    have ha_42 : 0 ≤ r_24.toInt := ha_42
    have ha_43 : r_24.toInt ≤ 10 := ha_43
    exact em_i (w1 := (fun (u : Int32 × Int32 × Int32 × Int32 × Int32 × Int32 × Int32 × (Nat → Int32)) => (MW cI cJ M mr (upd (upd (upd (upd (upd (upd (upd mi 22 u.1) 23 u.2.1) 24 u.2.2.1) 25 u.2.2.2.1) 38 u.2.2.2.2.1) 39 u.2.2.2.2.2.1) 33 u.2.2.2.2.2.2.1) (va_up mf 45 u.2.2.2.2.2.2.2) mg))) E hr hlk (nspot_26, nfrom_27, ntoken_28, nvalue_29, nreadFault_30, nreadPlace_31, 3, gneeds_32) hw33 (Or.inr (⟨(by show 0 ≤ r_24.toInt; omega), (by show r_24.toInt ≤ 10; omega)⟩)) (Nat.le_of_ble_eq_true rfl) (Nat.le_of_ble_eq_true rfl) dX12_readsText_28

set_option maxHeartbeats 4000000 in
set_option maxRecDepth 100000 in
theorem s_readsText4 (l : Launch) (D : va_G) (cI cJ : ClassId) (sz M : Nat) (mr : Nat → Nat) (mi : Nat → Int32) (mf : Nat → Nat → Int32) (mg : Nat → Nat → Int64)  (h0 : 0 ≤ (mi 22).toInt) (h1 : (mi 22).toInt ≤ (mi 21).toInt) (h2 : (mi 21).toInt ≤ 400) (h3 : ((mf 26) 153).toInt = 32) (h4 : 0 ≤ (mi 6).toInt ∧ (mi 6).toInt ≤ 10) (h5 : (mi 35).toInt = 0) (h6 : (mi 49).toInt ≤ 200) (lf_words : (∀ j : Nat, j < 154 → (mf 26) j = w0 j)) (lf_round : rndOK (mi 49).toInt (mi 6).toInt (mf 50)) : Met l yX12_readsText (Cond.code yX12_readsText cX12_readsText 2 (some .int) :: GW) ({ frames := 10, cells := 0, slots := 0, locals := 234 } : Room) (va_Pc [.ref M, .int 4] (PW D cI cJ sz (MW cI cJ M mr mi mf mg) xT)) (va_Qi (fun (r : Int32) (u : Int32 × Int32 × Int32 × Int32 × Int32 × Int32 × (Nat → Int32) × (Nat → Int32) × Int32 × Int32 × (Nat → Int32) × (Nat → Int32) × (Nat → Int32) × Int32) => (rndOK (mi 49).toInt (mi 6).toInt u.2.2.2.2.2.2.2.2.2.2.2.2.1) ∧ ((0 ≤ (r : Int32).toInt → rnd2 u.2.2.2.2.2.2.2.2.2.2.2.2.1 (r : Int32).toInt (mi 6).toInt)) ∧ ((r = (-1)) ∨ (0 ≤ r.toInt ∧ r.toInt ≤ 200))) (fun u => QW D cI cJ (va_A (MW cI cJ M mr mi mf mg) sz) ((fun (u : Int32 × Int32 × Int32 × Int32 × Int32 × Int32 × (Nat → Int32) × (Nat → Int32) × Int32 × Int32 × (Nat → Int32) × (Nat → Int32) × (Nat → Int32) × Int32) => (MW cI cJ M mr (upd (upd (upd (upd (upd (upd (upd (upd (upd mi 22 u.1) 23 u.2.1) 24 u.2.2.1) 25 u.2.2.2.1) 38 u.2.2.2.2.1) 39 u.2.2.2.2.2.1) 48 u.2.2.2.2.2.2.2.2.1) 35 u.2.2.2.2.2.2.2.2.2.1) 33 u.2.2.2.2.2.2.2.2.2.2.2.2.2) (va_up (va_up (va_up (va_up (va_up mf 46 u.2.2.2.2.2.2.1) 47 u.2.2.2.2.2.2.2.1) 51 u.2.2.2.2.2.2.2.2.2.2.1) 52 u.2.2.2.2.2.2.2.2.2.2.2.1) 50 u.2.2.2.2.2.2.2.2.2.2.2.2.1) mg)) u)) (va_A (MW cI cJ M mr mi mf mg) sz)) 0 0 (va_A (MW cI cJ M mr mi mf mg) sz) := by
  refine mk_met (y := yX12_readsText) (bytes := cX12_readsText) (maxL := 2) (avs := [.ref M, .int 4]) (WS := (MW cI cJ M mr mi mf mg)) (Qf := fun A => va_Qi (fun (r : Int32) (u : Int32 × Int32 × Int32 × Int32 × Int32 × Int32 × (Nat → Int32) × (Nat → Int32) × Int32 × Int32 × (Nat → Int32) × (Nat → Int32) × (Nat → Int32) × Int32) => (rndOK (mi 49).toInt (mi 6).toInt u.2.2.2.2.2.2.2.2.2.2.2.2.1) ∧ ((0 ≤ (r : Int32).toInt → rnd2 u.2.2.2.2.2.2.2.2.2.2.2.2.1 (r : Int32).toInt (mi 6).toInt)) ∧ ((r = (-1)) ∨ (0 ≤ r.toInt ∧ r.toInt ≤ 200))) (fun u => QW D cI cJ A ((fun (u : Int32 × Int32 × Int32 × Int32 × Int32 × Int32 × (Nat → Int32) × (Nat → Int32) × Int32 × Int32 × (Nat → Int32) × (Nat → Int32) × (Nat → Int32) × Int32) => (MW cI cJ M mr (upd (upd (upd (upd (upd (upd (upd (upd (upd mi 22 u.1) 23 u.2.1) 24 u.2.2.1) 25 u.2.2.2.1) 38 u.2.2.2.2.1) 39 u.2.2.2.2.2.1) 48 u.2.2.2.2.2.2.2.2.1) 35 u.2.2.2.2.2.2.2.2.2.1) 33 u.2.2.2.2.2.2.2.2.2.2.2.2.2) (va_up (va_up (va_up (va_up (va_up mf 46 u.2.2.2.2.2.2.1) 47 u.2.2.2.2.2.2.2.1) 51 u.2.2.2.2.2.2.2.2.2.2.1) 52 u.2.2.2.2.2.2.2.2.2.2.2.1) 50 u.2.2.2.2.2.2.2.2.2.2.2.2.1) mg)) u)) A) (by decide) (Nat.le_of_ble_eq_true rfl) ?_
  intro p e s m below meth c A ls E hr hlk hnm hX hw1 hl2
  have hl3 : lv_has ls 2 [(0, .ref M), (1, .int 4)] := hl2
  refine lv_aload_n (pc := 0) E.1 E.2.1 dX12_readsText_0 rfl (lv_at hl3 0 rfl) ?_
  refine lv_iload_n (pc := 1) E.1 E.2.1 dX12_readsText_1 rfl (lv_at hl3 1 rfl) ?_
  refine x_put (pc := 2) (T := TX12) (N := 70) (ci := 12) (ws' := (MW cI cJ M mr (upd mi 33 4) mf mg)) E hw1 inX12 tyX12_ok nmX12 0 33 q_1432 rfl rfl (by decide) rfl rfl rfl rfl (Nat.le_of_ble_eq_true rfl) rfl dX12_readsText_2 (fun H locs hw4 => ?_)
  refine lv_aload_n (pc := 5) E.1 E.2.1 dX12_readsText_5 rfl (lv_at hl3 0 rfl) ?_
  refine cm_v (pc := 6) hw4 (rn_M (As := []) (rest := []) E hw4 (s_reads2 l D cI cJ _ M mr (upd mi 33 4) mf mg h0 h1 h2 h3 (show (∀ j : Nat, j < 154 → (mf 26) j = w0 j) from lf_words)) (gdV q_1666 q_1668 q_52 q_162 q_1669) hdV_X12_reads ⟨rfl, rfl⟩ ⟨(Nat.le_of_ble_eq_true rfl), (Nat.le_of_ble_eq_true rfl)⟩ ⟨(Nat.le_of_ble_eq_true rfl), (Nat.le_of_ble_eq_true rfl)⟩ 12 rfl rfl rfl rfl hl3.1 rfl (Nat.le_of_ble_eq_true rfl) dX12_readsText_6) (fun u_5 H1 locs hp hw7 => ?_)
  obtain ⟨nspot_8, nfrom_9, ntoken_10, nvalue_11⟩ := u_5
  generalize H1 = H at hw7 ⊢
  have hw12 : WD D A s.heap (MW cI cJ M mr (upd (upd (upd (upd (upd mi 22 nspot_8) 23 nfrom_9) 24 ntoken_10) 25 nvalue_11) 33 4) mf mg) H locs := hw7
  obtain ⟨hp_13, hp_14, hp_15, hp_16, hp_17, hp_18, hp_19, hp_20⟩ := hp
  have hp_13 : 0 ≤ nfrom_9.toInt := hp_13
  have hp_14 : nfrom_9.toInt ≤ nspot_8.toInt := hp_14
  have hp_15 : nspot_8.toInt ≤ (mi 21).toInt := hp_15
  have hp_16 : 0 ≤ ntoken_10.toInt := hp_16
  have hp_17 : ntoken_10.toInt ≤ 4 := hp_17
  have hp_18 : ntoken_10.toInt ≤ 4 * nspot_8.toInt - 4 * nfrom_9.toInt := hp_18
  have hp_19 : (mi 22).toInt ≤ nfrom_9.toInt := hp_19
  have hp_20 : AGN ntoken_10.toInt nvalue_11.toInt nfrom_9.toInt nspot_8.toInt := hp_20
  refine lv_iload_n (pc := 9) E.1 E.2.1 dX12_readsText_9 rfl (lv_at hl3 1 rfl) ?_
  refine lv_iconst (pc := 10) (v := 2) E.1 E.2.1 dX12_readsText_10 (by decide +kernel) ?_
  refine lv_icmp_ne (pc := 11) (tgt := 19) E.1 E.2.1 dX12_readsText_11 (by decide) (fun _ => ?_) (fun c_21 => absurd c_21 (mneE (a := 4) (b := 2) (by decide +kernel) (by decide +kernel) (by omega)))
  refine lv_iload_n (pc := 19) E.1 E.2.1 dX12_readsText_19 rfl (lv_at hl3 1 rfl) ?_
  refine lv_iconst (pc := 20) (v := 3) E.1 E.2.1 dX12_readsText_20 (by decide +kernel) ?_
  refine lv_icmp_ne (pc := 21) (tgt := 29) E.1 E.2.1 dX12_readsText_21 (by decide) (fun _ => ?_) (fun c_22 => absurd c_22 (mneE (a := 4) (b := 3) (by decide +kernel) (by decide +kernel) (by omega)))
  refine lv_iload_n (pc := 29) E.1 E.2.1 dX12_readsText_29 rfl (lv_at hl3 1 rfl) ?_
  refine lv_iconst (pc := 30) (v := 4) E.1 E.2.1 dX12_readsText_30 (by decide +kernel) ?_
  refine lv_icmp_ne (pc := 31) (tgt := 41) E.1 E.2.1 dX12_readsText_31 (by decide) (fun c_23 => absurd (meqE (a := 4) (b := 4) (by decide +kernel) (by decide +kernel) (by omega)) c_23) (fun _ => ?_)
  refine lv_aload_n (pc := 34) E.1 E.2.1 dX12_readsText_34 rfl (lv_at hl3 0 rfl) ?_
  refine cm_i (pc := 35) hw12 (rn_M (As := []) (rest := []) E hw12 (s_readRound l D cI cJ _ M mr (upd (upd (upd (upd (upd mi 22 nspot_8) 23 nfrom_9) 24 ntoken_10) 25 nvalue_11) 33 4) mf mg hp_13 hp_14 hp_15 h2 hp_16 hp_17 hp_18 h3 h4 h5 h6 (show (∀ j : Nat, j < 154 → (mf 26) j = w0 j) from lf_words) (show AGN ntoken_10.toInt nvalue_11.toInt nfrom_9.toInt nspot_8.toInt from hp_20) (show rndOK (mi 49).toInt (mi 6).toInt (mf 50) from lf_round)) (gdV q_1730 q_1732 q_68 q_162 q_1733) hdV_X12_readRound ⟨rfl, rfl⟩ ⟨(Nat.le_of_ble_eq_true rfl), (Nat.le_of_ble_eq_true rfl)⟩ ⟨(Nat.le_of_ble_eq_true rfl), (Nat.le_of_ble_eq_true rfl)⟩ 12 rfl rfl rfl rfl hl3.1 rfl (Nat.le_of_ble_eq_true rfl) dX12_readsText_35) (fun r_25 u_24 H1 locs hp hw26 => ?_)
  obtain ⟨nspot_27, nfrom_28, ntoken_29, nvalue_30, nreadFault_31, nreadPlace_32, gstepOp_33, gstepHow_34, nsteps_35, nopen_36, gbackTo_37, gtimesLeft_38, ground_39⟩ := u_24
  generalize H1 = H at hw26 ⊢
  have hw40 : WD D A s.heap (MW cI cJ M mr (upd (upd (upd (upd (upd (upd (upd (upd (upd mi 22 nspot_27) 23 nfrom_28) 24 ntoken_29) 25 nvalue_30) 33 4) 35 nopen_36) 38 nreadFault_31) 39 nreadPlace_32) 48 nsteps_35) (va_up (va_up (va_up (va_up (va_up mf 46 gstepOp_33) 47 gstepHow_34) 50 ground_39) 51 gbackTo_37) 52 gtimesLeft_38) mg) H locs := hw26
  obtain ⟨hp_41, hp_42, hp_43⟩ := hp
  have hp_41 : rndOK (mi 49).toInt (mi 6).toInt ground_39 := hp_41
  have hp_42 : (0 ≤ (r_25 : Int32).toInt → rnd2 ground_39 (r_25 : Int32).toInt (mi 6).toInt) := hp_42
  rcases hp_43 with rfl | ⟨ha_44, ha_45⟩
  · skip
    refine lv_goto (pc := 38) (tgt := 45) E.1 E.2.1 dX12_readsText_38 (by decide) ?_
    exact em_i (w1 := (fun (u : Int32 × Int32 × Int32 × Int32 × Int32 × Int32 × (Nat → Int32) × (Nat → Int32) × Int32 × Int32 × (Nat → Int32) × (Nat → Int32) × (Nat → Int32) × Int32) => (MW cI cJ M mr (upd (upd (upd (upd (upd (upd (upd (upd (upd mi 22 u.1) 23 u.2.1) 24 u.2.2.1) 25 u.2.2.2.1) 38 u.2.2.2.2.1) 39 u.2.2.2.2.2.1) 48 u.2.2.2.2.2.2.2.2.1) 35 u.2.2.2.2.2.2.2.2.2.1) 33 u.2.2.2.2.2.2.2.2.2.2.2.2.2) (va_up (va_up (va_up (va_up (va_up mf 46 u.2.2.2.2.2.2.1) 47 u.2.2.2.2.2.2.2.1) 51 u.2.2.2.2.2.2.2.2.2.2.1) 52 u.2.2.2.2.2.2.2.2.2.2.2.1) 50 u.2.2.2.2.2.2.2.2.2.2.2.2.1) mg))) E hr hlk (nspot_27, nfrom_28, ntoken_29, nvalue_30, nreadFault_31, nreadPlace_32, gstepOp_33, gstepHow_34, nsteps_35, nopen_36, gbackTo_37, gtimesLeft_38, ground_39, 4) hw40 ⟨hp_41, (show (0 ≤ ((-1) : Int32).toInt → rnd2 ground_39 ((-1) : Int32).toInt (mi 6).toInt) from (fun h => absurd h (by decide +kernel))), (Or.inl rfl)⟩ (Nat.le_of_ble_eq_true rfl) (Nat.le_of_ble_eq_true rfl) dX12_readsText_45
  · skip
    have ha_44 : 0 ≤ r_25.toInt := ha_44
    have ha_45 : r_25.toInt ≤ 200 := ha_45
    refine lv_goto (pc := 38) (tgt := 45) E.1 E.2.1 dX12_readsText_38 (by decide) ?_
    exact em_i (w1 := (fun (u : Int32 × Int32 × Int32 × Int32 × Int32 × Int32 × (Nat → Int32) × (Nat → Int32) × Int32 × Int32 × (Nat → Int32) × (Nat → Int32) × (Nat → Int32) × Int32) => (MW cI cJ M mr (upd (upd (upd (upd (upd (upd (upd (upd (upd mi 22 u.1) 23 u.2.1) 24 u.2.2.1) 25 u.2.2.2.1) 38 u.2.2.2.2.1) 39 u.2.2.2.2.2.1) 48 u.2.2.2.2.2.2.2.2.1) 35 u.2.2.2.2.2.2.2.2.2.1) 33 u.2.2.2.2.2.2.2.2.2.2.2.2.2) (va_up (va_up (va_up (va_up (va_up mf 46 u.2.2.2.2.2.2.1) 47 u.2.2.2.2.2.2.2.1) 51 u.2.2.2.2.2.2.2.2.2.2.1) 52 u.2.2.2.2.2.2.2.2.2.2.2.1) 50 u.2.2.2.2.2.2.2.2.2.2.2.2.1) mg))) E hr hlk (nspot_27, nfrom_28, ntoken_29, nvalue_30, nreadFault_31, nreadPlace_32, gstepOp_33, gstepHow_34, nsteps_35, nopen_36, gbackTo_37, gtimesLeft_38, ground_39, 4) hw40 ⟨hp_41, (show (0 ≤ (r_25 : Int32).toInt → rnd2 ground_39 (r_25 : Int32).toInt (mi 6).toInt) from hp_42), (Or.inr (⟨(by show 0 ≤ r_25.toInt; omega), (by show r_25.toInt ≤ 200; omega)⟩))⟩ (Nat.le_of_ble_eq_true rfl) (Nat.le_of_ble_eq_true rfl) dX12_readsText_45

set_option maxHeartbeats 4000000 in
set_option maxRecDepth 100000 in
theorem s_readsText0 (l : Launch) (D : va_G) (cI cJ : ClassId) (sz M : Nat) (mr : Nat → Nat) (mi : Nat → Int32) (mf : Nat → Nat → Int32) (mg : Nat → Nat → Int64)  (h0 : 0 ≤ (mi 22).toInt) (h1 : (mi 22).toInt ≤ (mi 21).toInt) (h2 : (mi 21).toInt ≤ 400) (h3 : ((mf 26) 153).toInt = 32) (h4 : (mi 35).toInt = 0) (h5 : (mi 34).toInt = 0) (h6 : 0 ≤ ((mf 27) 0).toInt) (h7 : ((mf 27) 0).toInt ≤ 16) (h8 : 0 ≤ ((mf 27) 1).toInt) (h9 : ((mf 27) 1).toInt ≤ 16) (lf_words : (∀ j : Nat, j < 154 → (mf 26) j = w0 j)) (lf_law0 : LW 0 0 (mf 31) (mf 32) (mf 28) (mf 29) (mf 30) ((mf 27) 0).toInt 400) (lf_law1 : LW 16 400 (mf 31) (mf 32) (mf 28) (mf 29) (mf 30) ((mf 27) 1).toInt 400) : Met l yX12_readsText (Cond.code yX12_readsText cX12_readsText 2 (some .int) :: GW) ({ frames := 10, cells := 0, slots := 0, locals := 234 } : Room) (va_Pc [.ref M, .int 0] (PW D cI cJ sz (MW cI cJ M mr mi mf mg) xT)) (va_Qi (fun (r : Int32) (u : Int32 × Int32 × Int32 × Int32 × (Nat → Int32) × (Nat → Int32) × Int32 × Int32 × Int32 × (Nat → Int32) × Int32 × Int32 × (Nat → Int32) × (Nat → Int32) × (Nat → Int32) × Int32) => (u.2.2.2.2.2.2.2.2.2.2.2.2.2.2.2.toInt = 0) ∧ (0 ≤ u.2.2.2.2.2.2.1.toInt) ∧ (u.2.2.2.2.2.2.1.toInt ≤ 400) ∧ (LW 0 0 u.2.2.2.2.1 u.2.2.2.2.2.1 u.2.2.2.2.2.2.2.2.2.2.2.2.1 u.2.2.2.2.2.2.2.2.2.2.2.2.2.1 u.2.2.2.2.2.2.2.2.2.2.2.2.2.2.1 ((mf 27) 0).toInt 400) ∧ (LW 16 400 u.2.2.2.2.1 u.2.2.2.2.2.1 u.2.2.2.2.2.2.2.2.2.2.2.2.1 u.2.2.2.2.2.2.2.2.2.2.2.2.2.1 u.2.2.2.2.2.2.2.2.2.2.2.2.2.2.1 ((mf 27) 1).toInt 400) ∧ ((0 ≤ (r : Int32).toInt → LW 32 800 u.2.2.2.2.1 u.2.2.2.2.2.1 u.2.2.2.2.2.2.2.2.2.2.2.2.1 u.2.2.2.2.2.2.2.2.2.2.2.2.2.1 u.2.2.2.2.2.2.2.2.2.2.2.2.2.2.1 (r : Int32).toInt u.2.2.2.2.2.2.1.toInt)) ∧ ((r = (-1)) ∨ (0 ≤ r.toInt ∧ r.toInt ≤ 16))) (fun u => QW D cI cJ (va_A (MW cI cJ M mr mi mf mg) sz) ((fun (u : Int32 × Int32 × Int32 × Int32 × (Nat → Int32) × (Nat → Int32) × Int32 × Int32 × Int32 × (Nat → Int32) × Int32 × Int32 × (Nat → Int32) × (Nat → Int32) × (Nat → Int32) × Int32) => (MW cI cJ M mr (upd (upd (upd (upd (upd (upd (upd (upd (upd (upd mi 22 u.1) 23 u.2.1) 24 u.2.2.1) 25 u.2.2.2.1) 34 u.2.2.2.2.2.2.1) 38 u.2.2.2.2.2.2.2.1) 39 u.2.2.2.2.2.2.2.2.1) 37 u.2.2.2.2.2.2.2.2.2.2.1) 35 u.2.2.2.2.2.2.2.2.2.2.2.1) 33 u.2.2.2.2.2.2.2.2.2.2.2.2.2.2.2) (va_up (va_up (va_up (va_up (va_up (va_up mf 31 u.2.2.2.2.1) 32 u.2.2.2.2.2.1) 36 u.2.2.2.2.2.2.2.2.2.1) 28 u.2.2.2.2.2.2.2.2.2.2.2.2.1) 29 u.2.2.2.2.2.2.2.2.2.2.2.2.2.1) 30 u.2.2.2.2.2.2.2.2.2.2.2.2.2.2.1) mg)) u)) (va_A (MW cI cJ M mr mi mf mg) sz)) 0 0 (va_A (MW cI cJ M mr mi mf mg) sz) := by
  refine mk_met (y := yX12_readsText) (bytes := cX12_readsText) (maxL := 2) (avs := [.ref M, .int 0]) (WS := (MW cI cJ M mr mi mf mg)) (Qf := fun A => va_Qi (fun (r : Int32) (u : Int32 × Int32 × Int32 × Int32 × (Nat → Int32) × (Nat → Int32) × Int32 × Int32 × Int32 × (Nat → Int32) × Int32 × Int32 × (Nat → Int32) × (Nat → Int32) × (Nat → Int32) × Int32) => (u.2.2.2.2.2.2.2.2.2.2.2.2.2.2.2.toInt = 0) ∧ (0 ≤ u.2.2.2.2.2.2.1.toInt) ∧ (u.2.2.2.2.2.2.1.toInt ≤ 400) ∧ (LW 0 0 u.2.2.2.2.1 u.2.2.2.2.2.1 u.2.2.2.2.2.2.2.2.2.2.2.2.1 u.2.2.2.2.2.2.2.2.2.2.2.2.2.1 u.2.2.2.2.2.2.2.2.2.2.2.2.2.2.1 ((mf 27) 0).toInt 400) ∧ (LW 16 400 u.2.2.2.2.1 u.2.2.2.2.2.1 u.2.2.2.2.2.2.2.2.2.2.2.2.1 u.2.2.2.2.2.2.2.2.2.2.2.2.2.1 u.2.2.2.2.2.2.2.2.2.2.2.2.2.2.1 ((mf 27) 1).toInt 400) ∧ ((0 ≤ (r : Int32).toInt → LW 32 800 u.2.2.2.2.1 u.2.2.2.2.2.1 u.2.2.2.2.2.2.2.2.2.2.2.2.1 u.2.2.2.2.2.2.2.2.2.2.2.2.2.1 u.2.2.2.2.2.2.2.2.2.2.2.2.2.2.1 (r : Int32).toInt u.2.2.2.2.2.2.1.toInt)) ∧ ((r = (-1)) ∨ (0 ≤ r.toInt ∧ r.toInt ≤ 16))) (fun u => QW D cI cJ A ((fun (u : Int32 × Int32 × Int32 × Int32 × (Nat → Int32) × (Nat → Int32) × Int32 × Int32 × Int32 × (Nat → Int32) × Int32 × Int32 × (Nat → Int32) × (Nat → Int32) × (Nat → Int32) × Int32) => (MW cI cJ M mr (upd (upd (upd (upd (upd (upd (upd (upd (upd (upd mi 22 u.1) 23 u.2.1) 24 u.2.2.1) 25 u.2.2.2.1) 34 u.2.2.2.2.2.2.1) 38 u.2.2.2.2.2.2.2.1) 39 u.2.2.2.2.2.2.2.2.1) 37 u.2.2.2.2.2.2.2.2.2.2.1) 35 u.2.2.2.2.2.2.2.2.2.2.2.1) 33 u.2.2.2.2.2.2.2.2.2.2.2.2.2.2.2) (va_up (va_up (va_up (va_up (va_up (va_up mf 31 u.2.2.2.2.1) 32 u.2.2.2.2.2.1) 36 u.2.2.2.2.2.2.2.2.2.1) 28 u.2.2.2.2.2.2.2.2.2.2.2.2.1) 29 u.2.2.2.2.2.2.2.2.2.2.2.2.2.1) 30 u.2.2.2.2.2.2.2.2.2.2.2.2.2.2.1) mg)) u)) A) (by decide) (Nat.le_of_ble_eq_true rfl) ?_
  intro p e s m below meth c A ls E hr hlk hnm hX hw1 hl2
  have hl3 : lv_has ls 2 [(0, .ref M), (1, .int 0)] := hl2
  refine lv_aload_n (pc := 0) E.1 E.2.1 dX12_readsText_0 rfl (lv_at hl3 0 rfl) ?_
  refine lv_iload_n (pc := 1) E.1 E.2.1 dX12_readsText_1 rfl (lv_at hl3 1 rfl) ?_
  refine x_put (pc := 2) (T := TX12) (N := 70) (ci := 12) (ws' := (MW cI cJ M mr (upd mi 33 0) mf mg)) E hw1 inX12 tyX12_ok nmX12 0 33 q_1432 rfl rfl (by decide) rfl rfl rfl rfl (Nat.le_of_ble_eq_true rfl) rfl dX12_readsText_2 (fun H locs hw4 => ?_)
  refine lv_aload_n (pc := 5) E.1 E.2.1 dX12_readsText_5 rfl (lv_at hl3 0 rfl) ?_
  refine cm_v (pc := 6) hw4 (rn_M (As := []) (rest := []) E hw4 (s_reads2 l D cI cJ _ M mr (upd mi 33 0) mf mg h0 h1 h2 h3 (show (∀ j : Nat, j < 154 → (mf 26) j = w0 j) from lf_words)) (gdV q_1666 q_1668 q_52 q_162 q_1669) hdV_X12_reads ⟨rfl, rfl⟩ ⟨(Nat.le_of_ble_eq_true rfl), (Nat.le_of_ble_eq_true rfl)⟩ ⟨(Nat.le_of_ble_eq_true rfl), (Nat.le_of_ble_eq_true rfl)⟩ 12 rfl rfl rfl rfl hl3.1 rfl (Nat.le_of_ble_eq_true rfl) dX12_readsText_6) (fun u_5 H1 locs hp hw7 => ?_)
  obtain ⟨nspot_8, nfrom_9, ntoken_10, nvalue_11⟩ := u_5
  generalize H1 = H at hw7 ⊢
  have hw12 : WD D A s.heap (MW cI cJ M mr (upd (upd (upd (upd (upd mi 22 nspot_8) 23 nfrom_9) 24 ntoken_10) 25 nvalue_11) 33 0) mf mg) H locs := hw7
  obtain ⟨hp_13, hp_14, hp_15, hp_16, hp_17, hp_18, hp_19, hp_20⟩ := hp
  have hp_13 : 0 ≤ nfrom_9.toInt := hp_13
  have hp_14 : nfrom_9.toInt ≤ nspot_8.toInt := hp_14
  have hp_15 : nspot_8.toInt ≤ (mi 21).toInt := hp_15
  have hp_16 : 0 ≤ ntoken_10.toInt := hp_16
  have hp_17 : ntoken_10.toInt ≤ 4 := hp_17
  have hp_18 : ntoken_10.toInt ≤ 4 * nspot_8.toInt - 4 * nfrom_9.toInt := hp_18
  have hp_19 : (mi 22).toInt ≤ nfrom_9.toInt := hp_19
  have hp_20 : AGN ntoken_10.toInt nvalue_11.toInt nfrom_9.toInt nspot_8.toInt := hp_20
  refine lv_iload_n (pc := 9) E.1 E.2.1 dX12_readsText_9 rfl (lv_at hl3 1 rfl) ?_
  refine lv_iconst (pc := 10) (v := 2) E.1 E.2.1 dX12_readsText_10 (by decide +kernel) ?_
  refine lv_icmp_ne (pc := 11) (tgt := 19) E.1 E.2.1 dX12_readsText_11 (by decide) (fun _ => ?_) (fun c_21 => absurd c_21 (mneE (a := 0) (b := 2) (by decide +kernel) (by decide +kernel) (by omega)))
  refine lv_iload_n (pc := 19) E.1 E.2.1 dX12_readsText_19 rfl (lv_at hl3 1 rfl) ?_
  refine lv_iconst (pc := 20) (v := 3) E.1 E.2.1 dX12_readsText_20 (by decide +kernel) ?_
  refine lv_icmp_ne (pc := 21) (tgt := 29) E.1 E.2.1 dX12_readsText_21 (by decide) (fun _ => ?_) (fun c_22 => absurd c_22 (mneE (a := 0) (b := 3) (by decide +kernel) (by decide +kernel) (by omega)))
  refine lv_iload_n (pc := 29) E.1 E.2.1 dX12_readsText_29 rfl (lv_at hl3 1 rfl) ?_
  refine lv_iconst (pc := 30) (v := 4) E.1 E.2.1 dX12_readsText_30 (by decide +kernel) ?_
  refine lv_icmp_ne (pc := 31) (tgt := 41) E.1 E.2.1 dX12_readsText_31 (by decide) (fun _ => ?_) (fun c_23 => absurd c_23 (mneE (a := 0) (b := 4) (by decide +kernel) (by decide +kernel) (by omega)))
  refine lv_aload_n (pc := 41) E.1 E.2.1 dX12_readsText_41 rfl (lv_at hl3 0 rfl) ?_
  refine cm_i (pc := 42) hw12 (rn_M (As := []) (rest := []) E hw12 (s_readLaw l D cI cJ _ M mr (upd (upd (upd (upd (upd mi 22 nspot_8) 23 nfrom_9) 24 ntoken_10) 25 nvalue_11) 33 0) mf mg hp_13 hp_14 hp_15 h2 hp_16 hp_17 hp_18 h3 (by show 0 ≤ (mi 34).toInt; omega) (by show (mi 34).toInt ≤ nfrom_9.toInt; omega) (by show 0 ≤ (mi 35).toInt ∧ (mi 35).toInt ≤ 8; omega) h6 h7 h8 h9 (show LW 0 0 (mf 31) (mf 32) (mf 28) (mf 29) (mf 30) ((mf 27) 0).toInt 400 from lf_law0) (show LW 16 400 (mf 31) (mf 32) (mf 28) (mf 29) (mf 30) ((mf 27) 1).toInt 400 from lf_law1)) (gdV q_1762 q_1764 q_76 q_162 q_1765) hdV_X12_readLaw ⟨rfl, rfl⟩ ⟨(Nat.le_of_ble_eq_true rfl), (Nat.le_of_ble_eq_true rfl)⟩ ⟨(Nat.le_of_ble_eq_true rfl), (Nat.le_of_ble_eq_true rfl)⟩ 12 rfl rfl rfl rfl hl3.1 rfl (Nat.le_of_ble_eq_true rfl) dX12_readsText_42) (fun r_25 u_24 H1 locs hp hw26 => ?_)
  obtain ⟨nspot_27, nfrom_28, ntoken_29, nvalue_30, gop_31, garg_32, ncodes_33, nreadFault_34, nreadPlace_35, gpending_36, npendings_37, nopen_38, glineFrom_39, glineWhen_40, glineTo_41⟩ := u_24
  generalize H1 = H at hw26 ⊢
  have hw42 : WD D A s.heap (MW cI cJ M mr (upd (upd (upd (upd (upd (upd (upd (upd (upd (upd mi 22 nspot_27) 23 nfrom_28) 24 ntoken_29) 25 nvalue_30) 33 0) 34 ncodes_33) 35 nopen_38) 37 npendings_37) 38 nreadFault_34) 39 nreadPlace_35) (va_up (va_up (va_up (va_up (va_up (va_up mf 28 glineFrom_39) 29 glineWhen_40) 30 glineTo_41) 31 gop_31) 32 garg_32) 36 gpending_36) mg) H locs := hw26
  obtain ⟨hp_43, hp_44, hp_45, hp_46, hp_47, hp_48, hp_49, hp_50, hp_51, hp_52, hp_53, hp_54, hp_55, hp_56⟩ := hp
  have hp_43 : 0 ≤ nfrom_28.toInt := hp_43
  have hp_44 : nfrom_28.toInt ≤ nspot_27.toInt := hp_44
  have hp_45 : nspot_27.toInt ≤ (mi 21).toInt := hp_45
  have hp_46 : 0 ≤ ntoken_29.toInt := hp_46
  have hp_47 : ntoken_29.toInt ≤ 4 := hp_47
  have hp_48 : ntoken_29.toInt ≤ 4 * nspot_27.toInt - 4 * nfrom_28.toInt := hp_48
  have hp_49 : 0 ≤ ncodes_33.toInt := hp_49
  have hp_50 : ncodes_33.toInt ≤ nfrom_28.toInt := hp_50
  have hp_51 : 0 ≤ nopen_38.toInt := hp_51
  have hp_52 : nopen_38.toInt ≤ 8 := hp_52
  have hp_53 : LW 0 0 gop_31 garg_32 glineFrom_39 glineWhen_40 glineTo_41 ((mf 27) 0).toInt 400 := hp_53
  have hp_54 : LW 16 400 gop_31 garg_32 glineFrom_39 glineWhen_40 glineTo_41 ((mf 27) 1).toInt 400 := hp_54
  have hp_55 : (0 ≤ (r_25 : Int32).toInt → LW 32 800 gop_31 garg_32 glineFrom_39 glineWhen_40 glineTo_41 (r_25 : Int32).toInt ncodes_33.toInt) := hp_55
  rcases hp_56 with rfl | ⟨ha_57, ha_58⟩
  · skip
    exact em_i (w1 := (fun (u : Int32 × Int32 × Int32 × Int32 × (Nat → Int32) × (Nat → Int32) × Int32 × Int32 × Int32 × (Nat → Int32) × Int32 × Int32 × (Nat → Int32) × (Nat → Int32) × (Nat → Int32) × Int32) => (MW cI cJ M mr (upd (upd (upd (upd (upd (upd (upd (upd (upd (upd mi 22 u.1) 23 u.2.1) 24 u.2.2.1) 25 u.2.2.2.1) 34 u.2.2.2.2.2.2.1) 38 u.2.2.2.2.2.2.2.1) 39 u.2.2.2.2.2.2.2.2.1) 37 u.2.2.2.2.2.2.2.2.2.2.1) 35 u.2.2.2.2.2.2.2.2.2.2.2.1) 33 u.2.2.2.2.2.2.2.2.2.2.2.2.2.2.2) (va_up (va_up (va_up (va_up (va_up (va_up mf 31 u.2.2.2.2.1) 32 u.2.2.2.2.2.1) 36 u.2.2.2.2.2.2.2.2.2.1) 28 u.2.2.2.2.2.2.2.2.2.2.2.2.1) 29 u.2.2.2.2.2.2.2.2.2.2.2.2.2.1) 30 u.2.2.2.2.2.2.2.2.2.2.2.2.2.2.1) mg))) E hr hlk (nspot_27, nfrom_28, ntoken_29, nvalue_30, gop_31, garg_32, ncodes_33, nreadFault_34, nreadPlace_35, gpending_36, npendings_37, nopen_38, glineFrom_39, glineWhen_40, glineTo_41, 0) hw42 ⟨(by show (0 : Int32).toInt = 0; have k_0 : (0 : Int32).toInt = 0 := (by decide +kernel); have k_1 : (0 : Int32).toInt = 0 := (by decide +kernel); have k_2 : ((-1) : Int32).toInt = -1 := (by decide +kernel); omega), hp_49, (by show ncodes_33.toInt ≤ 400; have k_0 : (0 : Int32).toInt = 0 := (by decide +kernel); have k_1 : (0 : Int32).toInt = 0 := (by decide +kernel); have k_2 : ((-1) : Int32).toInt = -1 := (by decide +kernel); omega), hp_53, hp_54, (show (0 ≤ ((-1) : Int32).toInt → LW 32 800 gop_31 garg_32 glineFrom_39 glineWhen_40 glineTo_41 ((-1) : Int32).toInt ncodes_33.toInt) from (fun h => absurd h (by decide +kernel))), (Or.inl rfl)⟩ (Nat.le_of_ble_eq_true rfl) (Nat.le_of_ble_eq_true rfl) dX12_readsText_45
  · skip
    have ha_57 : 0 ≤ r_25.toInt := ha_57
    have ha_58 : r_25.toInt ≤ 16 := ha_58
    exact em_i (w1 := (fun (u : Int32 × Int32 × Int32 × Int32 × (Nat → Int32) × (Nat → Int32) × Int32 × Int32 × Int32 × (Nat → Int32) × Int32 × Int32 × (Nat → Int32) × (Nat → Int32) × (Nat → Int32) × Int32) => (MW cI cJ M mr (upd (upd (upd (upd (upd (upd (upd (upd (upd (upd mi 22 u.1) 23 u.2.1) 24 u.2.2.1) 25 u.2.2.2.1) 34 u.2.2.2.2.2.2.1) 38 u.2.2.2.2.2.2.2.1) 39 u.2.2.2.2.2.2.2.2.1) 37 u.2.2.2.2.2.2.2.2.2.2.1) 35 u.2.2.2.2.2.2.2.2.2.2.2.1) 33 u.2.2.2.2.2.2.2.2.2.2.2.2.2.2.2) (va_up (va_up (va_up (va_up (va_up (va_up mf 31 u.2.2.2.2.1) 32 u.2.2.2.2.2.1) 36 u.2.2.2.2.2.2.2.2.2.1) 28 u.2.2.2.2.2.2.2.2.2.2.2.2.1) 29 u.2.2.2.2.2.2.2.2.2.2.2.2.2.1) 30 u.2.2.2.2.2.2.2.2.2.2.2.2.2.2.1) mg))) E hr hlk (nspot_27, nfrom_28, ntoken_29, nvalue_30, gop_31, garg_32, ncodes_33, nreadFault_34, nreadPlace_35, gpending_36, npendings_37, nopen_38, glineFrom_39, glineWhen_40, glineTo_41, 0) hw42 ⟨(by show (0 : Int32).toInt = 0; have k_0 : (0 : Int32).toInt = 0 := (by decide +kernel); have k_1 : (0 : Int32).toInt = 0 := (by decide +kernel); omega), hp_49, (by show ncodes_33.toInt ≤ 400; have k_0 : (0 : Int32).toInt = 0 := (by decide +kernel); have k_1 : (0 : Int32).toInt = 0 := (by decide +kernel); omega), hp_53, hp_54, (show (0 ≤ (r_25 : Int32).toInt → LW 32 800 gop_31 garg_32 glineFrom_39 glineWhen_40 glineTo_41 (r_25 : Int32).toInt ncodes_33.toInt) from hp_55), (Or.inr (⟨(by show 0 ≤ r_25.toInt; omega), (by show r_25.toInt ≤ 16; omega)⟩))⟩ (Nat.le_of_ble_eq_true rfl) (Nat.le_of_ble_eq_true rfl) dX12_readsText_45

set_option maxHeartbeats 4000000 in
set_option maxRecDepth 100000 in
theorem s_readsText1 (l : Launch) (D : va_G) (cI cJ : ClassId) (sz M : Nat) (mr : Nat → Nat) (mi : Nat → Int32) (mf : Nat → Nat → Int32) (mg : Nat → Nat → Int64)  (h0 : 0 ≤ (mi 22).toInt) (h1 : (mi 22).toInt ≤ (mi 21).toInt) (h2 : (mi 21).toInt ≤ 400) (h3 : ((mf 26) 153).toInt = 32) (h4 : (mi 35).toInt = 0) (h5 : (mi 34).toInt = 0) (h6 : 0 ≤ ((mf 27) 0).toInt) (h7 : ((mf 27) 0).toInt ≤ 16) (h8 : 0 ≤ ((mf 27) 1).toInt) (h9 : ((mf 27) 1).toInt ≤ 16) (lf_words : (∀ j : Nat, j < 154 → (mf 26) j = w0 j)) (lf_law0 : LW 0 0 (mf 31) (mf 32) (mf 28) (mf 29) (mf 30) ((mf 27) 0).toInt 400) (lf_law1 : LW 16 400 (mf 31) (mf 32) (mf 28) (mf 29) (mf 30) ((mf 27) 1).toInt 400) : Met l yX12_readsText (Cond.code yX12_readsText cX12_readsText 2 (some .int) :: GW) ({ frames := 10, cells := 0, slots := 0, locals := 234 } : Room) (va_Pc [.ref M, .int 1] (PW D cI cJ sz (MW cI cJ M mr mi mf mg) xT)) (va_Qi (fun (r : Int32) (u : Int32 × Int32 × Int32 × Int32 × (Nat → Int32) × (Nat → Int32) × Int32 × Int32 × Int32 × (Nat → Int32) × Int32 × Int32 × (Nat → Int32) × (Nat → Int32) × (Nat → Int32) × Int32) => (u.2.2.2.2.2.2.2.2.2.2.2.2.2.2.2.toInt = 1) ∧ (0 ≤ u.2.2.2.2.2.2.1.toInt) ∧ (u.2.2.2.2.2.2.1.toInt ≤ 400) ∧ (LW 0 0 u.2.2.2.2.1 u.2.2.2.2.2.1 u.2.2.2.2.2.2.2.2.2.2.2.2.1 u.2.2.2.2.2.2.2.2.2.2.2.2.2.1 u.2.2.2.2.2.2.2.2.2.2.2.2.2.2.1 ((mf 27) 0).toInt 400) ∧ (LW 16 400 u.2.2.2.2.1 u.2.2.2.2.2.1 u.2.2.2.2.2.2.2.2.2.2.2.2.1 u.2.2.2.2.2.2.2.2.2.2.2.2.2.1 u.2.2.2.2.2.2.2.2.2.2.2.2.2.2.1 ((mf 27) 1).toInt 400) ∧ ((0 ≤ (r : Int32).toInt → LW 32 800 u.2.2.2.2.1 u.2.2.2.2.2.1 u.2.2.2.2.2.2.2.2.2.2.2.2.1 u.2.2.2.2.2.2.2.2.2.2.2.2.2.1 u.2.2.2.2.2.2.2.2.2.2.2.2.2.2.1 (r : Int32).toInt u.2.2.2.2.2.2.1.toInt)) ∧ ((r = (-1)) ∨ (0 ≤ r.toInt ∧ r.toInt ≤ 16))) (fun u => QW D cI cJ (va_A (MW cI cJ M mr mi mf mg) sz) ((fun (u : Int32 × Int32 × Int32 × Int32 × (Nat → Int32) × (Nat → Int32) × Int32 × Int32 × Int32 × (Nat → Int32) × Int32 × Int32 × (Nat → Int32) × (Nat → Int32) × (Nat → Int32) × Int32) => (MW cI cJ M mr (upd (upd (upd (upd (upd (upd (upd (upd (upd (upd mi 22 u.1) 23 u.2.1) 24 u.2.2.1) 25 u.2.2.2.1) 34 u.2.2.2.2.2.2.1) 38 u.2.2.2.2.2.2.2.1) 39 u.2.2.2.2.2.2.2.2.1) 37 u.2.2.2.2.2.2.2.2.2.2.1) 35 u.2.2.2.2.2.2.2.2.2.2.2.1) 33 u.2.2.2.2.2.2.2.2.2.2.2.2.2.2.2) (va_up (va_up (va_up (va_up (va_up (va_up mf 31 u.2.2.2.2.1) 32 u.2.2.2.2.2.1) 36 u.2.2.2.2.2.2.2.2.2.1) 28 u.2.2.2.2.2.2.2.2.2.2.2.2.1) 29 u.2.2.2.2.2.2.2.2.2.2.2.2.2.1) 30 u.2.2.2.2.2.2.2.2.2.2.2.2.2.2.1) mg)) u)) (va_A (MW cI cJ M mr mi mf mg) sz)) 0 0 (va_A (MW cI cJ M mr mi mf mg) sz) := by
  refine mk_met (y := yX12_readsText) (bytes := cX12_readsText) (maxL := 2) (avs := [.ref M, .int 1]) (WS := (MW cI cJ M mr mi mf mg)) (Qf := fun A => va_Qi (fun (r : Int32) (u : Int32 × Int32 × Int32 × Int32 × (Nat → Int32) × (Nat → Int32) × Int32 × Int32 × Int32 × (Nat → Int32) × Int32 × Int32 × (Nat → Int32) × (Nat → Int32) × (Nat → Int32) × Int32) => (u.2.2.2.2.2.2.2.2.2.2.2.2.2.2.2.toInt = 1) ∧ (0 ≤ u.2.2.2.2.2.2.1.toInt) ∧ (u.2.2.2.2.2.2.1.toInt ≤ 400) ∧ (LW 0 0 u.2.2.2.2.1 u.2.2.2.2.2.1 u.2.2.2.2.2.2.2.2.2.2.2.2.1 u.2.2.2.2.2.2.2.2.2.2.2.2.2.1 u.2.2.2.2.2.2.2.2.2.2.2.2.2.2.1 ((mf 27) 0).toInt 400) ∧ (LW 16 400 u.2.2.2.2.1 u.2.2.2.2.2.1 u.2.2.2.2.2.2.2.2.2.2.2.2.1 u.2.2.2.2.2.2.2.2.2.2.2.2.2.1 u.2.2.2.2.2.2.2.2.2.2.2.2.2.2.1 ((mf 27) 1).toInt 400) ∧ ((0 ≤ (r : Int32).toInt → LW 32 800 u.2.2.2.2.1 u.2.2.2.2.2.1 u.2.2.2.2.2.2.2.2.2.2.2.2.1 u.2.2.2.2.2.2.2.2.2.2.2.2.2.1 u.2.2.2.2.2.2.2.2.2.2.2.2.2.2.1 (r : Int32).toInt u.2.2.2.2.2.2.1.toInt)) ∧ ((r = (-1)) ∨ (0 ≤ r.toInt ∧ r.toInt ≤ 16))) (fun u => QW D cI cJ A ((fun (u : Int32 × Int32 × Int32 × Int32 × (Nat → Int32) × (Nat → Int32) × Int32 × Int32 × Int32 × (Nat → Int32) × Int32 × Int32 × (Nat → Int32) × (Nat → Int32) × (Nat → Int32) × Int32) => (MW cI cJ M mr (upd (upd (upd (upd (upd (upd (upd (upd (upd (upd mi 22 u.1) 23 u.2.1) 24 u.2.2.1) 25 u.2.2.2.1) 34 u.2.2.2.2.2.2.1) 38 u.2.2.2.2.2.2.2.1) 39 u.2.2.2.2.2.2.2.2.1) 37 u.2.2.2.2.2.2.2.2.2.2.1) 35 u.2.2.2.2.2.2.2.2.2.2.2.1) 33 u.2.2.2.2.2.2.2.2.2.2.2.2.2.2.2) (va_up (va_up (va_up (va_up (va_up (va_up mf 31 u.2.2.2.2.1) 32 u.2.2.2.2.2.1) 36 u.2.2.2.2.2.2.2.2.2.1) 28 u.2.2.2.2.2.2.2.2.2.2.2.2.1) 29 u.2.2.2.2.2.2.2.2.2.2.2.2.2.1) 30 u.2.2.2.2.2.2.2.2.2.2.2.2.2.2.1) mg)) u)) A) (by decide) (Nat.le_of_ble_eq_true rfl) ?_
  intro p e s m below meth c A ls E hr hlk hnm hX hw1 hl2
  have hl3 : lv_has ls 2 [(0, .ref M), (1, .int 1)] := hl2
  refine lv_aload_n (pc := 0) E.1 E.2.1 dX12_readsText_0 rfl (lv_at hl3 0 rfl) ?_
  refine lv_iload_n (pc := 1) E.1 E.2.1 dX12_readsText_1 rfl (lv_at hl3 1 rfl) ?_
  refine x_put (pc := 2) (T := TX12) (N := 70) (ci := 12) (ws' := (MW cI cJ M mr (upd mi 33 1) mf mg)) E hw1 inX12 tyX12_ok nmX12 0 33 q_1432 rfl rfl (by decide) rfl rfl rfl rfl (Nat.le_of_ble_eq_true rfl) rfl dX12_readsText_2 (fun H locs hw4 => ?_)
  refine lv_aload_n (pc := 5) E.1 E.2.1 dX12_readsText_5 rfl (lv_at hl3 0 rfl) ?_
  refine cm_v (pc := 6) hw4 (rn_M (As := []) (rest := []) E hw4 (s_reads2 l D cI cJ _ M mr (upd mi 33 1) mf mg h0 h1 h2 h3 (show (∀ j : Nat, j < 154 → (mf 26) j = w0 j) from lf_words)) (gdV q_1666 q_1668 q_52 q_162 q_1669) hdV_X12_reads ⟨rfl, rfl⟩ ⟨(Nat.le_of_ble_eq_true rfl), (Nat.le_of_ble_eq_true rfl)⟩ ⟨(Nat.le_of_ble_eq_true rfl), (Nat.le_of_ble_eq_true rfl)⟩ 12 rfl rfl rfl rfl hl3.1 rfl (Nat.le_of_ble_eq_true rfl) dX12_readsText_6) (fun u_5 H1 locs hp hw7 => ?_)
  obtain ⟨nspot_8, nfrom_9, ntoken_10, nvalue_11⟩ := u_5
  generalize H1 = H at hw7 ⊢
  have hw12 : WD D A s.heap (MW cI cJ M mr (upd (upd (upd (upd (upd mi 22 nspot_8) 23 nfrom_9) 24 ntoken_10) 25 nvalue_11) 33 1) mf mg) H locs := hw7
  obtain ⟨hp_13, hp_14, hp_15, hp_16, hp_17, hp_18, hp_19, hp_20⟩ := hp
  have hp_13 : 0 ≤ nfrom_9.toInt := hp_13
  have hp_14 : nfrom_9.toInt ≤ nspot_8.toInt := hp_14
  have hp_15 : nspot_8.toInt ≤ (mi 21).toInt := hp_15
  have hp_16 : 0 ≤ ntoken_10.toInt := hp_16
  have hp_17 : ntoken_10.toInt ≤ 4 := hp_17
  have hp_18 : ntoken_10.toInt ≤ 4 * nspot_8.toInt - 4 * nfrom_9.toInt := hp_18
  have hp_19 : (mi 22).toInt ≤ nfrom_9.toInt := hp_19
  have hp_20 : AGN ntoken_10.toInt nvalue_11.toInt nfrom_9.toInt nspot_8.toInt := hp_20
  refine lv_iload_n (pc := 9) E.1 E.2.1 dX12_readsText_9 rfl (lv_at hl3 1 rfl) ?_
  refine lv_iconst (pc := 10) (v := 2) E.1 E.2.1 dX12_readsText_10 (by decide +kernel) ?_
  refine lv_icmp_ne (pc := 11) (tgt := 19) E.1 E.2.1 dX12_readsText_11 (by decide) (fun _ => ?_) (fun c_21 => absurd c_21 (mneE (a := 1) (b := 2) (by decide +kernel) (by decide +kernel) (by omega)))
  refine lv_iload_n (pc := 19) E.1 E.2.1 dX12_readsText_19 rfl (lv_at hl3 1 rfl) ?_
  refine lv_iconst (pc := 20) (v := 3) E.1 E.2.1 dX12_readsText_20 (by decide +kernel) ?_
  refine lv_icmp_ne (pc := 21) (tgt := 29) E.1 E.2.1 dX12_readsText_21 (by decide) (fun _ => ?_) (fun c_22 => absurd c_22 (mneE (a := 1) (b := 3) (by decide +kernel) (by decide +kernel) (by omega)))
  refine lv_iload_n (pc := 29) E.1 E.2.1 dX12_readsText_29 rfl (lv_at hl3 1 rfl) ?_
  refine lv_iconst (pc := 30) (v := 4) E.1 E.2.1 dX12_readsText_30 (by decide +kernel) ?_
  refine lv_icmp_ne (pc := 31) (tgt := 41) E.1 E.2.1 dX12_readsText_31 (by decide) (fun _ => ?_) (fun c_23 => absurd c_23 (mneE (a := 1) (b := 4) (by decide +kernel) (by decide +kernel) (by omega)))
  refine lv_aload_n (pc := 41) E.1 E.2.1 dX12_readsText_41 rfl (lv_at hl3 0 rfl) ?_
  refine cm_i (pc := 42) hw12 (rn_M (As := []) (rest := []) E hw12 (s_readLaw l D cI cJ _ M mr (upd (upd (upd (upd (upd mi 22 nspot_8) 23 nfrom_9) 24 ntoken_10) 25 nvalue_11) 33 1) mf mg hp_13 hp_14 hp_15 h2 hp_16 hp_17 hp_18 h3 (by show 0 ≤ (mi 34).toInt; omega) (by show (mi 34).toInt ≤ nfrom_9.toInt; omega) (by show 0 ≤ (mi 35).toInt ∧ (mi 35).toInt ≤ 8; omega) h6 h7 h8 h9 (show LW 0 0 (mf 31) (mf 32) (mf 28) (mf 29) (mf 30) ((mf 27) 0).toInt 400 from lf_law0) (show LW 16 400 (mf 31) (mf 32) (mf 28) (mf 29) (mf 30) ((mf 27) 1).toInt 400 from lf_law1)) (gdV q_1762 q_1764 q_76 q_162 q_1765) hdV_X12_readLaw ⟨rfl, rfl⟩ ⟨(Nat.le_of_ble_eq_true rfl), (Nat.le_of_ble_eq_true rfl)⟩ ⟨(Nat.le_of_ble_eq_true rfl), (Nat.le_of_ble_eq_true rfl)⟩ 12 rfl rfl rfl rfl hl3.1 rfl (Nat.le_of_ble_eq_true rfl) dX12_readsText_42) (fun r_25 u_24 H1 locs hp hw26 => ?_)
  obtain ⟨nspot_27, nfrom_28, ntoken_29, nvalue_30, gop_31, garg_32, ncodes_33, nreadFault_34, nreadPlace_35, gpending_36, npendings_37, nopen_38, glineFrom_39, glineWhen_40, glineTo_41⟩ := u_24
  generalize H1 = H at hw26 ⊢
  have hw42 : WD D A s.heap (MW cI cJ M mr (upd (upd (upd (upd (upd (upd (upd (upd (upd (upd mi 22 nspot_27) 23 nfrom_28) 24 ntoken_29) 25 nvalue_30) 33 1) 34 ncodes_33) 35 nopen_38) 37 npendings_37) 38 nreadFault_34) 39 nreadPlace_35) (va_up (va_up (va_up (va_up (va_up (va_up mf 28 glineFrom_39) 29 glineWhen_40) 30 glineTo_41) 31 gop_31) 32 garg_32) 36 gpending_36) mg) H locs := hw26
  obtain ⟨hp_43, hp_44, hp_45, hp_46, hp_47, hp_48, hp_49, hp_50, hp_51, hp_52, hp_53, hp_54, hp_55, hp_56⟩ := hp
  have hp_43 : 0 ≤ nfrom_28.toInt := hp_43
  have hp_44 : nfrom_28.toInt ≤ nspot_27.toInt := hp_44
  have hp_45 : nspot_27.toInt ≤ (mi 21).toInt := hp_45
  have hp_46 : 0 ≤ ntoken_29.toInt := hp_46
  have hp_47 : ntoken_29.toInt ≤ 4 := hp_47
  have hp_48 : ntoken_29.toInt ≤ 4 * nspot_27.toInt - 4 * nfrom_28.toInt := hp_48
  have hp_49 : 0 ≤ ncodes_33.toInt := hp_49
  have hp_50 : ncodes_33.toInt ≤ nfrom_28.toInt := hp_50
  have hp_51 : 0 ≤ nopen_38.toInt := hp_51
  have hp_52 : nopen_38.toInt ≤ 8 := hp_52
  have hp_53 : LW 0 0 gop_31 garg_32 glineFrom_39 glineWhen_40 glineTo_41 ((mf 27) 0).toInt 400 := hp_53
  have hp_54 : LW 16 400 gop_31 garg_32 glineFrom_39 glineWhen_40 glineTo_41 ((mf 27) 1).toInt 400 := hp_54
  have hp_55 : (0 ≤ (r_25 : Int32).toInt → LW 32 800 gop_31 garg_32 glineFrom_39 glineWhen_40 glineTo_41 (r_25 : Int32).toInt ncodes_33.toInt) := hp_55
  rcases hp_56 with rfl | ⟨ha_57, ha_58⟩
  · skip
    exact em_i (w1 := (fun (u : Int32 × Int32 × Int32 × Int32 × (Nat → Int32) × (Nat → Int32) × Int32 × Int32 × Int32 × (Nat → Int32) × Int32 × Int32 × (Nat → Int32) × (Nat → Int32) × (Nat → Int32) × Int32) => (MW cI cJ M mr (upd (upd (upd (upd (upd (upd (upd (upd (upd (upd mi 22 u.1) 23 u.2.1) 24 u.2.2.1) 25 u.2.2.2.1) 34 u.2.2.2.2.2.2.1) 38 u.2.2.2.2.2.2.2.1) 39 u.2.2.2.2.2.2.2.2.1) 37 u.2.2.2.2.2.2.2.2.2.2.1) 35 u.2.2.2.2.2.2.2.2.2.2.2.1) 33 u.2.2.2.2.2.2.2.2.2.2.2.2.2.2.2) (va_up (va_up (va_up (va_up (va_up (va_up mf 31 u.2.2.2.2.1) 32 u.2.2.2.2.2.1) 36 u.2.2.2.2.2.2.2.2.2.1) 28 u.2.2.2.2.2.2.2.2.2.2.2.2.1) 29 u.2.2.2.2.2.2.2.2.2.2.2.2.2.1) 30 u.2.2.2.2.2.2.2.2.2.2.2.2.2.2.1) mg))) E hr hlk (nspot_27, nfrom_28, ntoken_29, nvalue_30, gop_31, garg_32, ncodes_33, nreadFault_34, nreadPlace_35, gpending_36, npendings_37, nopen_38, glineFrom_39, glineWhen_40, glineTo_41, 1) hw42 ⟨(by show (1 : Int32).toInt = 1; have k_0 : (1 : Int32).toInt = 1 := (by decide +kernel); have k_1 : (1 : Int32).toInt = 1 := (by decide +kernel); have k_2 : ((-1) : Int32).toInt = -1 := (by decide +kernel); omega), hp_49, (by show ncodes_33.toInt ≤ 400; have k_0 : (1 : Int32).toInt = 1 := (by decide +kernel); have k_1 : (1 : Int32).toInt = 1 := (by decide +kernel); have k_2 : ((-1) : Int32).toInt = -1 := (by decide +kernel); omega), hp_53, hp_54, (show (0 ≤ ((-1) : Int32).toInt → LW 32 800 gop_31 garg_32 glineFrom_39 glineWhen_40 glineTo_41 ((-1) : Int32).toInt ncodes_33.toInt) from (fun h => absurd h (by decide +kernel))), (Or.inl rfl)⟩ (Nat.le_of_ble_eq_true rfl) (Nat.le_of_ble_eq_true rfl) dX12_readsText_45
  · skip
    have ha_57 : 0 ≤ r_25.toInt := ha_57
    have ha_58 : r_25.toInt ≤ 16 := ha_58
    exact em_i (w1 := (fun (u : Int32 × Int32 × Int32 × Int32 × (Nat → Int32) × (Nat → Int32) × Int32 × Int32 × Int32 × (Nat → Int32) × Int32 × Int32 × (Nat → Int32) × (Nat → Int32) × (Nat → Int32) × Int32) => (MW cI cJ M mr (upd (upd (upd (upd (upd (upd (upd (upd (upd (upd mi 22 u.1) 23 u.2.1) 24 u.2.2.1) 25 u.2.2.2.1) 34 u.2.2.2.2.2.2.1) 38 u.2.2.2.2.2.2.2.1) 39 u.2.2.2.2.2.2.2.2.1) 37 u.2.2.2.2.2.2.2.2.2.2.1) 35 u.2.2.2.2.2.2.2.2.2.2.2.1) 33 u.2.2.2.2.2.2.2.2.2.2.2.2.2.2.2) (va_up (va_up (va_up (va_up (va_up (va_up mf 31 u.2.2.2.2.1) 32 u.2.2.2.2.2.1) 36 u.2.2.2.2.2.2.2.2.2.1) 28 u.2.2.2.2.2.2.2.2.2.2.2.2.1) 29 u.2.2.2.2.2.2.2.2.2.2.2.2.2.1) 30 u.2.2.2.2.2.2.2.2.2.2.2.2.2.2.1) mg))) E hr hlk (nspot_27, nfrom_28, ntoken_29, nvalue_30, gop_31, garg_32, ncodes_33, nreadFault_34, nreadPlace_35, gpending_36, npendings_37, nopen_38, glineFrom_39, glineWhen_40, glineTo_41, 1) hw42 ⟨(by show (1 : Int32).toInt = 1; have k_0 : (1 : Int32).toInt = 1 := (by decide +kernel); have k_1 : (1 : Int32).toInt = 1 := (by decide +kernel); omega), hp_49, (by show ncodes_33.toInt ≤ 400; have k_0 : (1 : Int32).toInt = 1 := (by decide +kernel); have k_1 : (1 : Int32).toInt = 1 := (by decide +kernel); omega), hp_53, hp_54, (show (0 ≤ (r_25 : Int32).toInt → LW 32 800 gop_31 garg_32 glineFrom_39 glineWhen_40 glineTo_41 (r_25 : Int32).toInt ncodes_33.toInt) from hp_55), (Or.inr (⟨(by show 0 ≤ r_25.toInt; omega), (by show r_25.toInt ≤ 16; omega)⟩))⟩ (Nat.le_of_ble_eq_true rfl) (Nat.le_of_ble_eq_true rfl) dX12_readsText_45

set_option maxHeartbeats 4000000 in
set_option maxRecDepth 100000 in
theorem s_takesOther2 (l : Launch) (D : va_G) (cI cJ : ClassId) (sz M : Nat) (mr : Nat → Nat) (mi : Nat → Int32) (mf : Nat → Nat → Int32) (mg : Nat → Nat → Int64) (z_n : Int32) (h0 : 0 ≤ z_n.toInt ∧ z_n.toInt ≤ 40) (a_paths : pathsOK (mf 43)) (x_pd : PD (mf 43) z_n.toInt) : Met l yX12_takesOther (Cond.code yX12_takesOther cX12_takesOther 4 none :: GW) ({ frames := 1, cells := 0, slots := 0, locals := 40 } : Room) (va_Pc [.ref M, .int 2, .int z_n] (PW D cI cJ sz (MW cI cJ M mr mi mf mg) xT)) (va_Qv (fun (u : (Nat → Int32) × Int32 × Int32) => (u.2.1.toInt = z_n.toInt) ∧ (u.2.2.toInt = 0) ∧ (pathsOK u.1) ∧ (rowsOK u.2.2.toInt (mi 6).toInt (mf 2))) (fun u => QW D cI cJ (va_A (MW cI cJ M mr mi mf mg) sz) ((fun (u : (Nat → Int32) × Int32 × Int32) => (MW cI cJ M mr (upd (upd mi 42 u.2.1) 3 u.2.2) (va_up mf 43 u.1) mg)) u)) (va_A (MW cI cJ M mr mi mf mg) sz)) 0 0 (va_A (MW cI cJ M mr mi mf mg) sz) := by
  refine mk_met (y := yX12_takesOther) (bytes := cX12_takesOther) (maxL := 4) (avs := [.ref M, .int 2, .int z_n]) (WS := (MW cI cJ M mr mi mf mg)) (Qf := fun A => va_Qv (fun (u : (Nat → Int32) × Int32 × Int32) => (u.2.1.toInt = z_n.toInt) ∧ (u.2.2.toInt = 0) ∧ (pathsOK u.1) ∧ (rowsOK u.2.2.toInt (mi 6).toInt (mf 2))) (fun u => QW D cI cJ A ((fun (u : (Nat → Int32) × Int32 × Int32) => (MW cI cJ M mr (upd (upd mi 42 u.2.1) 3 u.2.2) (va_up mf 43 u.1) mg)) u)) A) (by decide) (Nat.le_of_ble_eq_true rfl) ?_
  intro p e s m below meth c A ls E hr hlk hnm hX hw1 hl2
  have hl3 : lv_has ls 4 [(0, .ref M), (1, .int 2), (2, .int z_n)] := hl2
  refine lv_iload_n (pc := 0) E.1 E.2.1 dX12_takesOther_0 rfl (lv_at hl3 1 rfl) ?_
  refine lv_iconst (pc := 1) (v := 2) E.1 E.2.1 dX12_takesOther_1 (by decide +kernel) ?_
  refine lv_icmp_ne (pc := 2) (tgt := 41) E.1 E.2.1 dX12_takesOther_2 (by decide) (fun c_4 => absurd (meqE (a := 2) (b := 2) (by decide +kernel) (by decide +kernel) (by omega)) c_4) (fun _ => ?_)
  refine lv_iconst (pc := 5) (v := 0) E.1 E.2.1 dX12_takesOther_5 (by decide +kernel) ?_
  refine lv_istore_n (pc := 6) (lv' := [(3, .int 0), (0, .ref M), (1, .int 2), (2, .int z_n)]) E.1 E.2.1 dX12_takesOther_6 rfl hl3 (by decide) rfl (fun ls hl5 => ?_)
  have loop_6 : ∀ (k : Nat) (x_7 : Int32) (g_8 : Nat → Int32) (H : Heap) (locs : List Loc) (ls : Array Slot), (0 ≤ x_7.toInt) ∧ (x_7.toInt ≤ 4 * z_n.toInt) ∧ (MV g_8 (mf 43) 0 160 x_7.toInt) → 4 * z_n.toInt - x_7.toInt < (k : Int) → WD D A s.heap (MW cI cJ M mr mi (va_up mf 43 g_8) mg) H locs → lv_has ls 4 [(3, .int x_7), (0, .ref M), (1, .int 2), (2, .int z_n)] → W p l e ({ frames := 1, cells := 0, slots := 0, locals := 40 } : Room) s m ([.ref M, .int 2, .int z_n] : List Value).toArray below meth c H locs 0 0 (MQ below (va_Qv (fun (u : (Nat → Int32) × Int32 × Int32) => (u.2.1.toInt = z_n.toInt) ∧ (u.2.2.toInt = 0) ∧ (pathsOK u.1) ∧ (rowsOK u.2.2.toInt (mi 6).toInt (mf 2))) (fun u => QW D cI cJ A ((fun (u : (Nat → Int32) × Int32 × Int32) => (MW cI cJ M mr (upd (upd mi 42 u.2.1) 3 u.2.2) (va_up mf 43 u.1) mg)) u)) A) ([.ref M, .int 2, .int z_n] : List Value).toArray s 0 0 A) (F0 m 7 ls []) := by
    intro k
    induction k with
    | zero =>
      intro x_7 g_8 _ _ _ hinv hm
      obtain ⟨hi_8_0, hi_8_1, hi_8_2⟩ := hinv
      exact absurd hm (by omega)
    | succ k ih_9 =>
      intro x_7 g_8 H locs ls hinv hm hw10 hl11
      obtain ⟨hi_8_0, hi_8_1, hi_8_2⟩ := hinv
      refine lv_iload_n (pc := 7) E.1 E.2.1 dX12_takesOther_7 rfl (lv_at hl11 0 rfl) ?_
      refine lv_iconst (pc := 8) (v := 4) E.1 E.2.1 dX12_takesOther_8 (by decide +kernel) ?_
      refine lv_iload_n (pc := 9) E.1 E.2.1 dX12_takesOther_9 rfl (lv_at hl11 3 rfl) ?_
      refine lv_imul (pc := 10) E.1 E.2.1 dX12_takesOther_10 ?_
      refine lv_topi (fun v_12 ev_12 => ?_)
      have hv_12 : v_12.toInt = 4 * z_n.toInt := by rw [ev_12]; exact mulE (by decide +kernel) rfl (by omega)
      refine lv_icmp_ge (pc := 11) (tgt := 36) E.1 E.2.1 dX12_takesOther_11 (by decide) (fun c_13 => ?_) (fun c_13 => ?_)
      · skip
        have hc_13 := leE (a := v_12.toInt) (b := x_7.toInt) rfl rfl c_13
        have hpk_14 : pathsOK g_8 := pathsOK_MV a_paths x_pd hi_8_2 (by omega) (by omega)
        refine lv_aload_n (pc := 36) E.1 E.2.1 dX12_takesOther_36 rfl (lv_at hl11 1 rfl) ?_
        refine lv_iload_n (pc := 37) E.1 E.2.1 dX12_takesOther_37 rfl (lv_at hl11 3 rfl) ?_
        refine x_put (pc := 38) (T := TX12) (N := 70) (ci := 12) (ws' := (MW cI cJ M mr (upd mi 42 z_n) (va_up mf 43 g_8) mg)) E hw10 inX12 tyX12_ok nmX12 0 42 q_1441 rfl rfl (by decide) rfl rfl rfl rfl (Nat.le_of_ble_eq_true rfl) rfl dX12_takesOther_38 (fun H locs hw15 => ?_)
        refine lv_iload_n (pc := 41) E.1 E.2.1 dX12_takesOther_41 rfl (lv_at hl11 2 rfl) ?_
        refine lv_iconst (pc := 42) (v := 3) E.1 E.2.1 dX12_takesOther_42 (by decide +kernel) ?_
        refine lv_icmp_ne (pc := 43) (tgt := 115) E.1 E.2.1 dX12_takesOther_43 (by decide) (fun _ => ?_) (fun c_16 => absurd c_16 (mneE (a := 2) (b := 3) (by decide +kernel) (by decide +kernel) (by omega)))
        refine lv_iload_n (pc := 115) E.1 E.2.1 dX12_takesOther_115 rfl (lv_at hl11 2 rfl) ?_
        refine lv_iconst (pc := 116) (v := 4) E.1 E.2.1 dX12_takesOther_116 (by decide +kernel) ?_
        refine lv_icmp_ne (pc := 117) (tgt := 161) E.1 E.2.1 dX12_takesOther_117 (by decide) (fun _ => ?_) (fun c_17 => absurd c_17 (mneE (a := 2) (b := 4) (by decide +kernel) (by decide +kernel) (by omega)))
        refine lv_aload_n (pc := 161) E.1 E.2.1 dX12_takesOther_161 rfl (lv_at hl11 1 rfl) ?_
        refine lv_iconst (pc := 162) (v := 0) E.1 E.2.1 dX12_takesOther_162 (by decide +kernel) ?_
        refine x_put (pc := 163) (T := TX12) (N := 70) (ci := 12) (ws' := (MW cI cJ M mr (upd (upd mi 3 0) 42 z_n) (va_up mf 43 g_8) mg)) E hw15 inX12 tyX12_ok nmX12 0 3 q_1402 rfl rfl (by decide) rfl rfl rfl rfl (Nat.le_of_ble_eq_true rfl) rfl dX12_takesOther_163 (fun H locs hw18 => ?_)
        exact em_v (w1 := (fun (u : (Nat → Int32) × Int32 × Int32) => (MW cI cJ M mr (upd (upd mi 42 u.2.1) 3 u.2.2) (va_up mf 43 u.1) mg))) E hr hlk (g_8, z_n, 0) hw18 ⟨rfl, (by show (0 : Int32).toInt = 0; have k_0 : (0 : Int32).toInt = 0 := (by decide +kernel); omega), hpk_14, (show rowsOK (0 : Int32).toInt (mi 6).toInt (mf 2) from (rowsOK_nil (by decide +kernel)))⟩ (Nat.le_of_ble_eq_true rfl) (Nat.le_of_ble_eq_true rfl) dX12_takesOther_166
      · skip
        have hc_13 := nleE (a := v_12.toInt) (b := x_7.toInt) rfl rfl c_13
        refine lv_aload_n (pc := 14) E.1 E.2.1 dX12_takesOther_14 rfl (lv_at hl11 1 rfl) ?_
        refine x_get (pc := 15) (T := TX12) (N := 70) (ci := 12) (v := .ref (mr 43)) E hw10 inX12 0 43 q_1442 rfl rfl (by decide) rfl rfl dX12_takesOther_15 ?_
        refine lv_iload_n (pc := 18) E.1 E.2.1 dX12_takesOther_18 rfl (lv_at hl11 0 rfl) ?_
        refine lv_aload_n (pc := 19) E.1 E.2.1 dX12_takesOther_19 rfl (lv_at hl11 1 rfl) ?_
        refine x_get (pc := 20) (T := TX12) (N := 70) (ci := 12) (v := .ref (mr 43)) E hw10 inX12 0 43 q_1442 rfl rfl (by decide) rfl rfl dX12_takesOther_20 ?_
        refine lv_sipush (pc := 23) (v := 160) E.1 E.2.1 dX12_takesOther_23 (by decide +kernel) ?_
        refine lv_iload_n (pc := 26) E.1 E.2.1 dX12_takesOther_26 rfl (lv_at hl11 0 rfl) ?_
        refine lv_iadd (pc := 27) E.1 E.2.1 dX12_takesOther_27 ?_
        refine lv_topi (fun v_19 ev_19 => ?_)
        have hv_19 : v_19.toInt = 160 + x_7.toInt := by rw [ev_19]; exact addE (by decide +kernel) rfl (by omega)
        refine x_iald (pc := 28) (f := g_8) E hw10 21 rfl (inbE (a := v_19.toInt) rfl (by omega)) dX12_takesOther_28 ?_
        refine lv_topi (fun v_20 ev_20 => ?_)
        refine x_iastG (pc := 29) (f := g_8) (wf := fun g => (MW cI cJ M mr mi (va_up mf 43 g) mg)) E hw10 21 rfl (inbE (a := x_7.toInt) rfl (by omega)) (fun _ => rfl) dX12_takesOther_29 (fun g_21 H locs eg_21 hw22 => ?_)
        obtain ⟨v_23, ev_23⟩ : ∃ z : Int32, x_7 + Int32.ofInt (1) = z := ⟨_, rfl⟩
        have hv_23 : v_23.toInt = x_7.toInt + (1) := by rw [← ev_23]; exact incE rfl (by decide) (by omega)
        refine lv_iinc (pc := 30) (v := v_23) (lv' := [(3, .int v_23), (0, .ref M), (1, .int 2), (2, .int z_n)]) E.1 E.2.1 dX12_takesOther_30 hl11 (k := 0) rfl ev_23 (by decide) rfl (fun ls hl24 => ?_)
        refine lv_goto (pc := 33) (tgt := 7) E.1 E.2.1 dX12_takesOther_33 (by decide) ?_
        exact ih_9 v_23 g_21 _ _ _ ⟨(by show 0 ≤ v_23.toInt; omega), (by show v_23.toInt ≤ 4 * z_n.toInt; omega), (MV_step (i := x_7) (j := v_23) (m := 160) hi_8_2 eg_21 ev_20 (by omega) (by omega) (by omega) (by omega) (by omega) (by omega))⟩ (by omega) hw22 (lv_sub hl24 [0, 1, 2, 3] rfl)
  exact loop_6 (Int.toNat (4 * z_n.toInt - 0) + 1) 0 (mf 43) _ _ _ ⟨(by show 0 ≤ (0 : Int32).toInt; have k_0 : (0 : Int32).toInt = 0 := (by decide +kernel); omega), (by show (0 : Int32).toInt ≤ 4 * z_n.toInt; have k_0 : (0 : Int32).toInt = 0 := (by decide +kernel); omega), (MV_nil (by decide +kernel))⟩ (by have k_0 : (0 : Int32).toInt = 0 := (by decide +kernel); omega) hw1 (lv_sub hl5 [0, 1, 2, 3] rfl)

set_option maxHeartbeats 4000000 in
set_option maxRecDepth 100000 in
theorem s_takesOther3 (l : Launch) (D : va_G) (cI cJ : ClassId) (sz M : Nat) (mr : Nat → Nat) (mi : Nat → Int32) (mf : Nat → Nat → Int32) (mg : Nat → Nat → Int64) (z_n : Int32) (h0 : 0 ≤ z_n.toInt ∧ z_n.toInt ≤ 10) : Met l yX12_takesOther (Cond.code yX12_takesOther cX12_takesOther 4 none :: GW) ({ frames := 1, cells := 0, slots := 0, locals := 40 } : Room) (va_Pc [.ref M, .int 3, .int z_n] (PW D cI cJ sz (MW cI cJ M mr mi mf mg) xT)) (va_Qv (fun (u : (Nat → Int32) × Int32 × (Nat → Int32) × Int32) => (u.2.1.toInt = z_n.toInt) ∧ (u.2.2.2.toInt = 0) ∧ ((u.2.2.1 2).toInt = ((mf 1) 2).toInt) ∧ ((u.2.2.1 3).toInt = ((mf 1) 3).toInt) ∧ ((u.2.2.1 5).toInt = ((mf 1) 5).toInt) ∧ (rowsOK u.2.2.2.toInt (mi 6).toInt (mf 2))) (fun u => QW D cI cJ (va_A (MW cI cJ M mr mi mf mg) sz) ((fun (u : (Nat → Int32) × Int32 × (Nat → Int32) × Int32) => (MW cI cJ M mr (upd (upd mi 44 u.2.1) 3 u.2.2.2) (va_up (va_up mf 45 u.1) 1 u.2.2.1) mg)) u)) (va_A (MW cI cJ M mr mi mf mg) sz)) 0 0 (va_A (MW cI cJ M mr mi mf mg) sz) := by
  refine mk_met (y := yX12_takesOther) (bytes := cX12_takesOther) (maxL := 4) (avs := [.ref M, .int 3, .int z_n]) (WS := (MW cI cJ M mr mi mf mg)) (Qf := fun A => va_Qv (fun (u : (Nat → Int32) × Int32 × (Nat → Int32) × Int32) => (u.2.1.toInt = z_n.toInt) ∧ (u.2.2.2.toInt = 0) ∧ ((u.2.2.1 2).toInt = ((mf 1) 2).toInt) ∧ ((u.2.2.1 3).toInt = ((mf 1) 3).toInt) ∧ ((u.2.2.1 5).toInt = ((mf 1) 5).toInt) ∧ (rowsOK u.2.2.2.toInt (mi 6).toInt (mf 2))) (fun u => QW D cI cJ A ((fun (u : (Nat → Int32) × Int32 × (Nat → Int32) × Int32) => (MW cI cJ M mr (upd (upd mi 44 u.2.1) 3 u.2.2.2) (va_up (va_up mf 45 u.1) 1 u.2.2.1) mg)) u)) A) (by decide) (Nat.le_of_ble_eq_true rfl) ?_
  intro p e s m below meth c A ls E hr hlk hnm hX hw1 hl2
  have hl3 : lv_has ls 4 [(0, .ref M), (1, .int 3), (2, .int z_n)] := hl2
  refine lv_iload_n (pc := 0) E.1 E.2.1 dX12_takesOther_0 rfl (lv_at hl3 1 rfl) ?_
  refine lv_iconst (pc := 1) (v := 2) E.1 E.2.1 dX12_takesOther_1 (by decide +kernel) ?_
  refine lv_icmp_ne (pc := 2) (tgt := 41) E.1 E.2.1 dX12_takesOther_2 (by decide) (fun _ => ?_) (fun c_4 => absurd c_4 (mneE (a := 3) (b := 2) (by decide +kernel) (by decide +kernel) (by omega)))
  refine lv_iload_n (pc := 41) E.1 E.2.1 dX12_takesOther_41 rfl (lv_at hl3 1 rfl) ?_
  refine lv_iconst (pc := 42) (v := 3) E.1 E.2.1 dX12_takesOther_42 (by decide +kernel) ?_
  refine lv_icmp_ne (pc := 43) (tgt := 115) E.1 E.2.1 dX12_takesOther_43 (by decide) (fun c_5 => absurd (meqE (a := 3) (b := 3) (by decide +kernel) (by decide +kernel) (by omega)) c_5) (fun _ => ?_)
  refine lv_iconst (pc := 46) (v := 0) E.1 E.2.1 dX12_takesOther_46 (by decide +kernel) ?_
  refine lv_istore_n (pc := 47) (lv' := [(3, .int 0), (0, .ref M), (1, .int 3), (2, .int z_n)]) E.1 E.2.1 dX12_takesOther_47 rfl hl3 (by decide) rfl (fun ls hl6 => ?_)
  have loop_7 : ∀ (k : Nat) (x_8 : Int32) (g_9 : Nat → Int32) (H : Heap) (locs : List Loc) (ls : Array Slot), (0 ≤ x_8.toInt) ∧ (x_8.toInt ≤ 5 * z_n.toInt) → 5 * z_n.toInt - x_8.toInt < (k : Int) → WD D A s.heap (MW cI cJ M mr mi (va_up mf 45 g_9) mg) H locs → lv_has ls 4 [(3, .int x_8), (0, .ref M), (1, .int 3), (2, .int z_n)] → W p l e ({ frames := 1, cells := 0, slots := 0, locals := 40 } : Room) s m ([.ref M, .int 3, .int z_n] : List Value).toArray below meth c H locs 0 0 (MQ below (va_Qv (fun (u : (Nat → Int32) × Int32 × (Nat → Int32) × Int32) => (u.2.1.toInt = z_n.toInt) ∧ (u.2.2.2.toInt = 0) ∧ ((u.2.2.1 2).toInt = ((mf 1) 2).toInt) ∧ ((u.2.2.1 3).toInt = ((mf 1) 3).toInt) ∧ ((u.2.2.1 5).toInt = ((mf 1) 5).toInt) ∧ (rowsOK u.2.2.2.toInt (mi 6).toInt (mf 2))) (fun u => QW D cI cJ A ((fun (u : (Nat → Int32) × Int32 × (Nat → Int32) × Int32) => (MW cI cJ M mr (upd (upd mi 44 u.2.1) 3 u.2.2.2) (va_up (va_up mf 45 u.1) 1 u.2.2.1) mg)) u)) A) ([.ref M, .int 3, .int z_n] : List Value).toArray s 0 0 A) (F0 m 48 ls []) := by
    intro k
    induction k with
    | zero =>
      intro x_8 g_9 _ _ _ hinv hm
      obtain ⟨hi_9_0, hi_9_1⟩ := hinv
      exact absurd hm (by omega)
    | succ k ih_10 =>
      intro x_8 g_9 H locs ls hinv hm hw11 hl12
      obtain ⟨hi_9_0, hi_9_1⟩ := hinv
      refine lv_iload_n (pc := 48) E.1 E.2.1 dX12_takesOther_48 rfl (lv_at hl12 0 rfl) ?_
      refine lv_iconst (pc := 49) (v := 5) E.1 E.2.1 dX12_takesOther_49 (by decide +kernel) ?_
      refine lv_iload_n (pc := 50) E.1 E.2.1 dX12_takesOther_50 rfl (lv_at hl12 3 rfl) ?_
      refine lv_imul (pc := 51) E.1 E.2.1 dX12_takesOther_51 ?_
      refine lv_topi (fun v_13 ev_13 => ?_)
      have hv_13 : v_13.toInt = 5 * z_n.toInt := by rw [ev_13]; exact mulE (by decide +kernel) rfl (by omega)
      refine lv_icmp_ge (pc := 52) (tgt := 76) E.1 E.2.1 dX12_takesOther_52 (by decide) (fun c_14 => ?_) (fun c_14 => ?_)
      · skip
        have hc_14 := leE (a := v_13.toInt) (b := x_8.toInt) rfl rfl c_14
        refine lv_aload_n (pc := 76) E.1 E.2.1 dX12_takesOther_76 rfl (lv_at hl12 1 rfl) ?_
        refine lv_iload_n (pc := 77) E.1 E.2.1 dX12_takesOther_77 rfl (lv_at hl12 3 rfl) ?_
        refine x_put (pc := 78) (T := TX12) (N := 70) (ci := 12) (ws' := (MW cI cJ M mr (upd mi 44 z_n) (va_up mf 45 g_9) mg)) E hw11 inX12 tyX12_ok nmX12 0 44 q_1443 rfl rfl (by decide) rfl rfl rfl rfl (Nat.le_of_ble_eq_true rfl) rfl dX12_takesOther_78 (fun H locs hw15 => ?_)
        refine lv_iconst (pc := 81) (v := 0) E.1 E.2.1 dX12_takesOther_81 (by decide +kernel) ?_
        refine lv_istore_n (pc := 82) (lv' := [(3, .int 0), (0, .ref M), (1, .int 3), (2, .int z_n)]) E.1 E.2.1 dX12_takesOther_82 rfl hl12 (by decide) rfl (fun ls hl16 => ?_)
        have loop_17 : ∀ (k : Nat) (x_18 : Int32) (g_19 : Nat → Int32) (H : Heap) (locs : List Loc) (ls : Array Slot), (0 ≤ x_18.toInt) ∧ (x_18.toInt ≤ 10) ∧ ((g_19 2).toInt = ((mf 1) 2).toInt) ∧ ((g_19 3).toInt = ((mf 1) 3).toInt) ∧ ((g_19 5).toInt = ((mf 1) 5).toInt) → 10 - x_18.toInt < (k : Int) → WD D A s.heap (MW cI cJ M mr (upd mi 44 z_n) (va_up (va_up mf 1 g_19) 45 g_9) mg) H locs → lv_has ls 4 [(3, .int x_18), (0, .ref M), (1, .int 3), (2, .int z_n)] → W p l e ({ frames := 1, cells := 0, slots := 0, locals := 40 } : Room) s m ([.ref M, .int 3, .int z_n] : List Value).toArray below meth c H locs 0 0 (MQ below (va_Qv (fun (u : (Nat → Int32) × Int32 × (Nat → Int32) × Int32) => (u.2.1.toInt = z_n.toInt) ∧ (u.2.2.2.toInt = 0) ∧ ((u.2.2.1 2).toInt = ((mf 1) 2).toInt) ∧ ((u.2.2.1 3).toInt = ((mf 1) 3).toInt) ∧ ((u.2.2.1 5).toInt = ((mf 1) 5).toInt) ∧ (rowsOK u.2.2.2.toInt (mi 6).toInt (mf 2))) (fun u => QW D cI cJ A ((fun (u : (Nat → Int32) × Int32 × (Nat → Int32) × Int32) => (MW cI cJ M mr (upd (upd mi 44 u.2.1) 3 u.2.2.2) (va_up (va_up mf 45 u.1) 1 u.2.2.1) mg)) u)) A) ([.ref M, .int 3, .int z_n] : List Value).toArray s 0 0 A) (F0 m 83 ls []) := by
          intro k
          induction k with
          | zero =>
            intro x_18 g_19 _ _ _ hinv hm
            obtain ⟨hi_19_0, hi_19_1, hi_19_2, hi_19_3, hi_19_4⟩ := hinv
            exact absurd hm (by omega)
          | succ k ih_20 =>
            intro x_18 g_19 H locs ls hinv hm hw21 hl22
            obtain ⟨hi_19_0, hi_19_1, hi_19_2, hi_19_3, hi_19_4⟩ := hinv
            refine lv_iload_n (pc := 83) E.1 E.2.1 dX12_takesOther_83 rfl (lv_at hl22 0 rfl) ?_
            refine lv_bipush (pc := 84) (v := 10) E.1 E.2.1 dX12_takesOther_84 (by decide +kernel) ?_
            refine lv_icmp_ge (pc := 86) (tgt := 115) E.1 E.2.1 dX12_takesOther_86 (by decide) (fun c_23 => ?_) (fun c_23 => ?_)
            · skip
              have hc_23 := leE (a := 10) (b := x_18.toInt) (by decide +kernel) rfl c_23
              refine lv_iload_n (pc := 115) E.1 E.2.1 dX12_takesOther_115 rfl (lv_at hl22 2 rfl) ?_
              refine lv_iconst (pc := 116) (v := 4) E.1 E.2.1 dX12_takesOther_116 (by decide +kernel) ?_
              refine lv_icmp_ne (pc := 117) (tgt := 161) E.1 E.2.1 dX12_takesOther_117 (by decide) (fun _ => ?_) (fun c_24 => absurd c_24 (mneE (a := 3) (b := 4) (by decide +kernel) (by decide +kernel) (by omega)))
              refine lv_aload_n (pc := 161) E.1 E.2.1 dX12_takesOther_161 rfl (lv_at hl22 1 rfl) ?_
              refine lv_iconst (pc := 162) (v := 0) E.1 E.2.1 dX12_takesOther_162 (by decide +kernel) ?_
              refine x_put (pc := 163) (T := TX12) (N := 70) (ci := 12) (ws' := (MW cI cJ M mr (upd (upd mi 3 0) 44 z_n) (va_up (va_up mf 1 g_19) 45 g_9) mg)) E hw21 inX12 tyX12_ok nmX12 0 3 q_1402 rfl rfl (by decide) rfl rfl rfl rfl (Nat.le_of_ble_eq_true rfl) rfl dX12_takesOther_163 (fun H locs hw25 => ?_)
              exact em_v (w1 := (fun (u : (Nat → Int32) × Int32 × (Nat → Int32) × Int32) => (MW cI cJ M mr (upd (upd mi 44 u.2.1) 3 u.2.2.2) (va_up (va_up mf 45 u.1) 1 u.2.2.1) mg))) E hr hlk (g_9, z_n, g_19, 0) hw25 ⟨rfl, (by show (0 : Int32).toInt = 0; have k_0 : (0 : Int32).toInt = 0 := (by decide +kernel); omega), hi_19_2, hi_19_3, hi_19_4, (show rowsOK (0 : Int32).toInt (mi 6).toInt (mf 2) from (rowsOK_nil (by decide +kernel)))⟩ (Nat.le_of_ble_eq_true rfl) (Nat.le_of_ble_eq_true rfl) dX12_takesOther_166
            · skip
              have hc_23 := nleE (a := 10) (b := x_18.toInt) (by decide +kernel) rfl c_23
              refine lv_aload_n (pc := 89) E.1 E.2.1 dX12_takesOther_89 rfl (lv_at hl22 1 rfl) ?_
              refine x_get (pc := 90) (T := TX12) (N := 70) (ci := 12) (v := .ref (mr 1)) E hw21 inX12 0 1 q_1400 rfl rfl (by decide) rfl rfl dX12_takesOther_90 ?_
              refine lv_bipush (pc := 93) (v := 46) E.1 E.2.1 dX12_takesOther_93 (by decide +kernel) ?_
              refine lv_iload_n (pc := 95) E.1 E.2.1 dX12_takesOther_95 rfl (lv_at hl22 0 rfl) ?_
              refine lv_iadd (pc := 96) E.1 E.2.1 dX12_takesOther_96 ?_
              refine lv_topi (fun v_26 ev_26 => ?_)
              have hv_26 : v_26.toInt = 46 + x_18.toInt := by rw [ev_26]; exact addE (by decide +kernel) rfl (by omega)
              refine lv_iconst (pc := 97) (v := 0) E.1 E.2.1 dX12_takesOther_97 (by decide +kernel) ?_
              refine x_iastG (pc := 98) (f := g_19) (wf := fun g => (MW cI cJ M mr (upd mi 44 z_n) (va_up (va_up mf 1 g) 45 g_9) mg)) E hw21 1 rfl (inbE (a := v_26.toInt) rfl (by omega)) (fun _ => rfl) dX12_takesOther_98 (fun g_27 H locs eg_27 hw28 => ?_)
              have ht_29 : (g_27 2).toInt = (g_19 2).toInt := by rw [eg_27, pk_un (by have q9 := idxI (x := v_26) (by omega); omega)]
              have ht_30 : (g_27 3).toInt = (g_19 3).toInt := by rw [eg_27, pk_un (by have q9 := idxI (x := v_26) (by omega); omega)]
              have ht_31 : (g_27 5).toInt = (g_19 5).toInt := by rw [eg_27, pk_un (by have q9 := idxI (x := v_26) (by omega); omega)]
              refine lv_aload_n (pc := 99) E.1 E.2.1 dX12_takesOther_99 rfl (lv_at hl22 1 rfl) ?_
              refine x_get (pc := 100) (T := TX12) (N := 70) (ci := 12) (v := .ref (mr 1)) E hw28 inX12 0 1 q_1400 rfl rfl (by decide) rfl rfl dX12_takesOther_100 ?_
              refine lv_bipush (pc := 103) (v := 56) E.1 E.2.1 dX12_takesOther_103 (by decide +kernel) ?_
              refine lv_iload_n (pc := 105) E.1 E.2.1 dX12_takesOther_105 rfl (lv_at hl22 0 rfl) ?_
              refine lv_iadd (pc := 106) E.1 E.2.1 dX12_takesOther_106 ?_
              refine lv_topi (fun v_32 ev_32 => ?_)
              have hv_32 : v_32.toInt = 56 + x_18.toInt := by rw [ev_32]; exact addE (by decide +kernel) rfl (by omega)
              refine lv_iconst (pc := 107) (v := 0) E.1 E.2.1 dX12_takesOther_107 (by decide +kernel) ?_
              refine x_iastG (pc := 108) (f := g_27) (wf := fun g => (MW cI cJ M mr (upd mi 44 z_n) (va_up (va_up mf 1 g) 45 g_9) mg)) E hw28 1 rfl (inbE (a := v_32.toInt) rfl (by omega)) (fun _ => rfl) dX12_takesOther_108 (fun g_33 H locs eg_33 hw34 => ?_)
              have ht_35 : (g_33 2).toInt = (g_27 2).toInt := by rw [eg_33, pk_un (by have q9 := idxI (x := v_32) (by omega); omega)]
              have ht_36 : (g_33 3).toInt = (g_27 3).toInt := by rw [eg_33, pk_un (by have q9 := idxI (x := v_32) (by omega); omega)]
              have ht_37 : (g_33 5).toInt = (g_27 5).toInt := by rw [eg_33, pk_un (by have q9 := idxI (x := v_32) (by omega); omega)]
              obtain ⟨v_38, ev_38⟩ : ∃ z : Int32, x_18 + Int32.ofInt (1) = z := ⟨_, rfl⟩
              have hv_38 : v_38.toInt = x_18.toInt + (1) := by rw [← ev_38]; exact incE rfl (by decide) (by omega)
              refine lv_iinc (pc := 109) (v := v_38) (lv' := [(3, .int v_38), (0, .ref M), (1, .int 3), (2, .int z_n)]) E.1 E.2.1 dX12_takesOther_109 hl22 (k := 0) rfl ev_38 (by decide) rfl (fun ls hl39 => ?_)
              refine lv_goto (pc := 112) (tgt := 83) E.1 E.2.1 dX12_takesOther_112 (by decide) ?_
              exact ih_20 v_38 g_33 _ _ _ ⟨(by show 0 ≤ v_38.toInt; omega), (by show v_38.toInt ≤ 10; omega), (by show (g_33 2).toInt = ((mf 1) 2).toInt; omega), (by show (g_33 3).toInt = ((mf 1) 3).toInt; omega), (by show (g_33 5).toInt = ((mf 1) 5).toInt; omega)⟩ (by omega) hw34 (lv_sub hl39 [0, 1, 2, 3] rfl)
        exact loop_17 (Int.toNat (10 - 0) + 1) 0 (mf 1) _ _ _ ⟨(by show 0 ≤ (0 : Int32).toInt; have k_0 : (0 : Int32).toInt = 0 := (by decide +kernel); omega), (by show (0 : Int32).toInt ≤ 10; have k_0 : (0 : Int32).toInt = 0 := (by decide +kernel); omega), rfl, rfl, rfl⟩ (by have k_0 : (0 : Int32).toInt = 0 := (by decide +kernel); omega) hw15 (lv_sub hl16 [0, 1, 2, 3] rfl)
      · skip
        have hc_14 := nleE (a := v_13.toInt) (b := x_8.toInt) rfl rfl c_14
        refine lv_aload_n (pc := 55) E.1 E.2.1 dX12_takesOther_55 rfl (lv_at hl12 1 rfl) ?_
        refine x_get (pc := 56) (T := TX12) (N := 70) (ci := 12) (v := .ref (mr 45)) E hw11 inX12 0 45 q_1444 rfl rfl (by decide) rfl rfl dX12_takesOther_56 ?_
        refine lv_iload_n (pc := 59) E.1 E.2.1 dX12_takesOther_59 rfl (lv_at hl12 0 rfl) ?_
        refine lv_aload_n (pc := 60) E.1 E.2.1 dX12_takesOther_60 rfl (lv_at hl12 1 rfl) ?_
        refine x_get (pc := 61) (T := TX12) (N := 70) (ci := 12) (v := .ref (mr 45)) E hw11 inX12 0 45 q_1444 rfl rfl (by decide) rfl rfl dX12_takesOther_61 ?_
        refine lv_bipush (pc := 64) (v := 50) E.1 E.2.1 dX12_takesOther_64 (by decide +kernel) ?_
        refine lv_iload_n (pc := 66) E.1 E.2.1 dX12_takesOther_66 rfl (lv_at hl12 0 rfl) ?_
        refine lv_iadd (pc := 67) E.1 E.2.1 dX12_takesOther_67 ?_
        refine lv_topi (fun v_40 ev_40 => ?_)
        have hv_40 : v_40.toInt = 50 + x_8.toInt := by rw [ev_40]; exact addE (by decide +kernel) rfl (by omega)
        refine x_iald (pc := 68) (f := g_9) E hw11 22 rfl (inbE (a := v_40.toInt) rfl (by omega)) dX12_takesOther_68 ?_
        refine lv_topi (fun v_41 ev_41 => ?_)
        refine x_iastG (pc := 69) (f := g_9) (wf := fun g => (MW cI cJ M mr mi (va_up mf 45 g) mg)) E hw11 22 rfl (inbE (a := x_8.toInt) rfl (by omega)) (fun _ => rfl) dX12_takesOther_69 (fun g_42 H locs eg_42 hw43 => ?_)
        obtain ⟨v_44, ev_44⟩ : ∃ z : Int32, x_8 + Int32.ofInt (1) = z := ⟨_, rfl⟩
        have hv_44 : v_44.toInt = x_8.toInt + (1) := by rw [← ev_44]; exact incE rfl (by decide) (by omega)
        refine lv_iinc (pc := 70) (v := v_44) (lv' := [(3, .int v_44), (0, .ref M), (1, .int 3), (2, .int z_n)]) E.1 E.2.1 dX12_takesOther_70 hl12 (k := 0) rfl ev_44 (by decide) rfl (fun ls hl45 => ?_)
        refine lv_goto (pc := 73) (tgt := 48) E.1 E.2.1 dX12_takesOther_73 (by decide) ?_
        exact ih_10 v_44 g_42 _ _ _ ⟨(by show 0 ≤ v_44.toInt; omega), (by show v_44.toInt ≤ 5 * z_n.toInt; omega)⟩ (by omega) hw43 (lv_sub hl45 [0, 1, 2, 3] rfl)
  exact loop_7 (Int.toNat (5 * z_n.toInt - 0) + 1) 0 (mf 45) _ _ _ ⟨(by show 0 ≤ (0 : Int32).toInt; have k_0 : (0 : Int32).toInt = 0 := (by decide +kernel); omega), (by show (0 : Int32).toInt ≤ 5 * z_n.toInt; have k_0 : (0 : Int32).toInt = 0 := (by decide +kernel); omega)⟩ (by have k_0 : (0 : Int32).toInt = 0 := (by decide +kernel); omega) hw1 (lv_sub hl6 [0, 1, 2, 3] rfl)

set_option maxHeartbeats 4000000 in
set_option maxRecDepth 100000 in
theorem s_takesOther4 (l : Launch) (D : va_G) (cI cJ : ClassId) (sz M : Nat) (mr : Nat → Nat) (mi : Nat → Int32) (mf : Nat → Nat → Int32) (mg : Nat → Nat → Int64) (z_n : Int32) (h0 : 0 ≤ z_n.toInt ∧ z_n.toInt ≤ 200) (x_rn : rnd2 (mf 50) z_n.toInt (mi 6).toInt) : Met l yX12_takesOther (Cond.code yX12_takesOther cX12_takesOther 4 none :: GW) ({ frames := 1, cells := 0, slots := 0, locals := 40 } : Room) (va_Pc [.ref M, .int 4, .int z_n] (PW D cI cJ sz (MW cI cJ M mr mi mf mg) xT)) (va_Qv (fun (u : (Nat → Int32) × Int32 × (Nat → Int32) × Int32) => (u.2.1.toInt = z_n.toInt) ∧ (u.2.2.2.toInt = 0) ∧ ((u.2.2.1 2).toInt = ((mf 1) 2).toInt) ∧ ((u.2.2.1 3).toInt = ((mf 1) 3).toInt) ∧ ((u.2.2.1 5).toInt = 0) ∧ (rowsOK u.2.2.2.toInt (mi 6).toInt (mf 2)) ∧ (rndOK u.2.1.toInt (mi 6).toInt u.1)) (fun u => QW D cI cJ (va_A (MW cI cJ M mr mi mf mg) sz) ((fun (u : (Nat → Int32) × Int32 × (Nat → Int32) × Int32) => (MW cI cJ M mr (upd (upd mi 49 u.2.1) 3 u.2.2.2) (va_up (va_up mf 50 u.1) 1 u.2.2.1) mg)) u)) (va_A (MW cI cJ M mr mi mf mg) sz)) 0 0 (va_A (MW cI cJ M mr mi mf mg) sz) := by
  refine mk_met (y := yX12_takesOther) (bytes := cX12_takesOther) (maxL := 4) (avs := [.ref M, .int 4, .int z_n]) (WS := (MW cI cJ M mr mi mf mg)) (Qf := fun A => va_Qv (fun (u : (Nat → Int32) × Int32 × (Nat → Int32) × Int32) => (u.2.1.toInt = z_n.toInt) ∧ (u.2.2.2.toInt = 0) ∧ ((u.2.2.1 2).toInt = ((mf 1) 2).toInt) ∧ ((u.2.2.1 3).toInt = ((mf 1) 3).toInt) ∧ ((u.2.2.1 5).toInt = 0) ∧ (rowsOK u.2.2.2.toInt (mi 6).toInt (mf 2)) ∧ (rndOK u.2.1.toInt (mi 6).toInt u.1)) (fun u => QW D cI cJ A ((fun (u : (Nat → Int32) × Int32 × (Nat → Int32) × Int32) => (MW cI cJ M mr (upd (upd mi 49 u.2.1) 3 u.2.2.2) (va_up (va_up mf 50 u.1) 1 u.2.2.1) mg)) u)) A) (by decide) (Nat.le_of_ble_eq_true rfl) ?_
  intro p e s m below meth c A ls E hr hlk hnm hX hw1 hl2
  have hl3 : lv_has ls 4 [(0, .ref M), (1, .int 4), (2, .int z_n)] := hl2
  refine lv_iload_n (pc := 0) E.1 E.2.1 dX12_takesOther_0 rfl (lv_at hl3 1 rfl) ?_
  refine lv_iconst (pc := 1) (v := 2) E.1 E.2.1 dX12_takesOther_1 (by decide +kernel) ?_
  refine lv_icmp_ne (pc := 2) (tgt := 41) E.1 E.2.1 dX12_takesOther_2 (by decide) (fun _ => ?_) (fun c_4 => absurd c_4 (mneE (a := 4) (b := 2) (by decide +kernel) (by decide +kernel) (by omega)))
  refine lv_iload_n (pc := 41) E.1 E.2.1 dX12_takesOther_41 rfl (lv_at hl3 1 rfl) ?_
  refine lv_iconst (pc := 42) (v := 3) E.1 E.2.1 dX12_takesOther_42 (by decide +kernel) ?_
  refine lv_icmp_ne (pc := 43) (tgt := 115) E.1 E.2.1 dX12_takesOther_43 (by decide) (fun _ => ?_) (fun c_5 => absurd c_5 (mneE (a := 4) (b := 3) (by decide +kernel) (by decide +kernel) (by omega)))
  refine lv_iload_n (pc := 115) E.1 E.2.1 dX12_takesOther_115 rfl (lv_at hl3 1 rfl) ?_
  refine lv_iconst (pc := 116) (v := 4) E.1 E.2.1 dX12_takesOther_116 (by decide +kernel) ?_
  refine lv_icmp_ne (pc := 117) (tgt := 161) E.1 E.2.1 dX12_takesOther_117 (by decide) (fun c_6 => absurd (meqE (a := 4) (b := 4) (by decide +kernel) (by decide +kernel) (by omega)) c_6) (fun _ => ?_)
  refine lv_iconst (pc := 120) (v := 0) E.1 E.2.1 dX12_takesOther_120 (by decide +kernel) ?_
  refine lv_istore_n (pc := 121) (lv' := [(3, .int 0), (0, .ref M), (1, .int 4), (2, .int z_n)]) E.1 E.2.1 dX12_takesOther_121 rfl hl3 (by decide) rfl (fun ls hl7 => ?_)
  have loop_8 : ∀ (k : Nat) (x_9 : Int32) (g_10 : Nat → Int32) (H : Heap) (locs : List Loc) (ls : Array Slot), (0 ≤ x_9.toInt) ∧ (x_9.toInt ≤ z_n.toInt) ∧ (MV g_10 (mf 50) 0 200 x_9.toInt) → z_n.toInt - x_9.toInt < (k : Int) → WD D A s.heap (MW cI cJ M mr mi (va_up mf 50 g_10) mg) H locs → lv_has ls 4 [(3, .int x_9), (0, .ref M), (1, .int 4), (2, .int z_n)] → W p l e ({ frames := 1, cells := 0, slots := 0, locals := 40 } : Room) s m ([.ref M, .int 4, .int z_n] : List Value).toArray below meth c H locs 0 0 (MQ below (va_Qv (fun (u : (Nat → Int32) × Int32 × (Nat → Int32) × Int32) => (u.2.1.toInt = z_n.toInt) ∧ (u.2.2.2.toInt = 0) ∧ ((u.2.2.1 2).toInt = ((mf 1) 2).toInt) ∧ ((u.2.2.1 3).toInt = ((mf 1) 3).toInt) ∧ ((u.2.2.1 5).toInt = 0) ∧ (rowsOK u.2.2.2.toInt (mi 6).toInt (mf 2)) ∧ (rndOK u.2.1.toInt (mi 6).toInt u.1)) (fun u => QW D cI cJ A ((fun (u : (Nat → Int32) × Int32 × (Nat → Int32) × Int32) => (MW cI cJ M mr (upd (upd mi 49 u.2.1) 3 u.2.2.2) (va_up (va_up mf 50 u.1) 1 u.2.2.1) mg)) u)) A) ([.ref M, .int 4, .int z_n] : List Value).toArray s 0 0 A) (F0 m 122 ls []) := by
    intro k
    induction k with
    | zero =>
      intro x_9 g_10 _ _ _ hinv hm
      obtain ⟨hi_10_0, hi_10_1, hi_10_2⟩ := hinv
      exact absurd hm (by omega)
    | succ k ih_11 =>
      intro x_9 g_10 H locs ls hinv hm hw12 hl13
      obtain ⟨hi_10_0, hi_10_1, hi_10_2⟩ := hinv
      refine lv_iload_n (pc := 122) E.1 E.2.1 dX12_takesOther_122 rfl (lv_at hl13 0 rfl) ?_
      refine lv_iload_n (pc := 123) E.1 E.2.1 dX12_takesOther_123 rfl (lv_at hl13 3 rfl) ?_
      refine lv_icmp_ge (pc := 124) (tgt := 149) E.1 E.2.1 dX12_takesOther_124 (by decide) (fun c_14 => ?_) (fun c_14 => ?_)
      · skip
        have hc_14 := leE (a := z_n.toInt) (b := x_9.toInt) rfl rfl c_14
        refine lv_aload_n (pc := 149) E.1 E.2.1 dX12_takesOther_149 rfl (lv_at hl13 1 rfl) ?_
        refine lv_iload_n (pc := 150) E.1 E.2.1 dX12_takesOther_150 rfl (lv_at hl13 3 rfl) ?_
        refine x_put (pc := 151) (T := TX12) (N := 70) (ci := 12) (ws' := (MW cI cJ M mr (upd mi 49 z_n) (va_up mf 50 g_10) mg)) E hw12 inX12 tyX12_ok nmX12 0 49 q_1448 rfl rfl (by decide) rfl rfl rfl rfl (Nat.le_of_ble_eq_true rfl) rfl dX12_takesOther_151 (fun H locs hw15 => ?_)
        refine lv_aload_n (pc := 154) E.1 E.2.1 dX12_takesOther_154 rfl (lv_at hl13 1 rfl) ?_
        refine x_get (pc := 155) (T := TX12) (N := 70) (ci := 12) (v := .ref (mr 1)) E hw15 inX12 0 1 q_1400 rfl rfl (by decide) rfl rfl dX12_takesOther_155 ?_
        refine lv_iconst (pc := 158) (v := 5) E.1 E.2.1 dX12_takesOther_158 (by decide +kernel) ?_
        refine lv_iconst (pc := 159) (v := 0) E.1 E.2.1 dX12_takesOther_159 (by decide +kernel) ?_
        refine x_iastG (pc := 160) (f := (mf 1)) (wf := fun g => (MW cI cJ M mr (upd mi 49 z_n) (va_up (va_up mf 1 g) 50 g_10) mg)) E hw15 1 rfl (inbE (a := 5) (by decide +kernel) (by omega)) (fun _ => rfl) dX12_takesOther_160 (fun g_16 H locs eg_16 hw17 => ?_)
        have ht_18 : (g_16 2).toInt = ((mf 1) 2).toInt := by rw [eg_16]; rfl
        have ht_19 : (g_16 3).toInt = ((mf 1) 3).toInt := by rw [eg_16]; rfl
        have ht_20 : (g_16 5).toInt = (0 : Int32).toInt := by rw [eg_16]; rfl
        rw [show (0 : Int32).toInt = 0 from by decide +kernel] at ht_20
        refine lv_aload_n (pc := 161) E.1 E.2.1 dX12_takesOther_161 rfl (lv_at hl13 1 rfl) ?_
        refine lv_iconst (pc := 162) (v := 0) E.1 E.2.1 dX12_takesOther_162 (by decide +kernel) ?_
        refine x_put (pc := 163) (T := TX12) (N := 70) (ci := 12) (ws' := (MW cI cJ M mr (upd (upd mi 3 0) 49 z_n) (va_up (va_up mf 1 g_16) 50 g_10) mg)) E hw17 inX12 tyX12_ok nmX12 0 3 q_1402 rfl rfl (by decide) rfl rfl rfl rfl (Nat.le_of_ble_eq_true rfl) rfl dX12_takesOther_163 (fun H locs hw21 => ?_)
        exact em_v (w1 := (fun (u : (Nat → Int32) × Int32 × (Nat → Int32) × Int32) => (MW cI cJ M mr (upd (upd mi 49 u.2.1) 3 u.2.2.2) (va_up (va_up mf 50 u.1) 1 u.2.2.1) mg))) E hr hlk (g_10, z_n, g_16, 0) hw21 ⟨rfl, (by show (0 : Int32).toInt = 0; have k_0 : (0 : Int32).toInt = 0 := (by decide +kernel); omega), (by show (g_16 2).toInt = ((mf 1) 2).toInt; have k_0 : (0 : Int32).toInt = 0 := (by decide +kernel); omega), (by show (g_16 3).toInt = ((mf 1) 3).toInt; have k_0 : (0 : Int32).toInt = 0 := (by decide +kernel); omega), (by show (g_16 5).toInt = 0; have k_0 : (0 : Int32).toInt = 0 := (by decide +kernel); omega), (show rowsOK (0 : Int32).toInt (mi 6).toInt (mf 2) from (rowsOK_nil (by decide +kernel))), (show rndOK z_n.toInt (mi 6).toInt g_10 from (rndOK_MV x_rn hi_10_2 (by omega)))⟩ (Nat.le_of_ble_eq_true rfl) (Nat.le_of_ble_eq_true rfl) dX12_takesOther_166
      · skip
        have hc_14 := nleE (a := z_n.toInt) (b := x_9.toInt) rfl rfl c_14
        refine lv_aload_n (pc := 127) E.1 E.2.1 dX12_takesOther_127 rfl (lv_at hl13 1 rfl) ?_
        refine x_get (pc := 128) (T := TX12) (N := 70) (ci := 12) (v := .ref (mr 50)) E hw12 inX12 0 50 q_1449 rfl rfl (by decide) rfl rfl dX12_takesOther_128 ?_
        refine lv_iload_n (pc := 131) E.1 E.2.1 dX12_takesOther_131 rfl (lv_at hl13 0 rfl) ?_
        refine lv_aload_n (pc := 132) E.1 E.2.1 dX12_takesOther_132 rfl (lv_at hl13 1 rfl) ?_
        refine x_get (pc := 133) (T := TX12) (N := 70) (ci := 12) (v := .ref (mr 50)) E hw12 inX12 0 50 q_1449 rfl rfl (by decide) rfl rfl dX12_takesOther_133 ?_
        refine lv_sipush (pc := 136) (v := 200) E.1 E.2.1 dX12_takesOther_136 (by decide +kernel) ?_
        refine lv_iload_n (pc := 139) E.1 E.2.1 dX12_takesOther_139 rfl (lv_at hl13 0 rfl) ?_
        refine lv_iadd (pc := 140) E.1 E.2.1 dX12_takesOther_140 ?_
        refine lv_topi (fun v_22 ev_22 => ?_)
        have hv_22 : v_22.toInt = 200 + x_9.toInt := by rw [ev_22]; exact addE (by decide +kernel) rfl (by omega)
        refine x_iald (pc := 141) (f := g_10) E hw12 25 rfl (inbE (a := v_22.toInt) rfl (by omega)) dX12_takesOther_141 ?_
        refine lv_topi (fun v_23 ev_23 => ?_)
        refine x_iastG (pc := 142) (f := g_10) (wf := fun g => (MW cI cJ M mr mi (va_up mf 50 g) mg)) E hw12 25 rfl (inbE (a := x_9.toInt) rfl (by omega)) (fun _ => rfl) dX12_takesOther_142 (fun g_24 H locs eg_24 hw25 => ?_)
        obtain ⟨v_26, ev_26⟩ : ∃ z : Int32, x_9 + Int32.ofInt (1) = z := ⟨_, rfl⟩
        have hv_26 : v_26.toInt = x_9.toInt + (1) := by rw [← ev_26]; exact incE rfl (by decide) (by omega)
        refine lv_iinc (pc := 143) (v := v_26) (lv' := [(3, .int v_26), (0, .ref M), (1, .int 4), (2, .int z_n)]) E.1 E.2.1 dX12_takesOther_143 hl13 (k := 0) rfl ev_26 (by decide) rfl (fun ls hl27 => ?_)
        refine lv_goto (pc := 146) (tgt := 122) E.1 E.2.1 dX12_takesOther_146 (by decide) ?_
        exact ih_11 v_26 g_24 _ _ _ ⟨(by show 0 ≤ v_26.toInt; omega), (by show v_26.toInt ≤ z_n.toInt; omega), (MV_step (i := x_9) (j := v_26) (m := 200) hi_10_2 eg_24 ev_23 (by omega) (by omega) (by omega) (by omega) (by omega) (by omega))⟩ (by omega) hw25 (lv_sub hl27 [0, 1, 2, 3] rfl)
  exact loop_8 (Int.toNat (z_n.toInt - 0) + 1) 0 (mf 50) _ _ _ ⟨(by show 0 ≤ (0 : Int32).toInt; have k_0 : (0 : Int32).toInt = 0 := (by decide +kernel); omega), (by show (0 : Int32).toInt ≤ z_n.toInt; have k_0 : (0 : Int32).toInt = 0 := (by decide +kernel); omega), (MV_nil (by decide +kernel))⟩ (by have k_0 : (0 : Int32).toInt = 0 := (by decide +kernel); omega) hw1 (lv_sub hl7 [0, 1, 2, 3] rfl)

set_option maxHeartbeats 4000000 in
set_option maxRecDepth 100000 in
theorem s_textN (l : Launch) (D : va_G) (cI cJ : ClassId) (sz M : Nat) (mr : Nat → Nat) (mi : Nat → Int32) (mf : Nat → Nat → Int32) (mg : Nat → Nat → Int64) (z_kind : Int32) (h0 : z_kind.toInt < 0) : Met l yX12_text (Cond.code yX12_text cX12_text 3 (some .int) :: GW) ({ frames := 11, cells := 0, slots := 0, locals := 255 } : Room) (va_Pc [.ref M, .int z_kind] (PW D cI cJ sz (MW cI cJ M mr mi mf mg) xT)) (va_Qi (fun (r : Int32) (u : Int32 × Int32 × Int32 × Int32 × Int32 × Int32 × Int32) => (u.2.2.2.2.2.2.toInt = 0)) (fun u => QW D cI cJ (va_A (MW cI cJ M mr mi mf mg) sz) ((fun (u : Int32 × Int32 × Int32 × Int32 × Int32 × Int32 × Int32) => (MW cI cJ M mr (upd (upd (upd (upd (upd (upd (upd mi 0 u.1) 40 u.2.1) 41 u.2.2.1) 22 u.2.2.2.1) 34 u.2.2.2.2.1) 35 u.2.2.2.2.2.1) 21 u.2.2.2.2.2.2) mf mg)) u)) (va_A (MW cI cJ M mr mi mf mg) sz)) 0 0 (va_A (MW cI cJ M mr mi mf mg) sz) := by
  refine mk_met (y := yX12_text) (bytes := cX12_text) (maxL := 3) (avs := [.ref M, .int z_kind]) (WS := (MW cI cJ M mr mi mf mg)) (Qf := fun A => va_Qi (fun (r : Int32) (u : Int32 × Int32 × Int32 × Int32 × Int32 × Int32 × Int32) => (u.2.2.2.2.2.2.toInt = 0)) (fun u => QW D cI cJ A ((fun (u : Int32 × Int32 × Int32 × Int32 × Int32 × Int32 × Int32) => (MW cI cJ M mr (upd (upd (upd (upd (upd (upd (upd mi 0 u.1) 40 u.2.1) 41 u.2.2.1) 22 u.2.2.2.1) 34 u.2.2.2.2.1) 35 u.2.2.2.2.2.1) 21 u.2.2.2.2.2.2) mf mg)) u)) A) (by decide) (Nat.le_of_ble_eq_true rfl) ?_
  intro p e s m below meth c A ls E hr hlk hnm hX hw1 hl2
  have hl3 : lv_has ls 3 [(0, .ref M), (1, .int z_kind)] := hl2
  refine lv_aload_n (pc := 0) E.1 E.2.1 dX12_text_0 rfl (lv_at hl3 0 rfl) ?_
  refine lv_iconst (pc := 1) (v := 0) E.1 E.2.1 dX12_text_1 (by decide +kernel) ?_
  refine x_put (pc := 2) (T := TX12) (N := 70) (ci := 12) (ws' := (MW cI cJ M mr (upd mi 0 0) mf mg)) E hw1 inX12 tyX12_ok nmX12 0 0 q_1399 rfl rfl (by decide) rfl rfl rfl rfl (Nat.le_of_ble_eq_true rfl) rfl dX12_text_2 (fun H locs hw4 => ?_)
  refine lv_aload_n (pc := 5) E.1 E.2.1 dX12_text_5 rfl (lv_at hl3 0 rfl) ?_
  refine lv_iconst (pc := 6) (v := 0) E.1 E.2.1 dX12_text_6 (by decide +kernel) ?_
  refine x_put (pc := 7) (T := TX12) (N := 70) (ci := 12) (ws' := (MW cI cJ M mr (upd (upd mi 0 0) 40 0) mf mg)) E hw4 inX12 tyX12_ok nmX12 0 40 q_1439 rfl rfl (by decide) rfl rfl rfl rfl (Nat.le_of_ble_eq_true rfl) rfl dX12_text_7 (fun H locs hw5 => ?_)
  refine lv_aload_n (pc := 10) E.1 E.2.1 dX12_text_10 rfl (lv_at hl3 0 rfl) ?_
  refine lv_iconst (pc := 11) (v := (-1)) E.1 E.2.1 dX12_text_11 (by decide +kernel) ?_
  refine x_put (pc := 12) (T := TX12) (N := 70) (ci := 12) (ws' := (MW cI cJ M mr (upd (upd (upd mi 0 0) 40 0) 41 (-1)) mf mg)) E hw5 inX12 tyX12_ok nmX12 0 41 q_1440 rfl rfl (by decide) rfl rfl rfl rfl (Nat.le_of_ble_eq_true rfl) rfl dX12_text_12 (fun H locs hw6 => ?_)
  refine lv_aload_n (pc := 15) E.1 E.2.1 dX12_text_15 rfl (lv_at hl3 0 rfl) ?_
  refine lv_iconst (pc := 16) (v := 0) E.1 E.2.1 dX12_text_16 (by decide +kernel) ?_
  refine x_put (pc := 17) (T := TX12) (N := 70) (ci := 12) (ws' := (MW cI cJ M mr (upd (upd (upd (upd mi 0 0) 22 0) 40 0) 41 (-1)) mf mg)) E hw6 inX12 tyX12_ok nmX12 0 22 q_1421 rfl rfl (by decide) rfl rfl rfl rfl (Nat.le_of_ble_eq_true rfl) rfl dX12_text_17 (fun H locs hw7 => ?_)
  refine lv_aload_n (pc := 20) E.1 E.2.1 dX12_text_20 rfl (lv_at hl3 0 rfl) ?_
  refine lv_iconst (pc := 21) (v := 0) E.1 E.2.1 dX12_text_21 (by decide +kernel) ?_
  refine x_put (pc := 22) (T := TX12) (N := 70) (ci := 12) (ws' := (MW cI cJ M mr (upd (upd (upd (upd (upd mi 0 0) 22 0) 34 0) 40 0) 41 (-1)) mf mg)) E hw7 inX12 tyX12_ok nmX12 0 34 q_1433 rfl rfl (by decide) rfl rfl rfl rfl (Nat.le_of_ble_eq_true rfl) rfl dX12_text_22 (fun H locs hw8 => ?_)
  refine lv_aload_n (pc := 25) E.1 E.2.1 dX12_text_25 rfl (lv_at hl3 0 rfl) ?_
  refine lv_iconst (pc := 26) (v := 0) E.1 E.2.1 dX12_text_26 (by decide +kernel) ?_
  refine x_put (pc := 27) (T := TX12) (N := 70) (ci := 12) (ws' := (MW cI cJ M mr (upd (upd (upd (upd (upd (upd mi 0 0) 22 0) 34 0) 35 0) 40 0) 41 (-1)) mf mg)) E hw8 inX12 tyX12_ok nmX12 0 35 q_1434 rfl rfl (by decide) rfl rfl rfl rfl (Nat.le_of_ble_eq_true rfl) rfl dX12_text_27 (fun H locs hw9 => ?_)
  refine lv_iconst (pc := 30) (v := (-1)) E.1 E.2.1 dX12_text_30 (by decide +kernel) ?_
  refine lv_istore_n (pc := 31) (lv' := [(2, .int (-1)), (0, .ref M), (1, .int z_kind)]) E.1 E.2.1 dX12_text_31 rfl hl3 (by decide) rfl (fun ls hl10 => ?_)
  refine lv_aload_n (pc := 32) E.1 E.2.1 dX12_text_32 rfl (lv_at hl10 1 rfl) ?_
  refine lv_iload_n (pc := 33) E.1 E.2.1 dX12_text_33 rfl (lv_at hl10 2 rfl) ?_
  refine lv_iconst (pc := 34) (v := 0) E.1 E.2.1 dX12_text_34 (by decide +kernel) ?_
  refine lv_iconst (pc := 35) (v := 4) E.1 E.2.1 dX12_text_35 (by decide +kernel) ?_
  refine cm_i (pc := 36) hw9 (rn_M (As := [.int z_kind, .int 0, .int 4]) (rest := []) E hw9 (s_isIn l D cI cJ _ M mr (upd (upd (upd (upd (upd (upd mi 0 0) 22 0) 34 0) 35 0) 40 0) 41 (-1)) mf mg z_kind 0 4) (gdV q_1622 q_1624 q_46 q_162 q_1625) hdV_X12_isIn ⟨rfl, rfl⟩ ⟨(Nat.le_of_ble_eq_true rfl), (Nat.le_of_ble_eq_true rfl)⟩ ⟨(Nat.le_of_ble_eq_true rfl), (Nat.le_of_ble_eq_true rfl)⟩ 12 rfl rfl rfl rfl hl10.1 rfl (Nat.le_of_ble_eq_true rfl) dX12_text_36) (fun r_12 u_11 H1 locs hp hw13 => ?_)
  generalize H1 = H at hw13 ⊢
  have hw14 : WD D A s.heap (MW cI cJ M mr (upd (upd (upd (upd (upd (upd mi 0 0) 22 0) 34 0) 35 0) 40 0) 41 (-1)) mf mg) H locs := hw13
  have hp_15 := hp
  rcases hp_15 with ⟨rfl, ha_16⟩ | ⟨rfl, ha_17⟩ | ⟨rfl, ha_18, ha_19⟩
  · skip
    have ha_16 : z_kind.toInt < (0 : Int32).toInt := ha_16
    rw [show (0 : Int32).toInt = 0 from by decide +kernel] at ha_16
    refine lv_if_eq (pc := 39) (tgt := 69) E.1 E.2.1 dX12_text_39 (by decide) (fun _ => ?_) (fun c_20 => absurd (meqE (a := 0) (b := 0) (by decide +kernel) (by decide +kernel) (by omega)) c_20)
    refine lv_aload_n (pc := 69) E.1 E.2.1 dX12_text_69 rfl (lv_at hl10 1 rfl) ?_
    refine lv_iconst (pc := 70) (v := 0) E.1 E.2.1 dX12_text_70 (by decide +kernel) ?_
    refine x_put (pc := 71) (T := TX12) (N := 70) (ci := 12) (ws' := (MW cI cJ M mr (upd (upd (upd (upd (upd (upd (upd mi 0 0) 21 0) 22 0) 34 0) 35 0) 40 0) 41 (-1)) mf mg)) E hw14 inX12 tyX12_ok nmX12 0 21 q_1420 rfl rfl (by decide) rfl rfl rfl rfl (Nat.le_of_ble_eq_true rfl) rfl dX12_text_71 (fun H locs hw21 => ?_)
    refine lv_iload_n (pc := 74) E.1 E.2.1 dX12_text_74 rfl (lv_at hl10 0 rfl) ?_
    refine lv_iconst (pc := 75) (v := (-1)) E.1 E.2.1 dX12_text_75 (by decide +kernel) ?_
    refine lv_icmp_ne (pc := 76) (tgt := 81) E.1 E.2.1 dX12_text_76 (by decide) (fun c_22 => absurd (meqE (a := (-1)) (b := (-1)) (by decide +kernel) (by decide +kernel) (by omega)) c_22) (fun _ => ?_)
    refine lv_iconst (pc := 79) (v := (-1)) E.1 E.2.1 dX12_text_79 (by decide +kernel) ?_
    exact em_i (w1 := (fun (u : Int32 × Int32 × Int32 × Int32 × Int32 × Int32 × Int32) => (MW cI cJ M mr (upd (upd (upd (upd (upd (upd (upd mi 0 u.1) 40 u.2.1) 41 u.2.2.1) 22 u.2.2.2.1) 34 u.2.2.2.2.1) 35 u.2.2.2.2.2.1) 21 u.2.2.2.2.2.2) mf mg))) E hr hlk (0, 0, (-1), 0, 0, 0, 0) hw21 (by show (0 : Int32).toInt = 0; have k_0 : (0 : Int32).toInt = 0 := (by decide +kernel); have k_1 : (0 : Int32).toInt = 0 := (by decide +kernel); have k_2 : (0 : Int32).toInt = 0 := (by decide +kernel); have k_3 : (0 : Int32).toInt = 0 := (by decide +kernel); have k_4 : (0 : Int32).toInt = 0 := (by decide +kernel); have k_5 : (0 : Int32).toInt = 0 := (by decide +kernel); have k_6 : ((-1) : Int32).toInt = -1 := (by decide +kernel); have k_7 : ((-1) : Int32).toInt = -1 := (by decide +kernel); omega) (Nat.le_of_ble_eq_true rfl) (Nat.le_of_ble_eq_true rfl) dX12_text_80
  · skip
    have ha_17 : (4 : Int32).toInt < z_kind.toInt := ha_17
    rw [show (4 : Int32).toInt = 4 from by decide +kernel] at ha_17
    exfalso; omega
  · skip
    have ha_18 : (0 : Int32).toInt ≤ z_kind.toInt := ha_18
    rw [show (0 : Int32).toInt = 0 from by decide +kernel] at ha_18
    have ha_19 : z_kind.toInt ≤ (4 : Int32).toInt := ha_19
    rw [show (4 : Int32).toInt = 4 from by decide +kernel] at ha_19
    exfalso; omega

set_option maxHeartbeats 4000000 in
set_option maxRecDepth 100000 in
theorem s_textP (l : Launch) (D : va_G) (cI cJ : ClassId) (sz M : Nat) (mr : Nat → Nat) (mi : Nat → Int32) (mf : Nat → Nat → Int32) (mg : Nat → Nat → Int64) (z_kind : Int32) (h0 : 4 < z_kind.toInt) : Met l yX12_text (Cond.code yX12_text cX12_text 3 (some .int) :: GW) ({ frames := 11, cells := 0, slots := 0, locals := 255 } : Room) (va_Pc [.ref M, .int z_kind] (PW D cI cJ sz (MW cI cJ M mr mi mf mg) xT)) (va_Qi (fun (r : Int32) (u : Int32 × Int32 × Int32 × Int32 × Int32 × Int32 × Int32) => (u.2.2.2.2.2.2.toInt = 0)) (fun u => QW D cI cJ (va_A (MW cI cJ M mr mi mf mg) sz) ((fun (u : Int32 × Int32 × Int32 × Int32 × Int32 × Int32 × Int32) => (MW cI cJ M mr (upd (upd (upd (upd (upd (upd (upd mi 0 u.1) 40 u.2.1) 41 u.2.2.1) 22 u.2.2.2.1) 34 u.2.2.2.2.1) 35 u.2.2.2.2.2.1) 21 u.2.2.2.2.2.2) mf mg)) u)) (va_A (MW cI cJ M mr mi mf mg) sz)) 0 0 (va_A (MW cI cJ M mr mi mf mg) sz) := by
  refine mk_met (y := yX12_text) (bytes := cX12_text) (maxL := 3) (avs := [.ref M, .int z_kind]) (WS := (MW cI cJ M mr mi mf mg)) (Qf := fun A => va_Qi (fun (r : Int32) (u : Int32 × Int32 × Int32 × Int32 × Int32 × Int32 × Int32) => (u.2.2.2.2.2.2.toInt = 0)) (fun u => QW D cI cJ A ((fun (u : Int32 × Int32 × Int32 × Int32 × Int32 × Int32 × Int32) => (MW cI cJ M mr (upd (upd (upd (upd (upd (upd (upd mi 0 u.1) 40 u.2.1) 41 u.2.2.1) 22 u.2.2.2.1) 34 u.2.2.2.2.1) 35 u.2.2.2.2.2.1) 21 u.2.2.2.2.2.2) mf mg)) u)) A) (by decide) (Nat.le_of_ble_eq_true rfl) ?_
  intro p e s m below meth c A ls E hr hlk hnm hX hw1 hl2
  have hl3 : lv_has ls 3 [(0, .ref M), (1, .int z_kind)] := hl2
  refine lv_aload_n (pc := 0) E.1 E.2.1 dX12_text_0 rfl (lv_at hl3 0 rfl) ?_
  refine lv_iconst (pc := 1) (v := 0) E.1 E.2.1 dX12_text_1 (by decide +kernel) ?_
  refine x_put (pc := 2) (T := TX12) (N := 70) (ci := 12) (ws' := (MW cI cJ M mr (upd mi 0 0) mf mg)) E hw1 inX12 tyX12_ok nmX12 0 0 q_1399 rfl rfl (by decide) rfl rfl rfl rfl (Nat.le_of_ble_eq_true rfl) rfl dX12_text_2 (fun H locs hw4 => ?_)
  refine lv_aload_n (pc := 5) E.1 E.2.1 dX12_text_5 rfl (lv_at hl3 0 rfl) ?_
  refine lv_iconst (pc := 6) (v := 0) E.1 E.2.1 dX12_text_6 (by decide +kernel) ?_
  refine x_put (pc := 7) (T := TX12) (N := 70) (ci := 12) (ws' := (MW cI cJ M mr (upd (upd mi 0 0) 40 0) mf mg)) E hw4 inX12 tyX12_ok nmX12 0 40 q_1439 rfl rfl (by decide) rfl rfl rfl rfl (Nat.le_of_ble_eq_true rfl) rfl dX12_text_7 (fun H locs hw5 => ?_)
  refine lv_aload_n (pc := 10) E.1 E.2.1 dX12_text_10 rfl (lv_at hl3 0 rfl) ?_
  refine lv_iconst (pc := 11) (v := (-1)) E.1 E.2.1 dX12_text_11 (by decide +kernel) ?_
  refine x_put (pc := 12) (T := TX12) (N := 70) (ci := 12) (ws' := (MW cI cJ M mr (upd (upd (upd mi 0 0) 40 0) 41 (-1)) mf mg)) E hw5 inX12 tyX12_ok nmX12 0 41 q_1440 rfl rfl (by decide) rfl rfl rfl rfl (Nat.le_of_ble_eq_true rfl) rfl dX12_text_12 (fun H locs hw6 => ?_)
  refine lv_aload_n (pc := 15) E.1 E.2.1 dX12_text_15 rfl (lv_at hl3 0 rfl) ?_
  refine lv_iconst (pc := 16) (v := 0) E.1 E.2.1 dX12_text_16 (by decide +kernel) ?_
  refine x_put (pc := 17) (T := TX12) (N := 70) (ci := 12) (ws' := (MW cI cJ M mr (upd (upd (upd (upd mi 0 0) 22 0) 40 0) 41 (-1)) mf mg)) E hw6 inX12 tyX12_ok nmX12 0 22 q_1421 rfl rfl (by decide) rfl rfl rfl rfl (Nat.le_of_ble_eq_true rfl) rfl dX12_text_17 (fun H locs hw7 => ?_)
  refine lv_aload_n (pc := 20) E.1 E.2.1 dX12_text_20 rfl (lv_at hl3 0 rfl) ?_
  refine lv_iconst (pc := 21) (v := 0) E.1 E.2.1 dX12_text_21 (by decide +kernel) ?_
  refine x_put (pc := 22) (T := TX12) (N := 70) (ci := 12) (ws' := (MW cI cJ M mr (upd (upd (upd (upd (upd mi 0 0) 22 0) 34 0) 40 0) 41 (-1)) mf mg)) E hw7 inX12 tyX12_ok nmX12 0 34 q_1433 rfl rfl (by decide) rfl rfl rfl rfl (Nat.le_of_ble_eq_true rfl) rfl dX12_text_22 (fun H locs hw8 => ?_)
  refine lv_aload_n (pc := 25) E.1 E.2.1 dX12_text_25 rfl (lv_at hl3 0 rfl) ?_
  refine lv_iconst (pc := 26) (v := 0) E.1 E.2.1 dX12_text_26 (by decide +kernel) ?_
  refine x_put (pc := 27) (T := TX12) (N := 70) (ci := 12) (ws' := (MW cI cJ M mr (upd (upd (upd (upd (upd (upd mi 0 0) 22 0) 34 0) 35 0) 40 0) 41 (-1)) mf mg)) E hw8 inX12 tyX12_ok nmX12 0 35 q_1434 rfl rfl (by decide) rfl rfl rfl rfl (Nat.le_of_ble_eq_true rfl) rfl dX12_text_27 (fun H locs hw9 => ?_)
  refine lv_iconst (pc := 30) (v := (-1)) E.1 E.2.1 dX12_text_30 (by decide +kernel) ?_
  refine lv_istore_n (pc := 31) (lv' := [(2, .int (-1)), (0, .ref M), (1, .int z_kind)]) E.1 E.2.1 dX12_text_31 rfl hl3 (by decide) rfl (fun ls hl10 => ?_)
  refine lv_aload_n (pc := 32) E.1 E.2.1 dX12_text_32 rfl (lv_at hl10 1 rfl) ?_
  refine lv_iload_n (pc := 33) E.1 E.2.1 dX12_text_33 rfl (lv_at hl10 2 rfl) ?_
  refine lv_iconst (pc := 34) (v := 0) E.1 E.2.1 dX12_text_34 (by decide +kernel) ?_
  refine lv_iconst (pc := 35) (v := 4) E.1 E.2.1 dX12_text_35 (by decide +kernel) ?_
  refine cm_i (pc := 36) hw9 (rn_M (As := [.int z_kind, .int 0, .int 4]) (rest := []) E hw9 (s_isIn l D cI cJ _ M mr (upd (upd (upd (upd (upd (upd mi 0 0) 22 0) 34 0) 35 0) 40 0) 41 (-1)) mf mg z_kind 0 4) (gdV q_1622 q_1624 q_46 q_162 q_1625) hdV_X12_isIn ⟨rfl, rfl⟩ ⟨(Nat.le_of_ble_eq_true rfl), (Nat.le_of_ble_eq_true rfl)⟩ ⟨(Nat.le_of_ble_eq_true rfl), (Nat.le_of_ble_eq_true rfl)⟩ 12 rfl rfl rfl rfl hl10.1 rfl (Nat.le_of_ble_eq_true rfl) dX12_text_36) (fun r_12 u_11 H1 locs hp hw13 => ?_)
  generalize H1 = H at hw13 ⊢
  have hw14 : WD D A s.heap (MW cI cJ M mr (upd (upd (upd (upd (upd (upd mi 0 0) 22 0) 34 0) 35 0) 40 0) 41 (-1)) mf mg) H locs := hw13
  have hp_15 := hp
  rcases hp_15 with ⟨rfl, ha_16⟩ | ⟨rfl, ha_17⟩ | ⟨rfl, ha_18, ha_19⟩
  · skip
    have ha_16 : z_kind.toInt < (0 : Int32).toInt := ha_16
    rw [show (0 : Int32).toInt = 0 from by decide +kernel] at ha_16
    exfalso; omega
  · skip
    have ha_17 : (4 : Int32).toInt < z_kind.toInt := ha_17
    rw [show (4 : Int32).toInt = 4 from by decide +kernel] at ha_17
    refine lv_if_eq (pc := 39) (tgt := 69) E.1 E.2.1 dX12_text_39 (by decide) (fun _ => ?_) (fun c_20 => absurd (meqE (a := 0) (b := 0) (by decide +kernel) (by decide +kernel) (by omega)) c_20)
    refine lv_aload_n (pc := 69) E.1 E.2.1 dX12_text_69 rfl (lv_at hl10 1 rfl) ?_
    refine lv_iconst (pc := 70) (v := 0) E.1 E.2.1 dX12_text_70 (by decide +kernel) ?_
    refine x_put (pc := 71) (T := TX12) (N := 70) (ci := 12) (ws' := (MW cI cJ M mr (upd (upd (upd (upd (upd (upd (upd mi 0 0) 21 0) 22 0) 34 0) 35 0) 40 0) 41 (-1)) mf mg)) E hw14 inX12 tyX12_ok nmX12 0 21 q_1420 rfl rfl (by decide) rfl rfl rfl rfl (Nat.le_of_ble_eq_true rfl) rfl dX12_text_71 (fun H locs hw21 => ?_)
    refine lv_iload_n (pc := 74) E.1 E.2.1 dX12_text_74 rfl (lv_at hl10 0 rfl) ?_
    refine lv_iconst (pc := 75) (v := (-1)) E.1 E.2.1 dX12_text_75 (by decide +kernel) ?_
    refine lv_icmp_ne (pc := 76) (tgt := 81) E.1 E.2.1 dX12_text_76 (by decide) (fun c_22 => absurd (meqE (a := (-1)) (b := (-1)) (by decide +kernel) (by decide +kernel) (by omega)) c_22) (fun _ => ?_)
    refine lv_iconst (pc := 79) (v := (-1)) E.1 E.2.1 dX12_text_79 (by decide +kernel) ?_
    exact em_i (w1 := (fun (u : Int32 × Int32 × Int32 × Int32 × Int32 × Int32 × Int32) => (MW cI cJ M mr (upd (upd (upd (upd (upd (upd (upd mi 0 u.1) 40 u.2.1) 41 u.2.2.1) 22 u.2.2.2.1) 34 u.2.2.2.2.1) 35 u.2.2.2.2.2.1) 21 u.2.2.2.2.2.2) mf mg))) E hr hlk (0, 0, (-1), 0, 0, 0, 0) hw21 (by show (0 : Int32).toInt = 0; have k_0 : (0 : Int32).toInt = 0 := (by decide +kernel); have k_1 : (0 : Int32).toInt = 0 := (by decide +kernel); have k_2 : (0 : Int32).toInt = 0 := (by decide +kernel); have k_3 : (0 : Int32).toInt = 0 := (by decide +kernel); have k_4 : (0 : Int32).toInt = 0 := (by decide +kernel); have k_5 : (0 : Int32).toInt = 0 := (by decide +kernel); have k_6 : ((-1) : Int32).toInt = -1 := (by decide +kernel); have k_7 : ((-1) : Int32).toInt = -1 := (by decide +kernel); omega) (Nat.le_of_ble_eq_true rfl) (Nat.le_of_ble_eq_true rfl) dX12_text_80
  · skip
    have ha_18 : (0 : Int32).toInt ≤ z_kind.toInt := ha_18
    rw [show (0 : Int32).toInt = 0 from by decide +kernel] at ha_18
    have ha_19 : z_kind.toInt ≤ (4 : Int32).toInt := ha_19
    rw [show (4 : Int32).toInt = 4 from by decide +kernel] at ha_19
    exfalso; omega

set_option maxHeartbeats 4000000 in
set_option maxRecDepth 100000 in
theorem s_text2 (l : Launch) (D : va_G) (cI cJ : ClassId) (sz M : Nat) (mr : Nat → Nat) (mi : Nat → Int32) (mf : Nat → Nat → Int32) (mg : Nat → Nat → Int64)  (h0 : 0 ≤ (mi 21).toInt ∧ (mi 21).toInt ≤ 400) (h1 : ((mf 26) 153).toInt = 32) (h2 : 0 ≤ (mi 6).toInt ∧ (mi 6).toInt ≤ 10) (h3 : 0 ≤ ((mf 27) 0).toInt) (h4 : ((mf 27) 0).toInt ≤ 16) (h5 : 0 ≤ ((mf 27) 1).toInt) (h6 : ((mf 27) 1).toInt ≤ 16) (h7 : 0 ≤ (mi 49).toInt ∧ (mi 49).toInt ≤ 200) (h8 : 0 ≤ (mi 3).toInt ∧ (mi 3).toInt ≤ 6) (h9 : 0 ≤ (mi 42).toInt ∧ (mi 42).toInt ≤ 40) (h10 : 0 ≤ (mi 44).toInt ∧ (mi 44).toInt ≤ 10) (a_paths : pathsOK (mf 43)) (lf_words : (∀ j : Nat, j < 154 → (mf 26) j = w0 j)) (lf_rows : rowsOK (mi 3).toInt (mi 6).toInt (mf 2)) : Met l yX12_text (Cond.code yX12_text cX12_text 3 (some .int) :: GW) ({ frames := 11, cells := 0, slots := 0, locals := 255 } : Room) (va_Pc [.ref M, .int 2] (PW D cI cJ sz (MW cI cJ M mr mi mf mg) xT)) (va_Qi (fun (r : Int32) (u : Int32 × Int32 × Int32 × Int32 × Int32 × Int32 × Int32 × Int32 × Int32 × Int32 × Int32 × Int32 × Int32 × (Nat → Int32) × Int32 × Int32) => (u.2.2.2.2.2.2.1.toInt = 0) ∧ (0 ≤ u.2.2.2.2.2.2.2.2.2.2.2.2.2.2.1.toInt) ∧ (u.2.2.2.2.2.2.2.2.2.2.2.2.2.2.1.toInt ≤ 40) ∧ (0 ≤ u.2.2.2.2.2.2.2.2.2.2.2.2.2.2.2.toInt) ∧ (u.2.2.2.2.2.2.2.2.2.2.2.2.2.2.2.toInt ≤ 6) ∧ (pathsOK u.2.2.2.2.2.2.2.2.2.2.2.2.2.1) ∧ (rowsOK u.2.2.2.2.2.2.2.2.2.2.2.2.2.2.2.toInt (mi 6).toInt (mf 2))) (fun u => QW D cI cJ (va_A (MW cI cJ M mr mi mf mg) sz) ((fun (u : Int32 × Int32 × Int32 × Int32 × Int32 × Int32 × Int32 × Int32 × Int32 × Int32 × Int32 × Int32 × Int32 × (Nat → Int32) × Int32 × Int32) => (MW cI cJ M mr (upd (upd (upd (upd (upd (upd (upd (upd (upd (upd (upd (upd (upd (upd (upd mi 0 u.1) 40 u.2.1) 41 u.2.2.1) 22 u.2.2.2.1) 34 u.2.2.2.2.1) 35 u.2.2.2.2.2.1) 21 u.2.2.2.2.2.2.1) 23 u.2.2.2.2.2.2.2.1) 24 u.2.2.2.2.2.2.2.2.1) 25 u.2.2.2.2.2.2.2.2.2.1) 38 u.2.2.2.2.2.2.2.2.2.2.1) 39 u.2.2.2.2.2.2.2.2.2.2.2.1) 33 u.2.2.2.2.2.2.2.2.2.2.2.2.1) 42 u.2.2.2.2.2.2.2.2.2.2.2.2.2.2.1) 3 u.2.2.2.2.2.2.2.2.2.2.2.2.2.2.2) (va_up mf 43 u.2.2.2.2.2.2.2.2.2.2.2.2.2.1) mg)) u)) (va_A (MW cI cJ M mr mi mf mg) sz)) 0 0 (va_A (MW cI cJ M mr mi mf mg) sz) := by
  refine mk_met (y := yX12_text) (bytes := cX12_text) (maxL := 3) (avs := [.ref M, .int 2]) (WS := (MW cI cJ M mr mi mf mg)) (Qf := fun A => va_Qi (fun (r : Int32) (u : Int32 × Int32 × Int32 × Int32 × Int32 × Int32 × Int32 × Int32 × Int32 × Int32 × Int32 × Int32 × Int32 × (Nat → Int32) × Int32 × Int32) => (u.2.2.2.2.2.2.1.toInt = 0) ∧ (0 ≤ u.2.2.2.2.2.2.2.2.2.2.2.2.2.2.1.toInt) ∧ (u.2.2.2.2.2.2.2.2.2.2.2.2.2.2.1.toInt ≤ 40) ∧ (0 ≤ u.2.2.2.2.2.2.2.2.2.2.2.2.2.2.2.toInt) ∧ (u.2.2.2.2.2.2.2.2.2.2.2.2.2.2.2.toInt ≤ 6) ∧ (pathsOK u.2.2.2.2.2.2.2.2.2.2.2.2.2.1) ∧ (rowsOK u.2.2.2.2.2.2.2.2.2.2.2.2.2.2.2.toInt (mi 6).toInt (mf 2))) (fun u => QW D cI cJ A ((fun (u : Int32 × Int32 × Int32 × Int32 × Int32 × Int32 × Int32 × Int32 × Int32 × Int32 × Int32 × Int32 × Int32 × (Nat → Int32) × Int32 × Int32) => (MW cI cJ M mr (upd (upd (upd (upd (upd (upd (upd (upd (upd (upd (upd (upd (upd (upd (upd mi 0 u.1) 40 u.2.1) 41 u.2.2.1) 22 u.2.2.2.1) 34 u.2.2.2.2.1) 35 u.2.2.2.2.2.1) 21 u.2.2.2.2.2.2.1) 23 u.2.2.2.2.2.2.2.1) 24 u.2.2.2.2.2.2.2.2.1) 25 u.2.2.2.2.2.2.2.2.2.1) 38 u.2.2.2.2.2.2.2.2.2.2.1) 39 u.2.2.2.2.2.2.2.2.2.2.2.1) 33 u.2.2.2.2.2.2.2.2.2.2.2.2.1) 42 u.2.2.2.2.2.2.2.2.2.2.2.2.2.2.1) 3 u.2.2.2.2.2.2.2.2.2.2.2.2.2.2.2) (va_up mf 43 u.2.2.2.2.2.2.2.2.2.2.2.2.2.1) mg)) u)) A) (by decide) (Nat.le_of_ble_eq_true rfl) ?_
  intro p e s m below meth c A ls E hr hlk hnm hX hw1 hl2
  have hl3 : lv_has ls 3 [(0, .ref M), (1, .int 2)] := hl2
  refine lv_aload_n (pc := 0) E.1 E.2.1 dX12_text_0 rfl (lv_at hl3 0 rfl) ?_
  refine lv_iconst (pc := 1) (v := 0) E.1 E.2.1 dX12_text_1 (by decide +kernel) ?_
  refine x_put (pc := 2) (T := TX12) (N := 70) (ci := 12) (ws' := (MW cI cJ M mr (upd mi 0 0) mf mg)) E hw1 inX12 tyX12_ok nmX12 0 0 q_1399 rfl rfl (by decide) rfl rfl rfl rfl (Nat.le_of_ble_eq_true rfl) rfl dX12_text_2 (fun H locs hw4 => ?_)
  refine lv_aload_n (pc := 5) E.1 E.2.1 dX12_text_5 rfl (lv_at hl3 0 rfl) ?_
  refine lv_iconst (pc := 6) (v := 0) E.1 E.2.1 dX12_text_6 (by decide +kernel) ?_
  refine x_put (pc := 7) (T := TX12) (N := 70) (ci := 12) (ws' := (MW cI cJ M mr (upd (upd mi 0 0) 40 0) mf mg)) E hw4 inX12 tyX12_ok nmX12 0 40 q_1439 rfl rfl (by decide) rfl rfl rfl rfl (Nat.le_of_ble_eq_true rfl) rfl dX12_text_7 (fun H locs hw5 => ?_)
  refine lv_aload_n (pc := 10) E.1 E.2.1 dX12_text_10 rfl (lv_at hl3 0 rfl) ?_
  refine lv_iconst (pc := 11) (v := (-1)) E.1 E.2.1 dX12_text_11 (by decide +kernel) ?_
  refine x_put (pc := 12) (T := TX12) (N := 70) (ci := 12) (ws' := (MW cI cJ M mr (upd (upd (upd mi 0 0) 40 0) 41 (-1)) mf mg)) E hw5 inX12 tyX12_ok nmX12 0 41 q_1440 rfl rfl (by decide) rfl rfl rfl rfl (Nat.le_of_ble_eq_true rfl) rfl dX12_text_12 (fun H locs hw6 => ?_)
  refine lv_aload_n (pc := 15) E.1 E.2.1 dX12_text_15 rfl (lv_at hl3 0 rfl) ?_
  refine lv_iconst (pc := 16) (v := 0) E.1 E.2.1 dX12_text_16 (by decide +kernel) ?_
  refine x_put (pc := 17) (T := TX12) (N := 70) (ci := 12) (ws' := (MW cI cJ M mr (upd (upd (upd (upd mi 0 0) 22 0) 40 0) 41 (-1)) mf mg)) E hw6 inX12 tyX12_ok nmX12 0 22 q_1421 rfl rfl (by decide) rfl rfl rfl rfl (Nat.le_of_ble_eq_true rfl) rfl dX12_text_17 (fun H locs hw7 => ?_)
  refine lv_aload_n (pc := 20) E.1 E.2.1 dX12_text_20 rfl (lv_at hl3 0 rfl) ?_
  refine lv_iconst (pc := 21) (v := 0) E.1 E.2.1 dX12_text_21 (by decide +kernel) ?_
  refine x_put (pc := 22) (T := TX12) (N := 70) (ci := 12) (ws' := (MW cI cJ M mr (upd (upd (upd (upd (upd mi 0 0) 22 0) 34 0) 40 0) 41 (-1)) mf mg)) E hw7 inX12 tyX12_ok nmX12 0 34 q_1433 rfl rfl (by decide) rfl rfl rfl rfl (Nat.le_of_ble_eq_true rfl) rfl dX12_text_22 (fun H locs hw8 => ?_)
  refine lv_aload_n (pc := 25) E.1 E.2.1 dX12_text_25 rfl (lv_at hl3 0 rfl) ?_
  refine lv_iconst (pc := 26) (v := 0) E.1 E.2.1 dX12_text_26 (by decide +kernel) ?_
  refine x_put (pc := 27) (T := TX12) (N := 70) (ci := 12) (ws' := (MW cI cJ M mr (upd (upd (upd (upd (upd (upd mi 0 0) 22 0) 34 0) 35 0) 40 0) 41 (-1)) mf mg)) E hw8 inX12 tyX12_ok nmX12 0 35 q_1434 rfl rfl (by decide) rfl rfl rfl rfl (Nat.le_of_ble_eq_true rfl) rfl dX12_text_27 (fun H locs hw9 => ?_)
  refine lv_iconst (pc := 30) (v := (-1)) E.1 E.2.1 dX12_text_30 (by decide +kernel) ?_
  refine lv_istore_n (pc := 31) (lv' := [(2, .int (-1)), (0, .ref M), (1, .int 2)]) E.1 E.2.1 dX12_text_31 rfl hl3 (by decide) rfl (fun ls hl10 => ?_)
  refine lv_aload_n (pc := 32) E.1 E.2.1 dX12_text_32 rfl (lv_at hl10 1 rfl) ?_
  refine lv_iload_n (pc := 33) E.1 E.2.1 dX12_text_33 rfl (lv_at hl10 2 rfl) ?_
  refine lv_iconst (pc := 34) (v := 0) E.1 E.2.1 dX12_text_34 (by decide +kernel) ?_
  refine lv_iconst (pc := 35) (v := 4) E.1 E.2.1 dX12_text_35 (by decide +kernel) ?_
  refine cm_i (pc := 36) hw9 (rn_M (As := [.int 2, .int 0, .int 4]) (rest := []) E hw9 (s_isIn l D cI cJ _ M mr (upd (upd (upd (upd (upd (upd mi 0 0) 22 0) 34 0) 35 0) 40 0) 41 (-1)) mf mg 2 0 4) (gdV q_1622 q_1624 q_46 q_162 q_1625) hdV_X12_isIn ⟨rfl, rfl⟩ ⟨(Nat.le_of_ble_eq_true rfl), (Nat.le_of_ble_eq_true rfl)⟩ ⟨(Nat.le_of_ble_eq_true rfl), (Nat.le_of_ble_eq_true rfl)⟩ 12 rfl rfl rfl rfl hl10.1 rfl (Nat.le_of_ble_eq_true rfl) dX12_text_36) (fun r_12 u_11 H1 locs hp hw13 => ?_)
  generalize H1 = H at hw13 ⊢
  have hw14 : WD D A s.heap (MW cI cJ M mr (upd (upd (upd (upd (upd (upd mi 0 0) 22 0) 34 0) 35 0) 40 0) 41 (-1)) mf mg) H locs := hw13
  have hp_15 := hp
  rcases hp_15 with ⟨rfl, ha_16⟩ | ⟨rfl, ha_17⟩ | ⟨rfl, ha_18, ha_19⟩
  · skip
    have ha_16 : (2 : Int32).toInt < (0 : Int32).toInt := ha_16
    rw [show (2 : Int32).toInt = 2 from by decide +kernel] at ha_16
    rw [show (0 : Int32).toInt = 0 from by decide +kernel] at ha_16
    exfalso; omega
  · skip
    have ha_17 : (4 : Int32).toInt < (2 : Int32).toInt := ha_17
    rw [show (2 : Int32).toInt = 2 from by decide +kernel] at ha_17
    rw [show (4 : Int32).toInt = 4 from by decide +kernel] at ha_17
    exfalso; omega
  · skip
    have ha_18 : (0 : Int32).toInt ≤ (2 : Int32).toInt := ha_18
    rw [show (2 : Int32).toInt = 2 from by decide +kernel] at ha_18
    rw [show (0 : Int32).toInt = 0 from by decide +kernel] at ha_18
    have ha_19 : (2 : Int32).toInt ≤ (4 : Int32).toInt := ha_19
    rw [show (2 : Int32).toInt = 2 from by decide +kernel] at ha_19
    rw [show (4 : Int32).toInt = 4 from by decide +kernel] at ha_19
    refine lv_if_eq (pc := 39) (tgt := 69) E.1 E.2.1 dX12_text_39 (by decide) (fun c_20 => absurd c_20 (mneE (a := 1) (b := 0) (by decide +kernel) (by decide +kernel) (by omega))) (fun _ => ?_)
    refine lv_aload_n (pc := 42) E.1 E.2.1 dX12_text_42 rfl (lv_at hl10 1 rfl) ?_
    refine lv_iload_n (pc := 43) E.1 E.2.1 dX12_text_43 rfl (lv_at hl10 2 rfl) ?_
    refine cm_i (pc := 44) hw14 (rn_M (As := [.int 2]) (rest := []) E hw14 (s_readsText2 l D cI cJ _ M mr (upd (upd (upd (upd (upd (upd mi 0 0) 22 0) 34 0) 35 0) 40 0) 41 (-1)) mf mg (by show 0 ≤ (0 : Int32).toInt; have k_1 : (0 : Int32).toInt = 0 := (by decide +kernel); omega) (by show (0 : Int32).toInt ≤ (mi 21).toInt; have k_1 : (0 : Int32).toInt = 0 := (by decide +kernel); omega) h0.2 h1 h2 a_paths (show (∀ j : Nat, j < 154 → (mf 26) j = w0 j) from lf_words)) (gdV q_1662 q_1664 q_51 q_162 q_1665) hdV_X12_readsText ⟨rfl, rfl⟩ ⟨(Nat.le_of_ble_eq_true rfl), (Nat.le_of_ble_eq_true rfl)⟩ ⟨(Nat.le_of_ble_eq_true rfl), (Nat.le_of_ble_eq_true rfl)⟩ 12 rfl rfl rfl rfl hl10.1 rfl (Nat.le_of_ble_eq_true rfl) dX12_text_44) (fun r_22 u_21 H1 locs hp hw23 => ?_)
    obtain ⟨nspot_24, nfrom_25, ntoken_26, nvalue_27, nreadFault_28, nreadPlace_29, nwhich_30, gpaths_31⟩ := u_21
    generalize H1 = H at hw23 ⊢
    have hw32 : WD D A s.heap (MW cI cJ M mr (upd (upd (upd (upd (upd (upd (upd (upd (upd (upd (upd (upd mi 0 0) 22 nspot_24) 23 nfrom_25) 24 ntoken_26) 25 nvalue_27) 33 nwhich_30) 34 0) 35 0) 38 nreadFault_28) 39 nreadPlace_29) 40 0) 41 (-1)) (va_up mf 43 gpaths_31) mg) H locs := hw23
    obtain ⟨hp_33, hp_34, hp_35⟩ := hp
    have hp_34 : (0 ≤ (r_22 : Int32).toInt → PD gpaths_31 (r_22 : Int32).toInt) := hp_34
    rcases hp_35 with rfl | ⟨ha_36, ha_37⟩
    · skip
      refine lv_istore_n (pc := 47) (lv' := [(2, .int (-1)), (0, .ref M), (1, .int 2)]) E.1 E.2.1 dX12_text_47 rfl hl10 (by decide) rfl (fun ls hl38 => ?_)
      refine lv_iload_n (pc := 48) E.1 E.2.1 dX12_text_48 rfl (lv_at hl38 0 rfl) ?_
      refine lv_iconst (pc := 49) (v := (-1)) E.1 E.2.1 dX12_text_49 (by decide +kernel) ?_
      refine lv_icmp_ne (pc := 50) (tgt := 69) E.1 E.2.1 dX12_text_50 (by decide) (fun c_39 => absurd (meqE (a := (-1)) (b := (-1)) (by decide +kernel) (by decide +kernel) (by omega)) c_39) (fun _ => ?_)
      refine lv_aload_n (pc := 53) E.1 E.2.1 dX12_text_53 rfl (lv_at hl38 1 rfl) ?_
      refine lv_aload_n (pc := 54) E.1 E.2.1 dX12_text_54 rfl (lv_at hl38 1 rfl) ?_
      refine x_get (pc := 55) (T := TX12) (N := 70) (ci := 12) (v := .int nreadFault_28) E hw32 inX12 0 38 q_1437 rfl rfl (by decide) rfl rfl dX12_text_55 ?_
      refine x_put (pc := 58) (T := TX12) (N := 70) (ci := 12) (ws' := (MW cI cJ M mr (upd (upd (upd (upd (upd (upd (upd (upd (upd (upd (upd (upd mi 0 0) 22 nspot_24) 23 nfrom_25) 24 ntoken_26) 25 nvalue_27) 33 nwhich_30) 34 0) 35 0) 38 nreadFault_28) 39 nreadPlace_29) 40 nreadFault_28) 41 (-1)) (va_up mf 43 gpaths_31) mg)) E hw32 inX12 tyX12_ok nmX12 0 40 q_1439 rfl rfl (by decide) rfl rfl rfl rfl (Nat.le_of_ble_eq_true rfl) rfl dX12_text_58 (fun H locs hw40 => ?_)
      refine lv_aload_n (pc := 61) E.1 E.2.1 dX12_text_61 rfl (lv_at hl38 1 rfl) ?_
      refine lv_aload_n (pc := 62) E.1 E.2.1 dX12_text_62 rfl (lv_at hl38 1 rfl) ?_
      refine x_get (pc := 63) (T := TX12) (N := 70) (ci := 12) (v := .int nreadPlace_29) E hw40 inX12 0 39 q_1438 rfl rfl (by decide) rfl rfl dX12_text_63 ?_
      refine x_put (pc := 66) (T := TX12) (N := 70) (ci := 12) (ws' := (MW cI cJ M mr (upd (upd (upd (upd (upd (upd (upd (upd (upd (upd (upd (upd mi 0 0) 22 nspot_24) 23 nfrom_25) 24 ntoken_26) 25 nvalue_27) 33 nwhich_30) 34 0) 35 0) 38 nreadFault_28) 39 nreadPlace_29) 40 nreadFault_28) 41 nreadPlace_29) (va_up mf 43 gpaths_31) mg)) E hw40 inX12 tyX12_ok nmX12 0 41 q_1440 rfl rfl (by decide) rfl rfl rfl rfl (Nat.le_of_ble_eq_true rfl) rfl dX12_text_66 (fun H locs hw41 => ?_)
      refine lv_aload_n (pc := 69) E.1 E.2.1 dX12_text_69 rfl (lv_at hl38 1 rfl) ?_
      refine lv_iconst (pc := 70) (v := 0) E.1 E.2.1 dX12_text_70 (by decide +kernel) ?_
      refine x_put (pc := 71) (T := TX12) (N := 70) (ci := 12) (ws' := (MW cI cJ M mr (upd (upd (upd (upd (upd (upd (upd (upd (upd (upd (upd (upd (upd mi 0 0) 21 0) 22 nspot_24) 23 nfrom_25) 24 ntoken_26) 25 nvalue_27) 33 nwhich_30) 34 0) 35 0) 38 nreadFault_28) 39 nreadPlace_29) 40 nreadFault_28) 41 nreadPlace_29) (va_up mf 43 gpaths_31) mg)) E hw41 inX12 tyX12_ok nmX12 0 21 q_1420 rfl rfl (by decide) rfl rfl rfl rfl (Nat.le_of_ble_eq_true rfl) rfl dX12_text_71 (fun H locs hw42 => ?_)
      refine lv_iload_n (pc := 74) E.1 E.2.1 dX12_text_74 rfl (lv_at hl38 0 rfl) ?_
      refine lv_iconst (pc := 75) (v := (-1)) E.1 E.2.1 dX12_text_75 (by decide +kernel) ?_
      refine lv_icmp_ne (pc := 76) (tgt := 81) E.1 E.2.1 dX12_text_76 (by decide) (fun c_43 => absurd (meqE (a := (-1)) (b := (-1)) (by decide +kernel) (by decide +kernel) (by omega)) c_43) (fun _ => ?_)
      refine lv_iconst (pc := 79) (v := (-1)) E.1 E.2.1 dX12_text_79 (by decide +kernel) ?_
      exact em_i (w1 := (fun (u : Int32 × Int32 × Int32 × Int32 × Int32 × Int32 × Int32 × Int32 × Int32 × Int32 × Int32 × Int32 × Int32 × (Nat → Int32) × Int32 × Int32) => (MW cI cJ M mr (upd (upd (upd (upd (upd (upd (upd (upd (upd (upd (upd (upd (upd (upd (upd mi 0 u.1) 40 u.2.1) 41 u.2.2.1) 22 u.2.2.2.1) 34 u.2.2.2.2.1) 35 u.2.2.2.2.2.1) 21 u.2.2.2.2.2.2.1) 23 u.2.2.2.2.2.2.2.1) 24 u.2.2.2.2.2.2.2.2.1) 25 u.2.2.2.2.2.2.2.2.2.1) 38 u.2.2.2.2.2.2.2.2.2.2.1) 39 u.2.2.2.2.2.2.2.2.2.2.2.1) 33 u.2.2.2.2.2.2.2.2.2.2.2.2.1) 42 u.2.2.2.2.2.2.2.2.2.2.2.2.2.2.1) 3 u.2.2.2.2.2.2.2.2.2.2.2.2.2.2.2) (va_up mf 43 u.2.2.2.2.2.2.2.2.2.2.2.2.2.1) mg))) E hr hlk (0, nreadFault_28, nreadPlace_29, nspot_24, 0, 0, 0, nfrom_25, ntoken_26, nvalue_27, nreadFault_28, nreadPlace_29, nwhich_30, gpaths_31, (mi 42), (mi 3)) hw42 ⟨(by show (0 : Int32).toInt = 0; have k_0 : (0 : Int32).toInt = 0 := (by decide +kernel); have k_1 : (0 : Int32).toInt = 0 := (by decide +kernel); have k_2 : (0 : Int32).toInt = 0 := (by decide +kernel); have k_3 : (0 : Int32).toInt = 0 := (by decide +kernel); have k_4 : ((-1) : Int32).toInt = -1 := (by decide +kernel); omega), h9.1, h9.2, h8.1, h8.2, hp_33, lf_rows⟩ (Nat.le_of_ble_eq_true rfl) (Nat.le_of_ble_eq_true rfl) dX12_text_80
    · skip
      have ha_36 : 0 ≤ r_22.toInt := ha_36
      have ha_37 : r_22.toInt ≤ 40 := ha_37
      refine lv_istore_n (pc := 47) (lv' := [(2, .int r_22), (0, .ref M), (1, .int 2)]) E.1 E.2.1 dX12_text_47 rfl hl10 (by decide) rfl (fun ls hl44 => ?_)
      refine lv_iload_n (pc := 48) E.1 E.2.1 dX12_text_48 rfl (lv_at hl44 0 rfl) ?_
      refine lv_iconst (pc := 49) (v := (-1)) E.1 E.2.1 dX12_text_49 (by decide +kernel) ?_
      refine lv_icmp_ne (pc := 50) (tgt := 69) E.1 E.2.1 dX12_text_50 (by decide) (fun _ => ?_) (fun c_45 => absurd c_45 (mneE (a := r_22.toInt) (b := (-1)) rfl (by decide +kernel) (by omega)))
      refine lv_aload_n (pc := 69) E.1 E.2.1 dX12_text_69 rfl (lv_at hl44 1 rfl) ?_
      refine lv_iconst (pc := 70) (v := 0) E.1 E.2.1 dX12_text_70 (by decide +kernel) ?_
      refine x_put (pc := 71) (T := TX12) (N := 70) (ci := 12) (ws' := (MW cI cJ M mr (upd (upd (upd (upd (upd (upd (upd (upd (upd (upd (upd (upd (upd mi 0 0) 21 0) 22 nspot_24) 23 nfrom_25) 24 ntoken_26) 25 nvalue_27) 33 nwhich_30) 34 0) 35 0) 38 nreadFault_28) 39 nreadPlace_29) 40 0) 41 (-1)) (va_up mf 43 gpaths_31) mg)) E hw32 inX12 tyX12_ok nmX12 0 21 q_1420 rfl rfl (by decide) rfl rfl rfl rfl (Nat.le_of_ble_eq_true rfl) rfl dX12_text_71 (fun H locs hw46 => ?_)
      refine lv_iload_n (pc := 74) E.1 E.2.1 dX12_text_74 rfl (lv_at hl44 0 rfl) ?_
      refine lv_iconst (pc := 75) (v := (-1)) E.1 E.2.1 dX12_text_75 (by decide +kernel) ?_
      refine lv_icmp_ne (pc := 76) (tgt := 81) E.1 E.2.1 dX12_text_76 (by decide) (fun _ => ?_) (fun c_47 => absurd c_47 (mneE (a := r_22.toInt) (b := (-1)) rfl (by decide +kernel) (by omega)))
      refine lv_iload_n (pc := 81) E.1 E.2.1 dX12_text_81 rfl (lv_at hl44 2 rfl) ?_
      refine lv_iconst (pc := 82) (v := 1) E.1 E.2.1 dX12_text_82 (by decide +kernel) ?_
      refine lv_icmp_gt (pc := 83) (tgt := 94) E.1 E.2.1 dX12_text_83 (by decide) (fun _ => ?_) (fun c_48 => absurd (mltE (a := 1) (b := 2) (by decide +kernel) (by decide +kernel) (by omega)) c_48)
      refine lv_aload_n (pc := 94) E.1 E.2.1 dX12_text_94 rfl (lv_at hl44 1 rfl) ?_
      refine lv_iload_n (pc := 95) E.1 E.2.1 dX12_text_95 rfl (lv_at hl44 2 rfl) ?_
      refine lv_iload_n (pc := 96) E.1 E.2.1 dX12_text_96 rfl (lv_at hl44 0 rfl) ?_
      refine cm_v (pc := 97) hw46 (rn_M (As := [.int 2, .int r_22]) (rest := []) E hw46 (s_takesOther2 l D cI cJ _ M mr (upd (upd (upd (upd (upd (upd (upd (upd (upd (upd (upd (upd (upd mi 0 0) 21 0) 22 nspot_24) 23 nfrom_25) 24 ntoken_26) 25 nvalue_27) 33 nwhich_30) 34 0) 35 0) 38 nreadFault_28) 39 nreadPlace_29) 40 0) 41 (-1)) (va_up mf 43 gpaths_31) mg r_22 (by show 0 ≤ r_22.toInt ∧ r_22.toInt ≤ 40; omega) hp_33 (show PD gpaths_31 r_22.toInt from (hp_34 (by omega)))) (gdV q_1810 q_1812 q_88 q_162 q_1813) hdV_X12_takesOther ⟨rfl, rfl⟩ ⟨(Nat.le_of_ble_eq_true rfl), (Nat.le_of_ble_eq_true rfl)⟩ ⟨(Nat.le_of_ble_eq_true rfl), (Nat.le_of_ble_eq_true rfl)⟩ 12 rfl rfl rfl rfl hl44.1 rfl (Nat.le_of_ble_eq_true rfl) dX12_text_97) (fun u_49 H1 locs hp hw51 => ?_)
      obtain ⟨gpaths_52, npathMany_53, nundoable_54⟩ := u_49
      generalize H1 = H at hw51 ⊢
      have hw55 : WD D A s.heap (MW cI cJ M mr (upd (upd (upd (upd (upd (upd (upd (upd (upd (upd (upd (upd (upd (upd (upd mi 0 0) 3 nundoable_54) 21 0) 22 nspot_24) 23 nfrom_25) 24 ntoken_26) 25 nvalue_27) 33 nwhich_30) 34 0) 35 0) 38 nreadFault_28) 39 nreadPlace_29) 40 0) 41 (-1)) 42 npathMany_53) (va_up mf 43 gpaths_52) mg) H locs := hw51
      obtain ⟨hp_56, hp_57, hp_58, hp_59⟩ := hp
      have hp_56 : npathMany_53.toInt = r_22.toInt := hp_56
      have hp_57 : nundoable_54.toInt = 0 := hp_57
      have hp_59 : rowsOK nundoable_54.toInt (mi 6).toInt (mf 2) := hp_59
      refine lv_iload_n (pc := 100) E.1 E.2.1 dX12_text_100 rfl (lv_at hl44 0 rfl) ?_
      exact em_i (w1 := (fun (u : Int32 × Int32 × Int32 × Int32 × Int32 × Int32 × Int32 × Int32 × Int32 × Int32 × Int32 × Int32 × Int32 × (Nat → Int32) × Int32 × Int32) => (MW cI cJ M mr (upd (upd (upd (upd (upd (upd (upd (upd (upd (upd (upd (upd (upd (upd (upd mi 0 u.1) 40 u.2.1) 41 u.2.2.1) 22 u.2.2.2.1) 34 u.2.2.2.2.1) 35 u.2.2.2.2.2.1) 21 u.2.2.2.2.2.2.1) 23 u.2.2.2.2.2.2.2.1) 24 u.2.2.2.2.2.2.2.2.1) 25 u.2.2.2.2.2.2.2.2.2.1) 38 u.2.2.2.2.2.2.2.2.2.2.1) 39 u.2.2.2.2.2.2.2.2.2.2.2.1) 33 u.2.2.2.2.2.2.2.2.2.2.2.2.1) 42 u.2.2.2.2.2.2.2.2.2.2.2.2.2.2.1) 3 u.2.2.2.2.2.2.2.2.2.2.2.2.2.2.2) (va_up mf 43 u.2.2.2.2.2.2.2.2.2.2.2.2.2.1) mg))) E hr hlk (0, 0, (-1), nspot_24, 0, 0, 0, nfrom_25, ntoken_26, nvalue_27, nreadFault_28, nreadPlace_29, nwhich_30, gpaths_52, npathMany_53, nundoable_54) hw55 ⟨(by show (0 : Int32).toInt = 0; have k_0 : (0 : Int32).toInt = 0 := (by decide +kernel); have k_1 : (0 : Int32).toInt = 0 := (by decide +kernel); have k_2 : (0 : Int32).toInt = 0 := (by decide +kernel); have k_3 : (0 : Int32).toInt = 0 := (by decide +kernel); have k_4 : (0 : Int32).toInt = 0 := (by decide +kernel); have k_5 : ((-1) : Int32).toInt = -1 := (by decide +kernel); omega), (by show 0 ≤ npathMany_53.toInt; have k_0 : (0 : Int32).toInt = 0 := (by decide +kernel); have k_1 : (0 : Int32).toInt = 0 := (by decide +kernel); have k_2 : (0 : Int32).toInt = 0 := (by decide +kernel); have k_3 : (0 : Int32).toInt = 0 := (by decide +kernel); have k_4 : (0 : Int32).toInt = 0 := (by decide +kernel); have k_5 : ((-1) : Int32).toInt = -1 := (by decide +kernel); omega), (by show npathMany_53.toInt ≤ 40; have k_0 : (0 : Int32).toInt = 0 := (by decide +kernel); have k_1 : (0 : Int32).toInt = 0 := (by decide +kernel); have k_2 : (0 : Int32).toInt = 0 := (by decide +kernel); have k_3 : (0 : Int32).toInt = 0 := (by decide +kernel); have k_4 : (0 : Int32).toInt = 0 := (by decide +kernel); have k_5 : ((-1) : Int32).toInt = -1 := (by decide +kernel); omega), (by show 0 ≤ nundoable_54.toInt; have k_0 : (0 : Int32).toInt = 0 := (by decide +kernel); have k_1 : (0 : Int32).toInt = 0 := (by decide +kernel); have k_2 : (0 : Int32).toInt = 0 := (by decide +kernel); have k_3 : (0 : Int32).toInt = 0 := (by decide +kernel); have k_4 : (0 : Int32).toInt = 0 := (by decide +kernel); have k_5 : ((-1) : Int32).toInt = -1 := (by decide +kernel); omega), (by show nundoable_54.toInt ≤ 6; have k_0 : (0 : Int32).toInt = 0 := (by decide +kernel); have k_1 : (0 : Int32).toInt = 0 := (by decide +kernel); have k_2 : (0 : Int32).toInt = 0 := (by decide +kernel); have k_3 : (0 : Int32).toInt = 0 := (by decide +kernel); have k_4 : (0 : Int32).toInt = 0 := (by decide +kernel); have k_5 : ((-1) : Int32).toInt = -1 := (by decide +kernel); omega), hp_58, hp_59⟩ (Nat.le_of_ble_eq_true rfl) (Nat.le_of_ble_eq_true rfl) dX12_text_101

