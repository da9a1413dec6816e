set_option maxHeartbeats 4000000 in
set_option maxRecDepth 100000 in
theorem s_readsText0 (l : Launch) (D : va_G) (cI cJ : ClassId) (sz M : Nat) (mr : Nat → Nat) (mi : Nat → Int32) (mf : Nat → Nat → Int32) (mg : Nat → Nat → Int64)  (h0 : 0 ≤ (mi 22).toInt) (h1 : (mi 22).toInt ≤ (mi 21).toInt) (h2 : (mi 21).toInt ≤ 400) (h3 : ((mf 26) 153).toInt = 32) (h4 : (mi 35).toInt = 0) (h5 : (mi 34).toInt = 0) (h6 : 0 ≤ ((mf 27) 0).toInt) (h7 : ((mf 27) 0).toInt ≤ 16) (h8 : 0 ≤ ((mf 27) 1).toInt) (h9 : ((mf 27) 1).toInt ≤ 16) (lf_words : (∀ j : Nat, j < 154 → (mf 26) j = w0 j)) (lf_law0 : LW 0 0 (mf 31) (mf 32) (mf 28) (mf 29) (mf 30) ((mf 27) 0).toInt 400) (lf_law1 : LW 16 400 (mf 31) (mf 32) (mf 28) (mf 29) (mf 30) ((mf 27) 1).toInt 400) : Met l yX12_readsText (Cond.code yX12_readsText cX12_readsText 2 (some .int) :: GW) ({ frames := 10, cells := 0, slots := 0, locals := 234 } : Room) (va_Pc [.ref M, .int 0] (PW D cI cJ sz (MW cI cJ M mr mi mf mg) xT)) (va_Qi (fun (r : Int32) (u : Int32 × Int32 × Int32 × Int32 × (Nat → Int32) × (Nat → Int32) × Int32 × Int32 × Int32 × (Nat → Int32) × Int32 × Int32 × (Nat → Int32) × (Nat → Int32) × (Nat → Int32) × Int32) => (u.2.2.2.2.2.2.2.2.2.2.2.2.2.2.2.toInt = 0) ∧ (0 ≤ u.2.2.2.2.2.2.1.toInt) ∧ (u.2.2.2.2.2.2.1.toInt ≤ 400) ∧ (LW 0 0 u.2.2.2.2.1 u.2.2.2.2.2.1 u.2.2.2.2.2.2.2.2.2.2.2.2.1 u.2.2.2.2.2.2.2.2.2.2.2.2.2.1 u.2.2.2.2.2.2.2.2.2.2.2.2.2.2.1 ((mf 27) 0).toInt 400) ∧ (LW 16 400 u.2.2.2.2.1 u.2.2.2.2.2.1 u.2.2.2.2.2.2.2.2.2.2.2.2.1 u.2.2.2.2.2.2.2.2.2.2.2.2.2.1 u.2.2.2.2.2.2.2.2.2.2.2.2.2.2.1 ((mf 27) 1).toInt 400) ∧ ((0 ≤ (r : Int32).toInt → LW 32 800 u.2.2.2.2.1 u.2.2.2.2.2.1 u.2.2.2.2.2.2.2.2.2.2.2.2.1 u.2.2.2.2.2.2.2.2.2.2.2.2.2.1 u.2.2.2.2.2.2.2.2.2.2.2.2.2.2.1 (r : Int32).toInt u.2.2.2.2.2.2.1.toInt)) ∧ ((r = (-1)) ∨ (0 ≤ r.toInt ∧ r.toInt ≤ 16))) (fun u => QW D cI cJ (va_A (MW cI cJ M mr mi mf mg) sz) ((fun (u : Int32 × Int32 × Int32 × Int32 × (Nat → Int32) × (Nat → Int32) × Int32 × Int32 × Int32 × (Nat → Int32) × Int32 × Int32 × (Nat → Int32) × (Nat → Int32) × (Nat → Int32) × Int32) => (MW cI cJ M mr (upd (upd (upd (upd (upd (upd (upd (upd (upd (upd mi 22 u.1) 23 u.2.1) 24 u.2.2.1) 25 u.2.2.2.1) 34 u.2.2.2.2.2.2.1) 38 u.2.2.2.2.2.2.2.1) 39 u.2.2.2.2.2.2.2.2.1) 37 u.2.2.2.2.2.2.2.2.2.2.1) 35 u.2.2.2.2.2.2.2.2.2.2.2.1) 33 u.2.2.2.2.2.2.2.2.2.2.2.2.2.2.2) (va_up (va_up (va_up (va_up (va_up (va_up mf 31 u.2.2.2.2.1) 32 u.2.2.2.2.2.1) 36 u.2.2.2.2.2.2.2.2.2.1) 28 u.2.2.2.2.2.2.2.2.2.2.2.2.1) 29 u.2.2.2.2.2.2.2.2.2.2.2.2.2.1) 30 u.2.2.2.2.2.2.2.2.2.2.2.2.2.2.1) mg)) u)) (va_A (MW cI cJ M mr mi mf mg) sz)) 0 0 (va_A (MW cI cJ M mr mi mf mg) sz) := by
  refine mk_met (y := yX12_readsText) (bytes := cX12_readsText) (maxL := 2) (avs := [.ref M, .int 0]) (WS := (MW cI cJ M mr mi mf mg)) (Qf := fun A => va_Qi (fun (r : Int32) (u : Int32 × Int32 × Int32 × Int32 × (Nat → Int32) × (Nat → Int32) × Int32 × Int32 × Int32 × (Nat → Int32) × Int32 × Int32 × (Nat → Int32) × (Nat → Int32) × (Nat → Int32) × Int32) => (u.2.2.2.2.2.2.2.2.2.2.2.2.2.2.2.toInt = 0) ∧ (0 ≤ u.2.2.2.2.2.2.1.toInt) ∧ (u.2.2.2.2.2.2.1.toInt ≤ 400) ∧ (LW 0 0 u.2.2.2.2.1 u.2.2.2.2.2.1 u.2.2.2.2.2.2.2.2.2.2.2.2.1 u.2.2.2.2.2.2.2.2.2.2.2.2.2.1 u.2.2.2.2.2.2.2.2.2.2.2.2.2.2.1 ((mf 27) 0).toInt 400) ∧ (LW 16 400 u.2.2.2.2.1 u.2.2.2.2.2.1 u.2.2.2.2.2.2.2.2.2.2.2.2.1 u.2.2.2.2.2.2.2.2.2.2.2.2.2.1 u.2.2.2.2.2.2.2.2.2.2.2.2.2.2.1 ((mf 27) 1).toInt 400) ∧ ((0 ≤ (r : Int32).toInt → LW 32 800 u.2.2.2.2.1 u.2.2.2.2.2.1 u.2.2.2.2.2.2.2.2.2.2.2.2.1 u.2.2.2.2.2.2.2.2.2.2.2.2.2.1 u.2.2.2.2.2.2.2.2.2.2.2.2.2.2.1 (r : Int32).toInt u.2.2.2.2.2.2.1.toInt)) ∧ ((r = (-1)) ∨ (0 ≤ r.toInt ∧ r.toInt ≤ 16))) (fun u => QW D cI cJ A ((fun (u : Int32 × Int32 × Int32 × Int32 × (Nat → Int32) × (Nat → Int32) × Int32 × Int32 × Int32 × (Nat → Int32) × Int32 × Int32 × (Nat → Int32) × (Nat → Int32) × (Nat → Int32) × Int32) => (MW cI cJ M mr (upd (upd (upd (upd (upd (upd (upd (upd (upd (upd mi 22 u.1) 23 u.2.1) 24 u.2.2.1) 25 u.2.2.2.1) 34 u.2.2.2.2.2.2.1) 38 u.2.2.2.2.2.2.2.1) 39 u.2.2.2.2.2.2.2.2.1) 37 u.2.2.2.2.2.2.2.2.2.2.1) 35 u.2.2.2.2.2.2.2.2.2.2.2.1) 33 u.2.2.2.2.2.2.2.2.2.2.2.2.2.2.2) (va_up (va_up (va_up (va_up (va_up (va_up mf 31 u.2.2.2.2.1) 32 u.2.2.2.2.2.1) 36 u.2.2.2.2.2.2.2.2.2.1) 28 u.2.2.2.2.2.2.2.2.2.2.2.2.1) 29 u.2.2.2.2.2.2.2.2.2.2.2.2.2.1) 30 u.2.2.2.2.2.2.2.2.2.2.2.2.2.2.1) mg)) u)) A) (by decide) (Nat.le_of_ble_eq_true rfl) ?_
  intro p e s m below meth c A ls E hr hlk hnm hX hw1 hl2
  have hl3 : lv_has ls 2 [(0, .ref M), (1, .int 0)] := hl2
  refine lv_aload_n (pc := 0) E.1 E.2.1 dX12_readsText_0 rfl (lv_at hl3 0 rfl) ?_
  refine lv_iload_n (pc := 1) E.1 E.2.1 dX12_readsText_1 rfl (lv_at hl3 1 rfl) ?_
  refine x_put (pc := 2) (T := TX12) (N := 70) (ci := 12) (ws' := (MW cI cJ M mr (upd mi 33 0) mf mg)) E hw1 inX12 tyX12_ok nmX12 0 33 q_1432 rfl rfl (by decide) rfl rfl rfl rfl (Nat.le_of_ble_eq_true rfl) rfl dX12_readsText_2 (fun H locs hw4 => ?_)
  refine lv_aload_n (pc := 5) E.1 E.2.1 dX12_readsText_5 rfl (lv_at hl3 0 rfl) ?_
  refine cm_v (pc := 6) hw4 (rn_M (As := []) (rest := []) E hw4 (s_reads2 l D cI cJ _ M mr (upd mi 33 0) mf mg h0 h1 h2 h3 (show (∀ j : Nat, j < 154 → (mf 26) j = w0 j) from lf_words)) (gdV q_1666 q_1668 q_52 q_162 q_1669) hdV_X12_reads ⟨rfl, rfl⟩ ⟨(Nat.le_of_ble_eq_true rfl), (Nat.le_of_ble_eq_true rfl)⟩ ⟨(Nat.le_of_ble_eq_true rfl), (Nat.le_of_ble_eq_true rfl)⟩ 12 rfl rfl rfl rfl hl3.1 rfl (Nat.le_of_ble_eq_true rfl) dX12_readsText_6) (fun u_5 H1 locs hp hw7 => ?_)
  obtain ⟨nspot_8, nfrom_9, ntoken_10, nvalue_11⟩ := u_5
  generalize H1 = H at hw7 ⊢
  have hw12 : WD D A s.heap (MW cI cJ M mr (upd (upd (upd (upd (upd mi 22 nspot_8) 23 nfrom_9) 24 ntoken_10) 25 nvalue_11) 33 0) mf mg) H locs := hw7
  obtain ⟨hp_13, hp_14, hp_15, hp_16, hp_17, hp_18, hp_19, hp_20⟩ := hp
  have hp_13 : 0 ≤ nfrom_9.toInt := hp_13
  have hp_14 : nfrom_9.toInt ≤ nspot_8.toInt := hp_14
  have hp_15 : nspot_8.toInt ≤ (mi 21).toInt := hp_15
  have hp_16 : 0 ≤ ntoken_10.toInt := hp_16
  have hp_17 : ntoken_10.toInt ≤ 4 := hp_17
  have hp_18 : ntoken_10.toInt ≤ 4 * nspot_8.toInt - 4 * nfrom_9.toInt := hp_18
  have hp_19 : (mi 22).toInt ≤ nfrom_9.toInt := hp_19
  have hp_20 : AGN ntoken_10.toInt nvalue_11.toInt nfrom_9.toInt nspot_8.toInt := hp_20
  refine lv_iload_n (pc := 9) E.1 E.2.1 dX12_readsText_9 rfl (lv_at hl3 1 rfl) ?_
  refine lv_iconst (pc := 10) (v := 2) E.1 E.2.1 dX12_readsText_10 (by decide +kernel) ?_
  refine lv_icmp_ne (pc := 11) (tgt := 19) E.1 E.2.1 dX12_readsText_11 (by decide) (fun _ => ?_) (fun c_21 => absurd c_21 (mneE (a := 0) (b := 2) (by decide +kernel) (by decide +kernel) (by omega)))
  refine lv_iload_n (pc := 19) E.1 E.2.1 dX12_readsText_19 rfl (lv_at hl3 1 rfl) ?_
  refine lv_iconst (pc := 20) (v := 3) E.1 E.2.1 dX12_readsText_20 (by decide +kernel) ?_
  refine lv_icmp_ne (pc := 21) (tgt := 29) E.1 E.2.1 dX12_readsText_21 (by decide) (fun _ => ?_) (fun c_22 => absurd c_22 (mneE (a := 0) (b := 3) (by decide +kernel) (by decide +kernel) (by omega)))
  refine lv_iload_n (pc := 29) E.1 E.2.1 dX12_readsText_29 rfl (lv_at hl3 1 rfl) ?_
  refine lv_iconst (pc := 30) (v := 4) E.1 E.2.1 dX12_readsText_30 (by decide +kernel) ?_
  refine lv_icmp_ne (pc := 31) (tgt := 41) E.1 E.2.1 dX12_readsText_31 (by decide) (fun _ => ?_) (fun c_23 => absurd c_23 (mneE (a := 0) (b := 4) (by decide +kernel) (by decide +kernel) (by omega)))
  refine lv_aload_n (pc := 41) E.1 E.2.1 dX12_readsText_41 rfl (lv_at hl3 0 rfl) ?_
  refine cm_i (pc := 42) hw12 (rn_M (As := []) (rest := []) E hw12 (s_readLaw l D cI cJ _ M mr (upd (upd (upd (upd (upd mi 22 nspot_8) 23 nfrom_9) 24 ntoken_10) 25 nvalue_11) 33 0) mf mg hp_13 hp_14 hp_15 h2 hp_16 hp_17 hp_18 h3 (by show 0 ≤ (mi 34).toInt; omega) (by show (mi 34).toInt ≤ nfrom_9.toInt; omega) (by show 0 ≤ (mi 35).toInt ∧ (mi 35).toInt ≤ 8; omega) h6 h7 h8 h9 (show LW 0 0 (mf 31) (mf 32) (mf 28) (mf 29) (mf 30) ((mf 27) 0).toInt 400 from lf_law0) (show LW 16 400 (mf 31) (mf 32) (mf 28) (mf 29) (mf 30) ((mf 27) 1).toInt 400 from lf_law1)) (gdV q_1762 q_1764 q_76 q_162 q_1765) hdV_X12_readLaw ⟨rfl, rfl⟩ ⟨(Nat.le_of_ble_eq_true rfl), (Nat.le_of_ble_eq_true rfl)⟩ ⟨(Nat.le_of_ble_eq_true rfl), (Nat.le_of_ble_eq_true rfl)⟩ 12 rfl rfl rfl rfl hl3.1 rfl (Nat.le_of_ble_eq_true rfl) dX12_readsText_42) (fun r_25 u_24 H1 locs hp hw26 => ?_)
  obtain ⟨nspot_27, nfrom_28, ntoken_29, nvalue_30, gop_31, garg_32, ncodes_33, nreadFault_34, nreadPlace_35, gpending_36, npendings_37, nopen_38, glineFrom_39, glineWhen_40, glineTo_41⟩ := u_24
  generalize H1 = H at hw26 ⊢
  have hw42 : WD D A s.heap (MW cI cJ M mr (upd (upd (upd (upd (upd (upd (upd (upd (upd (upd mi 22 nspot_27) 23 nfrom_28) 24 ntoken_29) 25 nvalue_30) 33 0) 34 ncodes_33) 35 nopen_38) 37 npendings_37) 38 nreadFault_34) 39 nreadPlace_35) (va_up (va_up (va_up (va_up (va_up (va_up mf 28 glineFrom_39) 29 glineWhen_40) 30 glineTo_41) 31 gop_31) 32 garg_32) 36 gpending_36) mg) H locs := hw26
  obtain ⟨hp_43, hp_44, hp_45, hp_46, hp_47, hp_48, hp_49, hp_50, hp_51, hp_52, hp_53, hp_54, hp_55, hp_56⟩ := hp
  have hp_43 : 0 ≤ nfrom_28.toInt := hp_43
  have hp_44 : nfrom_28.toInt ≤ nspot_27.toInt := hp_44
  have hp_45 : nspot_27.toInt ≤ (mi 21).toInt := hp_45
  have hp_46 : 0 ≤ ntoken_29.toInt := hp_46
  have hp_47 : ntoken_29.toInt ≤ 4 := hp_47
  have hp_48 : ntoken_29.toInt ≤ 4 * nspot_27.toInt - 4 * nfrom_28.toInt := hp_48
  have hp_49 : 0 ≤ ncodes_33.toInt := hp_49
  have hp_50 : ncodes_33.toInt ≤ nfrom_28.toInt := hp_50
  have hp_51 : 0 ≤ nopen_38.toInt := hp_51
  have hp_52 : nopen_38.toInt ≤ 8 := hp_52
  have hp_53 : LW 0 0 gop_31 garg_32 glineFrom_39 glineWhen_40 glineTo_41 ((mf 27) 0).toInt 400 := hp_53
  have hp_54 : LW 16 400 gop_31 garg_32 glineFrom_39 glineWhen_40 glineTo_41 ((mf 27) 1).toInt 400 := hp_54
  have hp_55 : (0 ≤ (r_25 : Int32).toInt → LW 32 800 gop_31 garg_32 glineFrom_39 glineWhen_40 glineTo_41 (r_25 : Int32).toInt ncodes_33.toInt) := hp_55
  rcases hp_56 with rfl | ⟨ha_57, ha_58⟩
  · skip
    exact em_i (w1 := (fun (u : Int32 × Int32 × Int32 × Int32 × (Nat → Int32) × (Nat → Int32) × Int32 × Int32 × Int32 × (Nat → Int32) × Int32 × Int32 × (Nat → Int32) × (Nat → Int32) × (Nat → Int32) × Int32) => (MW cI cJ M mr (upd (upd (upd (upd (upd (upd (upd (upd (upd (upd mi 22 u.1) 23 u.2.1) 24 u.2.2.1) 25 u.2.2.2.1) 34 u.2.2.2.2.2.2.1) 38 u.2.2.2.2.2.2.2.1) 39 u.2.2.2.2.2.2.2.2.1) 37 u.2.2.2.2.2.2.2.2.2.2.1) 35 u.2.2.2.2.2.2.2.2.2.2.2.1) 33 u.2.2.2.2.2.2.2.2.2.2.2.2.2.2.2) (va_up (va_up (va_up (va_up (va_up (va_up mf 31 u.2.2.2.2.1) 32 u.2.2.2.2.2.1) 36 u.2.2.2.2.2.2.2.2.2.1) 28 u.2.2.2.2.2.2.2.2.2.2.2.2.1) 29 u.2.2.2.2.2.2.2.2.2.2.2.2.2.1) 30 u.2.2.2.2.2.2.2.2.2.2.2.2.2.2.1) mg))) E hr hlk (nspot_27, nfrom_28, ntoken_29, nvalue_30, gop_31, garg_32, ncodes_33, nreadFault_34, nreadPlace_35, gpending_36, npendings_37, nopen_38, glineFrom_39, glineWhen_40, glineTo_41, 0) hw42 ⟨(by show (0 : Int32).toInt = 0; have k_0 : (0 : Int32).toInt = 0 := (by decide +kernel); have k_1 : (0 : Int32).toInt = 0 := (by decide +kernel); have k_2 : ((-1) : Int32).toInt = -1 := (by decide +kernel); omega), hp_49, (by show ncodes_33.toInt ≤ 400; have k_0 : (0 : Int32).toInt = 0 := (by decide +kernel); have k_1 : (0 : Int32).toInt = 0 := (by decide +kernel); have k_2 : ((-1) : Int32).toInt = -1 := (by decide +kernel); omega), hp_53, hp_54, (show (0 ≤ ((-1) : Int32).toInt → LW 32 800 gop_31 garg_32 glineFrom_39 glineWhen_40 glineTo_41 ((-1) : Int32).toInt ncodes_33.toInt) from (fun h => absurd h (by decide +kernel))), (Or.inl rfl)⟩ (Nat.le_of_ble_eq_true rfl) (Nat.le_of_ble_eq_true rfl) dX12_readsText_45
  · skip
    have ha_57 : 0 ≤ r_25.toInt := ha_57
    have ha_58 : r_25.toInt ≤ 16 := ha_58
    exact em_i (w1 := (fun (u : Int32 × Int32 × Int32 × Int32 × (Nat → Int32) × (Nat → Int32) × Int32 × Int32 × Int32 × (Nat → Int32) × Int32 × Int32 × (Nat → Int32) × (Nat → Int32) × (Nat → Int32) × Int32) => (MW cI cJ M mr (upd (upd (upd (upd (upd (upd (upd (upd (upd (upd mi 22 u.1) 23 u.2.1) 24 u.2.2.1) 25 u.2.2.2.1) 34 u.2.2.2.2.2.2.1) 38 u.2.2.2.2.2.2.2.1) 39 u.2.2.2.2.2.2.2.2.1) 37 u.2.2.2.2.2.2.2.2.2.2.1) 35 u.2.2.2.2.2.2.2.2.2.2.2.1) 33 u.2.2.2.2.2.2.2.2.2.2.2.2.2.2.2) (va_up (va_up (va_up (va_up (va_up (va_up mf 31 u.2.2.2.2.1) 32 u.2.2.2.2.2.1) 36 u.2.2.2.2.2.2.2.2.2.1) 28 u.2.2.2.2.2.2.2.2.2.2.2.2.1) 29 u.2.2.2.2.2.2.2.2.2.2.2.2.2.1) 30 u.2.2.2.2.2.2.2.2.2.2.2.2.2.2.1) mg))) E hr hlk (nspot_27, nfrom_28, ntoken_29, nvalue_30, gop_31, garg_32, ncodes_33, nreadFault_34, nreadPlace_35, gpending_36, npendings_37, nopen_38, glineFrom_39, glineWhen_40, glineTo_41, 0) hw42 ⟨(by show (0 : Int32).toInt = 0; have k_0 : (0 : Int32).toInt = 0 := (by decide +kernel); have k_1 : (0 : Int32).toInt = 0 := (by decide +kernel); omega), hp_49, (by show ncodes_33.toInt ≤ 400; have k_0 : (0 : Int32).toInt = 0 := (by decide +kernel); have k_1 : (0 : Int32).toInt = 0 := (by decide +kernel); omega), hp_53, hp_54, (show (0 ≤ (r_25 : Int32).toInt → LW 32 800 gop_31 garg_32 glineFrom_39 glineWhen_40 glineTo_41 (r_25 : Int32).toInt ncodes_33.toInt) from hp_55), (Or.inr (⟨(by show 0 ≤ r_25.toInt; omega), (by show r_25.toInt ≤ 16; omega)⟩))⟩ (Nat.le_of_ble_eq_true rfl) (Nat.le_of_ble_eq_true rfl) dX12_readsText_45
set_option maxHeartbeats 4000000 in
set_option maxRecDepth 100000 in
theorem s_readsText1 (l : Launch) (D : va_G) (cI cJ : ClassId) (sz M : Nat) (mr : Nat → Nat) (mi : Nat → Int32) (mf : Nat → Nat → Int32) (mg : Nat → Nat → Int64)  (h0 : 0 ≤ (mi 22).toInt) (h1 : (mi 22).toInt ≤ (mi 21).toInt) (h2 : (mi 21).toInt ≤ 400) (h3 : ((mf 26) 153).toInt = 32) (h4 : (mi 35).toInt = 0) (h5 : (mi 34).toInt = 0) (h6 : 0 ≤ ((mf 27) 0).toInt) (h7 : ((mf 27) 0).toInt ≤ 16) (h8 : 0 ≤ ((mf 27) 1).toInt) (h9 : ((mf 27) 1).toInt ≤ 16) (lf_words : (∀ j : Nat, j < 154 → (mf 26) j = w0 j)) (lf_law0 : LW 0 0 (mf 31) (mf 32) (mf 28) (mf 29) (mf 30) ((mf 27) 0).toInt 400) (lf_law1 : LW 16 400 (mf 31) (mf 32) (mf 28) (mf 29) (mf 30) ((mf 27) 1).toInt 400) : Met l yX12_readsText (Cond.code yX12_readsText cX12_readsText 2 (some .int) :: GW) ({ frames := 10, cells := 0, slots := 0, locals := 234 } : Room) (va_Pc [.ref M, .int 1] (PW D cI cJ sz (MW cI cJ M mr mi mf mg) xT)) (va_Qi (fun (r : Int32) (u : Int32 × Int32 × Int32 × Int32 × (Nat → Int32) × (Nat → Int32) × Int32 × Int32 × Int32 × (Nat → Int32) × Int32 × Int32 × (Nat → Int32) × (Nat → Int32) × (Nat → Int32) × Int32) => (u.2.2.2.2.2.2.2.2.2.2.2.2.2.2.2.toInt = 1) ∧ (0 ≤ u.2.2.2.2.2.2.1.toInt) ∧ (u.2.2.2.2.2.2.1.toInt ≤ 400) ∧ (LW 0 0 u.2.2.2.2.1 u.2.2.2.2.2.1 u.2.2.2.2.2.2.2.2.2.2.2.2.1 u.2.2.2.2.2.2.2.2.2.2.2.2.2.1 u.2.2.2.2.2.2.2.2.2.2.2.2.2.2.1 ((mf 27) 0).toInt 400) ∧ (LW 16 400 u.2.2.2.2.1 u.2.2.2.2.2.1 u.2.2.2.2.2.2.2.2.2.2.2.2.1 u.2.2.2.2.2.2.2.2.2.2.2.2.2.1 u.2.2.2.2.2.2.2.2.2.2.2.2.2.2.1 ((mf 27) 1).toInt 400) ∧ ((0 ≤ (r : Int32).toInt → LW 32 800 u.2.2.2.2.1 u.2.2.2.2.2.1 u.2.2.2.2.2.2.2.2.2.2.2.2.1 u.2.2.2.2.2.2.2.2.2.2.2.2.2.1 u.2.2.2.2.2.2.2.2.2.2.2.2.2.2.1 (r : Int32).toInt u.2.2.2.2.2.2.1.toInt)) ∧ ((r = (-1)) ∨ (0 ≤ r.toInt ∧ r.toInt ≤ 16))) (fun u => QW D cI cJ (va_A (MW cI cJ M mr mi mf mg) sz) ((fun (u : Int32 × Int32 × Int32 × Int32 × (Nat → Int32) × (Nat → Int32) × Int32 × Int32 × Int32 × (Nat → Int32) × Int32 × Int32 × (Nat → Int32) × (Nat → Int32) × (Nat → Int32) × Int32) => (MW cI cJ M mr (upd (upd (upd (upd (upd (upd (upd (upd (upd (upd mi 22 u.1) 23 u.2.1) 24 u.2.2.1) 25 u.2.2.2.1) 34 u.2.2.2.2.2.2.1) 38 u.2.2.2.2.2.2.2.1) 39 u.2.2.2.2.2.2.2.2.1) 37 u.2.2.2.2.2.2.2.2.2.2.1) 35 u.2.2.2.2.2.2.2.2.2.2.2.1) 33 u.2.2.2.2.2.2.2.2.2.2.2.2.2.2.2) (va_up (va_up (va_up (va_up (va_up (va_up mf 31 u.2.2.2.2.1) 32 u.2.2.2.2.2.1) 36 u.2.2.2.2.2.2.2.2.2.1) 28 u.2.2.2.2.2.2.2.2.2.2.2.2.1) 29 u.2.2.2.2.2.2.2.2.2.2.2.2.2.1) 30 u.2.2.2.2.2.2.2.2.2.2.2.2.2.2.1) mg)) u)) (va_A (MW cI cJ M mr mi mf mg) sz)) 0 0 (va_A (MW cI cJ M mr mi mf mg) sz) := by
  refine mk_met (y := yX12_readsText) (bytes := cX12_readsText) (maxL := 2) (avs := [.ref M, .int 1]) (WS := (MW cI cJ M mr mi mf mg)) (Qf := fun A => va_Qi (fun (r : Int32) (u : Int32 × Int32 × Int32 × Int32 × (Nat → Int32) × (Nat → Int32) × Int32 × Int32 × Int32 × (Nat → Int32) × Int32 × Int32 × (Nat → Int32) × (Nat → Int32) × (Nat → Int32) × Int32) => (u.2.2.2.2.2.2.2.2.2.2.2.2.2.2.2.toInt = 1) ∧ (0 ≤ u.2.2.2.2.2.2.1.toInt) ∧ (u.2.2.2.2.2.2.1.toInt ≤ 400) ∧ (LW 0 0 u.2.2.2.2.1 u.2.2.2.2.2.1 u.2.2.2.2.2.2.2.2.2.2.2.2.1 u.2.2.2.2.2.2.2.2.2.2.2.2.2.1 u.2.2.2.2.2.2.2.2.2.2.2.2.2.2.1 ((mf 27) 0).toInt 400) ∧ (LW 16 400 u.2.2.2.2.1 u.2.2.2.2.2.1 u.2.2.2.2.2.2.2.2.2.2.2.2.1 u.2.2.2.2.2.2.2.2.2.2.2.2.2.1 u.2.2.2.2.2.2.2.2.2.2.2.2.2.2.1 ((mf 27) 1).toInt 400) ∧ ((0 ≤ (r : Int32).toInt → LW 32 800 u.2.2.2.2.1 u.2.2.2.2.2.1 u.2.2.2.2.2.2.2.2.2.2.2.2.1 u.2.2.2.2.2.2.2.2.2.2.2.2.2.1 u.2.2.2.2.2.2.2.2.2.2.2.2.2.2.1 (r : Int32).toInt u.2.2.2.2.2.2.1.toInt)) ∧ ((r = (-1)) ∨ (0 ≤ r.toInt ∧ r.toInt ≤ 16))) (fun u => QW D cI cJ A ((fun (u : Int32 × Int32 × Int32 × Int32 × (Nat → Int32) × (Nat → Int32) × Int32 × Int32 × Int32 × (Nat → Int32) × Int32 × Int32 × (Nat → Int32) × (Nat → Int32) × (Nat → Int32) × Int32) => (MW cI cJ M mr (upd (upd (upd (upd (upd (upd (upd (upd (upd (upd mi 22 u.1) 23 u.2.1) 24 u.2.2.1) 25 u.2.2.2.1) 34 u.2.2.2.2.2.2.1) 38 u.2.2.2.2.2.2.2.1) 39 u.2.2.2.2.2.2.2.2.1) 37 u.2.2.2.2.2.2.2.2.2.2.1) 35 u.2.2.2.2.2.2.2.2.2.2.2.1) 33 u.2.2.2.2.2.2.2.2.2.2.2.2.2.2.2) (va_up (va_up (va_up (va_up (va_up (va_up mf 31 u.2.2.2.2.1) 32 u.2.2.2.2.2.1) 36 u.2.2.2.2.2.2.2.2.2.1) 28 u.2.2.2.2.2.2.2.2.2.2.2.2.1) 29 u.2.2.2.2.2.2.2.2.2.2.2.2.2.1) 30 u.2.2.2.2.2.2.2.2.2.2.2.2.2.2.1) mg)) u)) A) (by decide) (Nat.le_of_ble_eq_true rfl) ?_
  intro p e s m below meth c A ls E hr hlk hnm hX hw1 hl2
  have hl3 : lv_has ls 2 [(0, .ref M), (1, .int 1)] := hl2
  refine lv_aload_n (pc := 0) E.1 E.2.1 dX12_readsText_0 rfl (lv_at hl3 0 rfl) ?_
  refine lv_iload_n (pc := 1) E.1 E.2.1 dX12_readsText_1 rfl (lv_at hl3 1 rfl) ?_
  refine x_put (pc := 2) (T := TX12) (N := 70) (ci := 12) (ws' := (MW cI cJ M mr (upd mi 33 1) mf mg)) E hw1 inX12 tyX12_ok nmX12 0 33 q_1432 rfl rfl (by decide) rfl rfl rfl rfl (Nat.le_of_ble_eq_true rfl) rfl dX12_readsText_2 (fun H locs hw4 => ?_)
  refine lv_aload_n (pc := 5) E.1 E.2.1 dX12_readsText_5 rfl (lv_at hl3 0 rfl) ?_
  refine cm_v (pc := 6) hw4 (rn_M (As := []) (rest := []) E hw4 (s_reads2 l D cI cJ _ M mr (upd mi 33 1) mf mg h0 h1 h2 h3 (show (∀ j : Nat, j < 154 → (mf 26) j = w0 j) from lf_words)) (gdV q_1666 q_1668 q_52 q_162 q_1669) hdV_X12_reads ⟨rfl, rfl⟩ ⟨(Nat.le_of_ble_eq_true rfl), (Nat.le_of_ble_eq_true rfl)⟩ ⟨(Nat.le_of_ble_eq_true rfl), (Nat.le_of_ble_eq_true rfl)⟩ 12 rfl rfl rfl rfl hl3.1 rfl (Nat.le_of_ble_eq_true rfl) dX12_readsText_6) (fun u_5 H1 locs hp hw7 => ?_)
  obtain ⟨nspot_8, nfrom_9, ntoken_10, nvalue_11⟩ := u_5
  generalize H1 = H at hw7 ⊢
  have hw12 : WD D A s.heap (MW cI cJ M mr (upd (upd (upd (upd (upd mi 22 nspot_8) 23 nfrom_9) 24 ntoken_10) 25 nvalue_11) 33 1) mf mg) H locs := hw7
  obtain ⟨hp_13, hp_14, hp_15, hp_16, hp_17, hp_18, hp_19, hp_20⟩ := hp
  have hp_13 : 0 ≤ nfrom_9.toInt := hp_13
  have hp_14 : nfrom_9.toInt ≤ nspot_8.toInt := hp_14
  have hp_15 : nspot_8.toInt ≤ (mi 21).toInt := hp_15
  have hp_16 : 0 ≤ ntoken_10.toInt := hp_16
  have hp_17 : ntoken_10.toInt ≤ 4 := hp_17
  have hp_18 : ntoken_10.toInt ≤ 4 * nspot_8.toInt - 4 * nfrom_9.toInt := hp_18
  have hp_19 : (mi 22).toInt ≤ nfrom_9.toInt := hp_19
  have hp_20 : AGN ntoken_10.toInt nvalue_11.toInt nfrom_9.toInt nspot_8.toInt := hp_20
  refine lv_iload_n (pc := 9) E.1 E.2.1 dX12_readsText_9 rfl (lv_at hl3 1 rfl) ?_
  refine lv_iconst (pc := 10) (v := 2) E.1 E.2.1 dX12_readsText_10 (by decide +kernel) ?_
  refine lv_icmp_ne (pc := 11) (tgt := 19) E.1 E.2.1 dX12_readsText_11 (by decide) (fun _ => ?_) (fun c_21 => absurd c_21 (mneE (a := 1) (b := 2) (by decide +kernel) (by decide +kernel) (by omega)))
  refine lv_iload_n (pc := 19) E.1 E.2.1 dX12_readsText_19 rfl (lv_at hl3 1 rfl) ?_
  refine lv_iconst (pc := 20) (v := 3) E.1 E.2.1 dX12_readsText_20 (by decide +kernel) ?_
  refine lv_icmp_ne (pc := 21) (tgt := 29) E.1 E.2.1 dX12_readsText_21 (by decide) (fun _ => ?_) (fun c_22 => absurd c_22 (mneE (a := 1) (b := 3) (by decide +kernel) (by decide +kernel) (by omega)))
  refine lv_iload_n (pc := 29) E.1 E.2.1 dX12_readsText_29 rfl (lv_at hl3 1 rfl) ?_
  refine lv_iconst (pc := 30) (v := 4) E.1 E.2.1 dX12_readsText_30 (by decide +kernel) ?_
  refine lv_icmp_ne (pc := 31) (tgt := 41) E.1 E.2.1 dX12_readsText_31 (by decide) (fun _ => ?_) (fun c_23 => absurd c_23 (mneE (a := 1) (b := 4) (by decide +kernel) (by decide +kernel) (by omega)))
  refine lv_aload_n (pc := 41) E.1 E.2.1 dX12_readsText_41 rfl (lv_at hl3 0 rfl) ?_
  refine cm_i (pc := 42) hw12 (rn_M (As := []) (rest := []) E hw12 (s_readLaw l D cI cJ _ M mr (upd (upd (upd (upd (upd mi 22 nspot_8) 23 nfrom_9) 24 ntoken_10) 25 nvalue_11) 33 1) mf mg hp_13 hp_14 hp_15 h2 hp_16 hp_17 hp_18 h3 (by show 0 ≤ (mi 34).toInt; omega) (by show (mi 34).toInt ≤ nfrom_9.toInt; omega) (by show 0 ≤ (mi 35).toInt ∧ (mi 35).toInt ≤ 8; omega) h6 h7 h8 h9 (show LW 0 0 (mf 31) (mf 32) (mf 28) (mf 29) (mf 30) ((mf 27) 0).toInt 400 from lf_law0) (show LW 16 400 (mf 31) (mf 32) (mf 28) (mf 29) (mf 30) ((mf 27) 1).toInt 400 from lf_law1)) (gdV q_1762 q_1764 q_76 q_162 q_1765) hdV_X12_readLaw ⟨rfl, rfl⟩ ⟨(Nat.le_of_ble_eq_true rfl), (Nat.le_of_ble_eq_true rfl)⟩ ⟨(Nat.le_of_ble_eq_true rfl), (Nat.le_of_ble_eq_true rfl)⟩ 12 rfl rfl rfl rfl hl3.1 rfl (Nat.le_of_ble_eq_true rfl) dX12_readsText_42) (fun r_25 u_24 H1 locs hp hw26 => ?_)
  obtain ⟨nspot_27, nfrom_28, ntoken_29, nvalue_30, gop_31, garg_32, ncodes_33, nreadFault_34, nreadPlace_35, gpending_36, npendings_37, nopen_38, glineFrom_39, glineWhen_40, glineTo_41⟩ := u_24
  generalize H1 = H at hw26 ⊢
  have hw42 : WD D A s.heap (MW cI cJ M mr (upd (upd (upd (upd (upd (upd (upd (upd (upd (upd mi 22 nspot_27) 23 nfrom_28) 24 ntoken_29) 25 nvalue_30) 33 1) 34 ncodes_33) 35 nopen_38) 37 npendings_37) 38 nreadFault_34) 39 nreadPlace_35) (va_up (va_up (va_up (va_up (va_up (va_up mf 28 glineFrom_39) 29 glineWhen_40) 30 glineTo_41) 31 gop_31) 32 garg_32) 36 gpending_36) mg) H locs := hw26
  obtain ⟨hp_43, hp_44, hp_45, hp_46, hp_47, hp_48, hp_49, hp_50, hp_51, hp_52, hp_53, hp_54, hp_55, hp_56⟩ := hp
  have hp_43 : 0 ≤ nfrom_28.toInt := hp_43
  have hp_44 : nfrom_28.toInt ≤ nspot_27.toInt := hp_44
  have hp_45 : nspot_27.toInt ≤ (mi 21).toInt := hp_45
  have hp_46 : 0 ≤ ntoken_29.toInt := hp_46
  have hp_47 : ntoken_29.toInt ≤ 4 := hp_47
  have hp_48 : ntoken_29.toInt ≤ 4 * nspot_27.toInt - 4 * nfrom_28.toInt := hp_48
  have hp_49 : 0 ≤ ncodes_33.toInt := hp_49
  have hp_50 : ncodes_33.toInt ≤ nfrom_28.toInt := hp_50
  have hp_51 : 0 ≤ nopen_38.toInt := hp_51
  have hp_52 : nopen_38.toInt ≤ 8 := hp_52
  have hp_53 : LW 0 0 gop_31 garg_32 glineFrom_39 glineWhen_40 glineTo_41 ((mf 27) 0).toInt 400 := hp_53
  have hp_54 : LW 16 400 gop_31 garg_32 glineFrom_39 glineWhen_40 glineTo_41 ((mf 27) 1).toInt 400 := hp_54
  have hp_55 : (0 ≤ (r_25 : Int32).toInt → LW 32 800 gop_31 garg_32 glineFrom_39 glineWhen_40 glineTo_41 (r_25 : Int32).toInt ncodes_33.toInt) := hp_55
  rcases hp_56 with rfl | ⟨ha_57, ha_58⟩
  · skip
    exact em_i (w1 := (fun (u : Int32 × Int32 × Int32 × Int32 × (Nat → Int32) × (Nat → Int32) × Int32 × Int32 × Int32 × (Nat → Int32) × Int32 × Int32 × (Nat → Int32) × (Nat → Int32) × (Nat → Int32) × Int32) => (MW cI cJ M mr (upd (upd (upd (upd (upd (upd (upd (upd (upd (upd mi 22 u.1) 23 u.2.1) 24 u.2.2.1) 25 u.2.2.2.1) 34 u.2.2.2.2.2.2.1) 38 u.2.2.2.2.2.2.2.1) 39 u.2.2.2.2.2.2.2.2.1) 37 u.2.2.2.2.2.2.2.2.2.2.1) 35 u.2.2.2.2.2.2.2.2.2.2.2.1) 33 u.2.2.2.2.2.2.2.2.2.2.2.2.2.2.2) (va_up (va_up (va_up (va_up (va_up (va_up mf 31 u.2.2.2.2.1) 32 u.2.2.2.2.2.1) 36 u.2.2.2.2.2.2.2.2.2.1) 28 u.2.2.2.2.2.2.2.2.2.2.2.2.1) 29 u.2.2.2.2.2.2.2.2.2.2.2.2.2.1) 30 u.2.2.2.2.2.2.2.2.2.2.2.2.2.2.1) mg))) E hr hlk (nspot_27, nfrom_28, ntoken_29, nvalue_30, gop_31, garg_32, ncodes_33, nreadFault_34, nreadPlace_35, gpending_36, npendings_37, nopen_38, glineFrom_39, glineWhen_40, glineTo_41, 1) hw42 ⟨(by show (1 : Int32).toInt = 1; have k_0 : (1 : Int32).toInt = 1 := (by decide +kernel); have k_1 : (1 : Int32).toInt = 1 := (by decide +kernel); have k_2 : ((-1) : Int32).toInt = -1 := (by decide +kernel); omega), hp_49, (by show ncodes_33.toInt ≤ 400; have k_0 : (1 : Int32).toInt = 1 := (by decide +kernel); have k_1 : (1 : Int32).toInt = 1 := (by decide +kernel); have k_2 : ((-1) : Int32).toInt = -1 := (by decide +kernel); omega), hp_53, hp_54, (show (0 ≤ ((-1) : Int32).toInt → LW 32 800 gop_31 garg_32 glineFrom_39 glineWhen_40 glineTo_41 ((-1) : Int32).toInt ncodes_33.toInt) from (fun h => absurd h (by decide +kernel))), (Or.inl rfl)⟩ (Nat.le_of_ble_eq_true rfl) (Nat.le_of_ble_eq_true rfl) dX12_readsText_45
  · skip
    have ha_57 : 0 ≤ r_25.toInt := ha_57
    have ha_58 : r_25.toInt ≤ 16 := ha_58
    exact em_i (w1 := (fun (u : Int32 × Int32 × Int32 × Int32 × (Nat → Int32) × (Nat → Int32) × Int32 × Int32 × Int32 × (Nat → Int32) × Int32 × Int32 × (Nat → Int32) × (Nat → Int32) × (Nat → Int32) × Int32) => (MW cI cJ M mr (upd (upd (upd (upd (upd (upd (upd (upd (upd (upd mi 22 u.1) 23 u.2.1) 24 u.2.2.1) 25 u.2.2.2.1) 34 u.2.2.2.2.2.2.1) 38 u.2.2.2.2.2.2.2.1) 39 u.2.2.2.2.2.2.2.2.1) 37 u.2.2.2.2.2.2.2.2.2.2.1) 35 u.2.2.2.2.2.2.2.2.2.2.2.1) 33 u.2.2.2.2.2.2.2.2.2.2.2.2.2.2.2) (va_up (va_up (va_up (va_up (va_up (va_up mf 31 u.2.2.2.2.1) 32 u.2.2.2.2.2.1) 36 u.2.2.2.2.2.2.2.2.2.1) 28 u.2.2.2.2.2.2.2.2.2.2.2.2.1) 29 u.2.2.2.2.2.2.2.2.2.2.2.2.2.1) 30 u.2.2.2.2.2.2.2.2.2.2.2.2.2.2.1) mg))) E hr hlk (nspot_27, nfrom_28, ntoken_29, nvalue_30, gop_31, garg_32, ncodes_33, nreadFault_34, nreadPlace_35, gpending_36, npendings_37, nopen_38, glineFrom_39, glineWhen_40, glineTo_41, 1) hw42 ⟨(by show (1 : Int32).toInt = 1; have k_0 : (1 : Int32).toInt = 1 := (by decide +kernel); have k_1 : (1 : Int32).toInt = 1 := (by decide +kernel); omega), hp_49, (by show ncodes_33.toInt ≤ 400; have k_0 : (1 : Int32).toInt = 1 := (by decide +kernel); have k_1 : (1 : Int32).toInt = 1 := (by decide +kernel); omega), hp_53, hp_54, (show (0 ≤ (r_25 : Int32).toInt → LW 32 800 gop_31 garg_32 glineFrom_39 glineWhen_40 glineTo_41 (r_25 : Int32).toInt ncodes_33.toInt) from hp_55), (Or.inr (⟨(by show 0 ≤ r_25.toInt; omega), (by show r_25.toInt ≤ 16; omega)⟩))⟩ (Nat.le_of_ble_eq_true rfl) (Nat.le_of_ble_eq_true rfl) dX12_readsText_45
set_option maxHeartbeats 4000000 in
set_option maxRecDepth 100000 in
theorem s_textN (l : Launch) (D : va_G) (cI cJ : ClassId) (sz M : Nat) (mr : Nat → Nat) (mi : Nat → Int32) (mf : Nat → Nat → Int32) (mg : Nat → Nat → Int64) (z_kind : Int32) (h0 : z_kind.toInt < 0) : Met l yX12_text (Cond.code yX12_text cX12_text 3 (some .int) :: GW) ({ frames := 11, cells := 0, slots := 0, locals := 255 } : Room) (va_Pc [.ref M, .int z_kind] (PW D cI cJ sz (MW cI cJ M mr mi mf mg) xT)) (va_Qi (fun (r : Int32) (u : Int32 × Int32 × Int32 × Int32 × Int32 × Int32 × Int32) => (u.2.2.2.2.2.2.toInt = 0)) (fun u => QW D cI cJ (va_A (MW cI cJ M mr mi mf mg) sz) ((fun (u : Int32 × Int32 × Int32 × Int32 × Int32 × Int32 × Int32) => (MW cI cJ M mr (upd (upd (upd (upd (upd (upd (upd mi 0 u.1) 40 u.2.1) 41 u.2.2.1) 22 u.2.2.2.1) 34 u.2.2.2.2.1) 35 u.2.2.2.2.2.1) 21 u.2.2.2.2.2.2) mf mg)) u)) (va_A (MW cI cJ M mr mi mf mg) sz)) 0 0 (va_A (MW cI cJ M mr mi mf mg) sz) := by
  refine mk_met (y := yX12_text) (bytes := cX12_text) (maxL := 3) (avs := [.ref M, .int z_kind]) (WS := (MW cI cJ M mr mi mf mg)) (Qf := fun A => va_Qi (fun (r : Int32) (u : Int32 × Int32 × Int32 × Int32 × Int32 × Int32 × Int32) => (u.2.2.2.2.2.2.toInt = 0)) (fun u => QW D cI cJ A ((fun (u : Int32 × Int32 × Int32 × Int32 × Int32 × Int32 × Int32) => (MW cI cJ M mr (upd (upd (upd (upd (upd (upd (upd mi 0 u.1) 40 u.2.1) 41 u.2.2.1) 22 u.2.2.2.1) 34 u.2.2.2.2.1) 35 u.2.2.2.2.2.1) 21 u.2.2.2.2.2.2) mf mg)) u)) A) (by decide) (Nat.le_of_ble_eq_true rfl) ?_
  intro p e s m below meth c A ls E hr hlk hnm hX hw1 hl2
  have hl3 : lv_has ls 3 [(0, .ref M), (1, .int z_kind)] := hl2
  refine lv_aload_n (pc := 0) E.1 E.2.1 dX12_text_0 rfl (lv_at hl3 0 rfl) ?_
  refine lv_iconst (pc := 1) (v := 0) E.1 E.2.1 dX12_text_1 (by decide +kernel) ?_
  refine x_put (pc := 2) (T := TX12) (N := 70) (ci := 12) (ws' := (MW cI cJ M mr (upd mi 0 0) mf mg)) E hw1 inX12 tyX12_ok nmX12 0 0 q_1399 rfl rfl (by decide) rfl rfl rfl rfl (Nat.le_of_ble_eq_true rfl) rfl dX12_text_2 (fun H locs hw4 => ?_)
  refine lv_aload_n (pc := 5) E.1 E.2.1 dX12_text_5 rfl (lv_at hl3 0 rfl) ?_
  refine lv_iconst (pc := 6) (v := 0) E.1 E.2.1 dX12_text_6 (by decide +kernel) ?_
  refine x_put (pc := 7) (T := TX12) (N := 70) (ci := 12) (ws' := (MW cI cJ M mr (upd (upd mi 0 0) 40 0) mf mg)) E hw4 inX12 tyX12_ok nmX12 0 40 q_1439 rfl rfl (by decide) rfl rfl rfl rfl (Nat.le_of_ble_eq_true rfl) rfl dX12_text_7 (fun H locs hw5 => ?_)
  refine lv_aload_n (pc := 10) E.1 E.2.1 dX12_text_10 rfl (lv_at hl3 0 rfl) ?_
  refine lv_iconst (pc := 11) (v := (-1)) E.1 E.2.1 dX12_text_11 (by decide +kernel) ?_
  refine x_put (pc := 12) (T := TX12) (N := 70) (ci := 12) (ws' := (MW cI cJ M mr (upd (upd (upd mi 0 0) 40 0) 41 (-1)) mf mg)) E hw5 inX12 tyX12_ok nmX12 0 41 q_1440 rfl rfl (by decide) rfl rfl rfl rfl (Nat.le_of_ble_eq_true rfl) rfl dX12_text_12 (fun H locs hw6 => ?_)
  refine lv_aload_n (pc := 15) E.1 E.2.1 dX12_text_15 rfl (lv_at hl3 0 rfl) ?_
  refine lv_iconst (pc := 16) (v := 0) E.1 E.2.1 dX12_text_16 (by decide +kernel) ?_
  refine x_put (pc := 17) (T := TX12) (N := 70) (ci := 12) (ws' := (MW cI cJ M mr (upd (upd (upd (upd mi 0 0) 22 0) 40 0) 41 (-1)) mf mg)) E hw6 inX12 tyX12_ok nmX12 0 22 q_1421 rfl rfl (by decide) rfl rfl rfl rfl (Nat.le_of_ble_eq_true rfl) rfl dX12_text_17 (fun H locs hw7 => ?_)
  refine lv_aload_n (pc := 20) E.1 E.2.1 dX12_text_20 rfl (lv_at hl3 0 rfl) ?_
  refine lv_iconst (pc := 21) (v := 0) E.1 E.2.1 dX12_text_21 (by decide +kernel) ?_
  refine x_put (pc := 22) (T := TX12) (N := 70) (ci := 12) (ws' := (MW cI cJ M mr (upd (upd (upd (upd (upd mi 0 0) 22 0) 34 0) 40 0) 41 (-1)) mf mg)) E hw7 inX12 tyX12_ok nmX12 0 34 q_1433 rfl rfl (by decide) rfl rfl rfl rfl (Nat.le_of_ble_eq_true rfl) rfl dX12_text_22 (fun H locs hw8 => ?_)
  refine lv_aload_n (pc := 25) E.1 E.2.1 dX12_text_25 rfl (lv_at hl3 0 rfl) ?_
  refine lv_iconst (pc := 26) (v := 0) E.1 E.2.1 dX12_text_26 (by decide +kernel) ?_
  refine x_put (pc := 27) (T := TX12) (N := 70) (ci := 12) (ws' := (MW cI cJ M mr (upd (upd (upd (upd (upd (upd mi 0 0) 22 0) 34 0) 35 0) 40 0) 41 (-1)) mf mg)) E hw8 inX12 tyX12_ok nmX12 0 35 q_1434 rfl rfl (by decide) rfl rfl rfl rfl (Nat.le_of_ble_eq_true rfl) rfl dX12_text_27 (fun H locs hw9 => ?_)
  refine lv_iconst (pc := 30) (v := (-1)) E.1 E.2.1 dX12_text_30 (by decide +kernel) ?_
  refine lv_istore_n (pc := 31) (lv' := [(2, .int (-1)), (0, .ref M), (1, .int z_kind)]) E.1 E.2.1 dX12_text_31 rfl hl3 (by decide) rfl (fun ls hl10 => ?_)
  refine lv_aload_n (pc := 32) E.1 E.2.1 dX12_text_32 rfl (lv_at hl10 1 rfl) ?_
  refine lv_iload_n (pc := 33) E.1 E.2.1 dX12_text_33 rfl (lv_at hl10 2 rfl) ?_
  refine lv_iconst (pc := 34) (v := 0) E.1 E.2.1 dX12_text_34 (by decide +kernel) ?_
  refine lv_iconst (pc := 35) (v := 4) E.1 E.2.1 dX12_text_35 (by decide +kernel) ?_
  refine cm_i (pc := 36) hw9 (rn_M (As := [.int z_kind, .int 0, .int 4]) (rest := []) E hw9 (s_isIn l D cI cJ _ M mr (upd (upd (upd (upd (upd (upd mi 0 0) 22 0) 34 0) 35 0) 40 0) 41 (-1)) mf mg z_kind 0 4) (gdV q_1622 q_1624 q_46 q_162 q_1625) hdV_X12_isIn ⟨rfl, rfl⟩ ⟨(Nat.le_of_ble_eq_true rfl), (Nat.le_of_ble_eq_true rfl)⟩ ⟨(Nat.le_of_ble_eq_true rfl), (Nat.le_of_ble_eq_true rfl)⟩ 12 rfl rfl rfl rfl hl10.1 rfl (Nat.le_of_ble_eq_true rfl) dX12_text_36) (fun r_12 u_11 H1 locs hp hw13 => ?_)
  generalize H1 = H at hw13 ⊢
  have hw14 : WD D A s.heap (MW cI cJ M mr (upd (upd (upd (upd (upd (upd mi 0 0) 22 0) 34 0) 35 0) 40 0) 41 (-1)) mf mg) H locs := hw13
  have hp_15 := hp
  rcases hp_15 with ⟨rfl, ha_16⟩ | ⟨rfl, ha_17⟩ | ⟨rfl, ha_18, ha_19⟩
  · skip
    have ha_16 : z_kind.toInt < (0 : Int32).toInt := ha_16
    rw [show (0 : Int32).toInt = 0 from by decide +kernel] at ha_16
    refine lv_if_eq (pc := 39) (tgt := 69) E.1 E.2.1 dX12_text_39 (by decide) (fun _ => ?_) (fun c_20 => absurd (meqE (a := 0) (b := 0) (by decide +kernel) (by decide +kernel) (by omega)) c_20)
    refine lv_aload_n (pc := 69) E.1 E.2.1 dX12_text_69 rfl (lv_at hl10 1 rfl) ?_
    refine lv_iconst (pc := 70) (v := 0) E.1 E.2.1 dX12_text_70 (by decide +kernel) ?_
    refine x_put (pc := 71) (T := TX12) (N := 70) (ci := 12) (ws' := (MW cI cJ M mr (upd (upd (upd (upd (upd (upd (upd mi 0 0) 21 0) 22 0) 34 0) 35 0) 40 0) 41 (-1)) mf mg)) E hw14 inX12 tyX12_ok nmX12 0 21 q_1420 rfl rfl (by decide) rfl rfl rfl rfl (Nat.le_of_ble_eq_true rfl) rfl dX12_text_71 (fun H locs hw21 => ?_)
    refine lv_iload_n (pc := 74) E.1 E.2.1 dX12_text_74 rfl (lv_at hl10 0 rfl) ?_
    refine lv_iconst (pc := 75) (v := (-1)) E.1 E.2.1 dX12_text_75 (by decide +kernel) ?_
    refine lv_icmp_ne (pc := 76) (tgt := 81) E.1 E.2.1 dX12_text_76 (by decide) (fun c_22 => absurd (meqE (a := (-1)) (b := (-1)) (by decide +kernel) (by decide +kernel) (by omega)) c_22) (fun _ => ?_)
    refine lv_iconst (pc := 79) (v := (-1)) E.1 E.2.1 dX12_text_79 (by decide +kernel) ?_
    exact em_i (w1 := (fun (u : Int32 × Int32 × Int32 × Int32 × Int32 × Int32 × Int32) => (MW cI cJ M mr (upd (upd (upd (upd (upd (upd (upd mi 0 u.1) 40 u.2.1) 41 u.2.2.1) 22 u.2.2.2.1) 34 u.2.2.2.2.1) 35 u.2.2.2.2.2.1) 21 u.2.2.2.2.2.2) mf mg))) E hr hlk (0, 0, (-1), 0, 0, 0, 0) hw21 (by show (0 : Int32).toInt = 0; have k_0 : (0 : Int32).toInt = 0 := (by decide +kernel); have k_1 : (0 : Int32).toInt = 0 := (by decide +kernel); have k_2 : (0 : Int32).toInt = 0 := (by decide +kernel); have k_3 : (0 : Int32).toInt = 0 := (by decide +kernel); have k_4 : (0 : Int32).toInt = 0 := (by decide +kernel); have k_5 : (0 : Int32).toInt = 0 := (by decide +kernel); have k_6 : ((-1) : Int32).toInt = -1 := (by decide +kernel); have k_7 : ((-1) : Int32).toInt = -1 := (by decide +kernel); omega) (Nat.le_of_ble_eq_true rfl) (Nat.le_of_ble_eq_true rfl) dX12_text_80
  · skip
    have ha_17 : (4 : Int32).toInt < z_kind.toInt := ha_17
    rw [show (4 : Int32).toInt = 4 from by decide +kernel] at ha_17
    exfalso; omega
  · skip
    have ha_18 : (0 : Int32).toInt ≤ z_kind.toInt := ha_18
    rw [show (0 : Int32).toInt = 0 from by decide +kernel] at ha_18
    have ha_19 : z_kind.toInt ≤ (4 : Int32).toInt := ha_19
    rw [show (4 : Int32).toInt = 4 from by decide +kernel] at ha_19
    exfalso; omega

set_option maxHeartbeats 4000000 in
set_option maxRecDepth 100000 in
theorem s_textP (l : Launch) (D : va_G) (cI cJ : ClassId) (sz M : Nat) (mr : Nat → Nat) (mi : Nat → Int32) (mf : Nat → Nat → Int32) (mg : Nat → Nat → Int64) (z_kind : Int32) (h0 : 4 < z_kind.toInt) : Met l yX12_text (Cond.code yX12_text cX12_text 3 (some .int) :: GW) ({ frames := 11, cells := 0, slots := 0, locals := 255 } : Room) (va_Pc [.ref M, .int z_kind] (PW D cI cJ sz (MW cI cJ M mr mi mf mg) xT)) (va_Qi (fun (r : Int32) (u : Int32 × Int32 × Int32 × Int32 × Int32 × Int32 × Int32) => (u.2.2.2.2.2.2.toInt = 0)) (fun u => QW D cI cJ (va_A (MW cI cJ M mr mi mf mg) sz) ((fun (u : Int32 × Int32 × Int32 × Int32 × Int32 × Int32 × Int32) => (MW cI cJ M mr (upd (upd (upd (upd (upd (upd (upd mi 0 u.1) 40 u.2.1) 41 u.2.2.1) 22 u.2.2.2.1) 34 u.2.2.2.2.1) 35 u.2.2.2.2.2.1) 21 u.2.2.2.2.2.2) mf mg)) u)) (va_A (MW cI cJ M mr mi mf mg) sz)) 0 0 (va_A (MW cI cJ M mr mi mf mg) sz) := by
  refine mk_met (y := yX12_text) (bytes := cX12_text) (maxL := 3) (avs := [.ref M, .int z_kind]) (WS := (MW cI cJ M mr mi mf mg)) (Qf := fun A => va_Qi (fun (r : Int32) (u : Int32 × Int32 × Int32 × Int32 × Int32 × Int32 × Int32) => (u.2.2.2.2.2.2.toInt = 0)) (fun u => QW D cI cJ A ((fun (u : Int32 × Int32 × Int32 × Int32 × Int32 × Int32 × Int32) => (MW cI cJ M mr (upd (upd (upd (upd (upd (upd (upd mi 0 u.1) 40 u.2.1) 41 u.2.2.1) 22 u.2.2.2.1) 34 u.2.2.2.2.1) 35 u.2.2.2.2.2.1) 21 u.2.2.2.2.2.2) mf mg)) u)) A) (by decide) (Nat.le_of_ble_eq_true rfl) ?_
  intro p e s m below meth c A ls E hr hlk hnm hX hw1 hl2
  have hl3 : lv_has ls 3 [(0, .ref M), (1, .int z_kind)] := hl2
  refine lv_aload_n (pc := 0) E.1 E.2.1 dX12_text_0 rfl (lv_at hl3 0 rfl) ?_
  refine lv_iconst (pc := 1) (v := 0) E.1 E.2.1 dX12_text_1 (by decide +kernel) ?_
  refine x_put (pc := 2) (T := TX12) (N := 70) (ci := 12) (ws' := (MW cI cJ M mr (upd mi 0 0) mf mg)) E hw1 inX12 tyX12_ok nmX12 0 0 q_1399 rfl rfl (by decide) rfl rfl rfl rfl (Nat.le_of_ble_eq_true rfl) rfl dX12_text_2 (fun H locs hw4 => ?_)
  refine lv_aload_n (pc := 5) E.1 E.2.1 dX12_text_5 rfl (lv_at hl3 0 rfl) ?_
  refine lv_iconst (pc := 6) (v := 0) E.1 E.2.1 dX12_text_6 (by decide +kernel) ?_
  refine x_put (pc := 7) (T := TX12) (N := 70) (ci := 12) (ws' := (MW cI cJ M mr (upd (upd mi 0 0) 40 0) mf mg)) E hw4 inX12 tyX12_ok nmX12 0 40 q_1439 rfl rfl (by decide) rfl rfl rfl rfl (Nat.le_of_ble_eq_true rfl) rfl dX12_text_7 (fun H locs hw5 => ?_)
  refine lv_aload_n (pc := 10) E.1 E.2.1 dX12_text_10 rfl (lv_at hl3 0 rfl) ?_
  refine lv_iconst (pc := 11) (v := (-1)) E.1 E.2.1 dX12_text_11 (by decide +kernel) ?_
  refine x_put (pc := 12) (T := TX12) (N := 70) (ci := 12) (ws' := (MW cI cJ M mr (upd (upd (upd mi 0 0) 40 0) 41 (-1)) mf mg)) E hw5 inX12 tyX12_ok nmX12 0 41 q_1440 rfl rfl (by decide) rfl rfl rfl rfl (Nat.le_of_ble_eq_true rfl) rfl dX12_text_12 (fun H locs hw6 => ?_)
  refine lv_aload_n (pc := 15) E.1 E.2.1 dX12_text_15 rfl (lv_at hl3 0 rfl) ?_
  refine lv_iconst (pc := 16) (v := 0) E.1 E.2.1 dX12_text_16 (by decide +kernel) ?_
  refine x_put (pc := 17) (T := TX12) (N := 70) (ci := 12) (ws' := (MW cI cJ M mr (upd (upd (upd (upd mi 0 0) 22 0) 40 0) 41 (-1)) mf mg)) E hw6 inX12 tyX12_ok nmX12 0 22 q_1421 rfl rfl (by decide) rfl rfl rfl rfl (Nat.le_of_ble_eq_true rfl) rfl dX12_text_17 (fun H locs hw7 => ?_)
  refine lv_aload_n (pc := 20) E.1 E.2.1 dX12_text_20 rfl (lv_at hl3 0 rfl) ?_
  refine lv_iconst (pc := 21) (v := 0) E.1 E.2.1 dX12_text_21 (by decide +kernel) ?_
  refine x_put (pc := 22) (T := TX12) (N := 70) (ci := 12) (ws' := (MW cI cJ M mr (upd (upd (upd (upd (upd mi 0 0) 22 0) 34 0) 40 0) 41 (-1)) mf mg)) E hw7 inX12 tyX12_ok nmX12 0 34 q_1433 rfl rfl (by decide) rfl rfl rfl rfl (Nat.le_of_ble_eq_true rfl) rfl dX12_text_22 (fun H locs hw8 => ?_)
  refine lv_aload_n (pc := 25) E.1 E.2.1 dX12_text_25 rfl (lv_at hl3 0 rfl) ?_
  refine lv_iconst (pc := 26) (v := 0) E.1 E.2.1 dX12_text_26 (by decide +kernel) ?_
  refine x_put (pc := 27) (T := TX12) (N := 70) (ci := 12) (ws' := (MW cI cJ M mr (upd (upd (upd (upd (upd (upd mi 0 0) 22 0) 34 0) 35 0) 40 0) 41 (-1)) mf mg)) E hw8 inX12 tyX12_ok nmX12 0 35 q_1434 rfl rfl (by decide) rfl rfl rfl rfl (Nat.le_of_ble_eq_true rfl) rfl dX12_text_27 (fun H locs hw9 => ?_)
  refine lv_iconst (pc := 30) (v := (-1)) E.1 E.2.1 dX12_text_30 (by decide +kernel) ?_
  refine lv_istore_n (pc := 31) (lv' := [(2, .int (-1)), (0, .ref M), (1, .int z_kind)]) E.1 E.2.1 dX12_text_31 rfl hl3 (by decide) rfl (fun ls hl10 => ?_)
  refine lv_aload_n (pc := 32) E.1 E.2.1 dX12_text_32 rfl (lv_at hl10 1 rfl) ?_
  refine lv_iload_n (pc := 33) E.1 E.2.1 dX12_text_33 rfl (lv_at hl10 2 rfl) ?_
  refine lv_iconst (pc := 34) (v := 0) E.1 E.2.1 dX12_text_34 (by decide +kernel) ?_
  refine lv_iconst (pc := 35) (v := 4) E.1 E.2.1 dX12_text_35 (by decide +kernel) ?_
  refine cm_i (pc := 36) hw9 (rn_M (As := [.int z_kind, .int 0, .int 4]) (rest := []) E hw9 (s_isIn l D cI cJ _ M mr (upd (upd (upd (upd (upd (upd mi 0 0) 22 0) 34 0) 35 0) 40 0) 41 (-1)) mf mg z_kind 0 4) (gdV q_1622 q_1624 q_46 q_162 q_1625) hdV_X12_isIn ⟨rfl, rfl⟩ ⟨(Nat.le_of_ble_eq_true rfl), (Nat.le_of_ble_eq_true rfl)⟩ ⟨(Nat.le_of_ble_eq_true rfl), (Nat.le_of_ble_eq_true rfl)⟩ 12 rfl rfl rfl rfl hl10.1 rfl (Nat.le_of_ble_eq_true rfl) dX12_text_36) (fun r_12 u_11 H1 locs hp hw13 => ?_)
  generalize H1 = H at hw13 ⊢
  have hw14 : WD D A s.heap (MW cI cJ M mr (upd (upd (upd (upd (upd (upd mi 0 0) 22 0) 34 0) 35 0) 40 0) 41 (-1)) mf mg) H locs := hw13
  have hp_15 := hp
  rcases hp_15 with ⟨rfl, ha_16⟩ | ⟨rfl, ha_17⟩ | ⟨rfl, ha_18, ha_19⟩
  · skip
    have ha_16 : z_kind.toInt < (0 : Int32).toInt := ha_16
    rw [show (0 : Int32).toInt = 0 from by decide +kernel] at ha_16
    exfalso; omega
  · skip
    have ha_17 : (4 : Int32).toInt < z_kind.toInt := ha_17
    rw [show (4 : Int32).toInt = 4 from by decide +kernel] at ha_17
    refine lv_if_eq (pc := 39) (tgt := 69) E.1 E.2.1 dX12_text_39 (by decide) (fun _ => ?_) (fun c_20 => absurd (meqE (a := 0) (b := 0) (by decide +kernel) (by decide +kernel) (by omega)) c_20)
    refine lv_aload_n (pc := 69) E.1 E.2.1 dX12_text_69 rfl (lv_at hl10 1 rfl) ?_
    refine lv_iconst (pc := 70) (v := 0) E.1 E.2.1 dX12_text_70 (by decide +kernel) ?_
    refine x_put (pc := 71) (T := TX12) (N := 70) (ci := 12) (ws' := (MW cI cJ M mr (upd (upd (upd (upd (upd (upd (upd mi 0 0) 21 0) 22 0) 34 0) 35 0) 40 0) 41 (-1)) mf mg)) E hw14 inX12 tyX12_ok nmX12 0 21 q_1420 rfl rfl (by decide) rfl rfl rfl rfl (Nat.le_of_ble_eq_true rfl) rfl dX12_text_71 (fun H locs hw21 => ?_)
    refine lv_iload_n (pc := 74) E.1 E.2.1 dX12_text_74 rfl (lv_at hl10 0 rfl) ?_
    refine lv_iconst (pc := 75) (v := (-1)) E.1 E.2.1 dX12_text_75 (by decide +kernel) ?_
    refine lv_icmp_ne (pc := 76) (tgt := 81) E.1 E.2.1 dX12_text_76 (by decide) (fun c_22 => absurd (meqE (a := (-1)) (b := (-1)) (by decide +kernel) (by decide +kernel) (by omega)) c_22) (fun _ => ?_)
    refine lv_iconst (pc := 79) (v := (-1)) E.1 E.2.1 dX12_text_79 (by decide +kernel) ?_
    exact em_i (w1 := (fun (u : Int32 × Int32 × Int32 × Int32 × Int32 × Int32 × Int32) => (MW cI cJ M mr (upd (upd (upd (upd (upd (upd (upd mi 0 u.1) 40 u.2.1) 41 u.2.2.1) 22 u.2.2.2.1) 34 u.2.2.2.2.1) 35 u.2.2.2.2.2.1) 21 u.2.2.2.2.2.2) mf mg))) E hr hlk (0, 0, (-1), 0, 0, 0, 0) hw21 (by show (0 : Int32).toInt = 0; have k_0 : (0 : Int32).toInt = 0 := (by decide +kernel); have k_1 : (0 : Int32).toInt = 0 := (by decide +kernel); have k_2 : (0 : Int32).toInt = 0 := (by decide +kernel); have k_3 : (0 : Int32).toInt = 0 := (by decide +kernel); have k_4 : (0 : Int32).toInt = 0 := (by decide +kernel); have k_5 : (0 : Int32).toInt = 0 := (by decide +kernel); have k_6 : ((-1) : Int32).toInt = -1 := (by decide +kernel); have k_7 : ((-1) : Int32).toInt = -1 := (by decide +kernel); omega) (Nat.le_of_ble_eq_true rfl) (Nat.le_of_ble_eq_true rfl) dX12_text_80
  · skip
    have ha_18 : (0 : Int32).toInt ≤ z_kind.toInt := ha_18
    rw [show (0 : Int32).toInt = 0 from by decide +kernel] at ha_18
    have ha_19 : z_kind.toInt ≤ (4 : Int32).toInt := ha_19
    rw [show (4 : Int32).toInt = 4 from by decide +kernel] at ha_19
    exfalso; omega

