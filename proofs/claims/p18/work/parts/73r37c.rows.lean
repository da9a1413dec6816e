theorem tcEax73r37c_ {x y : Int32} (h : x.toInt = y.toInt) : x.toNatClampNeg = y.toNatClampNeg := by rw [Int32.toInt_inj.mp h]
theorem ax73r37c_0 {x0 x1 : Int} (h0 : x0 = x1) (h1 : 0 ≤ x1) : 0 ≤ x0 := by omega
theorem ax73r37c_1 {x0 x1 : Int} (h0 : x0 = x1) (h1 : x1 ≤ 10) : x0 ≤ 10 := by omega
theorem ax73r37c_2 {x0 : Int} (h0 : x0 = 0) : 0 ≤ x0 := by omega
theorem ax73r37c_3 {x0 : Int} (h0 : x0 = 0) : x0 ≤ 6 := by omega
theorem ax73r37c_4 {x0 x1 : Int} (h0 : x0 = x1) (h1 : x1 ≤ 200) : x0 ≤ 200 := by omega
theorem ax73r37c_5 {x0 : Int} (h0 : x0 = 0) : x0 ≤ 200 := by omega
theorem ax73r37c_6 {x0 x1 : Int} (h0 : x0 = x1) (h1 : x1 ≤ 16) : x0 ≤ 16 := by omega
set_option maxHeartbeats 4000000 in
set_option maxRecDepth 100000 in
theorem s_text3 (l : Launch) (D : va_G) (cI cJ : ClassId) (sz M : Nat) (mr : Nat → Nat) (mi : Nat → Int32) (mf : Nat → Nat → Int32) (mg : Nat → Nat → Int64)  (h0 : 0 ≤ (mi 21).toInt ∧ (mi 21).toInt ≤ 400) (h1 : ((mf 26) 153).toInt = 32) (h2 : 0 ≤ (mi 6).toInt ∧ (mi 6).toInt ≤ 10) (h3 : 0 ≤ ((mf 27) 0).toInt) (h4 : ((mf 27) 0).toInt ≤ 16) (h5 : 0 ≤ ((mf 27) 1).toInt) (h6 : ((mf 27) 1).toInt ≤ 16) (h7 : 0 ≤ (mi 49).toInt ∧ (mi 49).toInt ≤ 200) (h8 : 0 ≤ (mi 3).toInt ∧ (mi 3).toInt ≤ 6) (h9 : 0 ≤ (mi 42).toInt ∧ (mi 42).toInt ≤ 40) (h10 : 0 ≤ (mi 44).toInt ∧ (mi 44).toInt ≤ 10) (lf_words : (∀ j : Nat, j < 154 → (mf 26) j = w0 j)) (lf_rows : rowsOK (mi 3).toInt (mi 6).toInt (mf 2)) : Met l yX12_text (Cond.code yX12_text cX12_text 3 (some .int) :: GW) ({ frames := 11, cells := 0, slots := 0, locals := 255 } : Room) (va_Pc [.ref M, .int 3] (PW D cI cJ sz (MW cI cJ M mr mi mf mg) xT)) (va_Qi (fun (r : Int32) (u : Int32 × Int32 × Int32 × Int32 × Int32 × Int32 × Int32 × Int32 × Int32 × Int32 × Int32 × Int32 × Int32 × (Nat → Int32) × Int32 × (Nat → Int32) × Int32) => (u.2.2.2.2.2.2.1.toInt = 0) ∧ (0 ≤ u.2.2.2.2.2.2.2.2.2.2.2.2.2.2.1.toInt) ∧ (u.2.2.2.2.2.2.2.2.2.2.2.2.2.2.1.toInt ≤ 10) ∧ (0 ≤ u.2.2.2.2.2.2.2.2.2.2.2.2.2.2.2.2.toInt) ∧ (u.2.2.2.2.2.2.2.2.2.2.2.2.2.2.2.2.toInt ≤ 6) ∧ ((u.2.2.2.2.2.2.2.2.2.2.2.2.2.2.2.1 2).toInt = ((mf 1) 2).toInt) ∧ ((u.2.2.2.2.2.2.2.2.2.2.2.2.2.2.2.1 3).toInt = ((mf 1) 3).toInt) ∧ ((u.2.2.2.2.2.2.2.2.2.2.2.2.2.2.2.1 5).toInt = ((mf 1) 5).toInt) ∧ (rowsOK u.2.2.2.2.2.2.2.2.2.2.2.2.2.2.2.2.toInt (mi 6).toInt (mf 2))) (fun u => QW D cI cJ (va_A (MW cI cJ M mr mi mf mg) sz) ((fun (u : Int32 × Int32 × Int32 × Int32 × Int32 × Int32 × Int32 × Int32 × Int32 × Int32 × Int32 × Int32 × Int32 × (Nat → Int32) × Int32 × (Nat → Int32) × Int32) => (MW cI cJ M mr (upd (upd (upd (upd (upd (upd (upd (upd (upd (upd (upd (upd (upd (upd (upd mi 0 u.1) 40 u.2.1) 41 u.2.2.1) 22 u.2.2.2.1) 34 u.2.2.2.2.1) 35 u.2.2.2.2.2.1) 21 u.2.2.2.2.2.2.1) 23 u.2.2.2.2.2.2.2.1) 24 u.2.2.2.2.2.2.2.2.1) 25 u.2.2.2.2.2.2.2.2.2.1) 38 u.2.2.2.2.2.2.2.2.2.2.1) 39 u.2.2.2.2.2.2.2.2.2.2.2.1) 33 u.2.2.2.2.2.2.2.2.2.2.2.2.1) 44 u.2.2.2.2.2.2.2.2.2.2.2.2.2.2.1) 3 u.2.2.2.2.2.2.2.2.2.2.2.2.2.2.2.2) (va_up (va_up mf 45 u.2.2.2.2.2.2.2.2.2.2.2.2.2.1) 1 u.2.2.2.2.2.2.2.2.2.2.2.2.2.2.2.1) mg)) u)) (va_A (MW cI cJ M mr mi mf mg) sz)) 0 0 (va_A (MW cI cJ M mr mi mf mg) sz) := by
  refine mk_met (y := yX12_text) (bytes := cX12_text) (maxL := 3) (avs := [.ref M, .int 3]) (WS := (MW cI cJ M mr mi mf mg)) (Qf := fun A => va_Qi (fun (r : Int32) (u : Int32 × Int32 × Int32 × Int32 × Int32 × Int32 × Int32 × Int32 × Int32 × Int32 × Int32 × Int32 × Int32 × (Nat → Int32) × Int32 × (Nat → Int32) × Int32) => (u.2.2.2.2.2.2.1.toInt = 0) ∧ (0 ≤ u.2.2.2.2.2.2.2.2.2.2.2.2.2.2.1.toInt) ∧ (u.2.2.2.2.2.2.2.2.2.2.2.2.2.2.1.toInt ≤ 10) ∧ (0 ≤ u.2.2.2.2.2.2.2.2.2.2.2.2.2.2.2.2.toInt) ∧ (u.2.2.2.2.2.2.2.2.2.2.2.2.2.2.2.2.toInt ≤ 6) ∧ ((u.2.2.2.2.2.2.2.2.2.2.2.2.2.2.2.1 2).toInt = ((mf 1) 2).toInt) ∧ ((u.2.2.2.2.2.2.2.2.2.2.2.2.2.2.2.1 3).toInt = ((mf 1) 3).toInt) ∧ ((u.2.2.2.2.2.2.2.2.2.2.2.2.2.2.2.1 5).toInt = ((mf 1) 5).toInt) ∧ (rowsOK u.2.2.2.2.2.2.2.2.2.2.2.2.2.2.2.2.toInt (mi 6).toInt (mf 2))) (fun u => QW D cI cJ A ((fun (u : Int32 × Int32 × Int32 × Int32 × Int32 × Int32 × Int32 × Int32 × Int32 × Int32 × Int32 × Int32 × Int32 × (Nat → Int32) × Int32 × (Nat → Int32) × Int32) => (MW cI cJ M mr (upd (upd (upd (upd (upd (upd (upd (upd (upd (upd (upd (upd (upd (upd (upd mi 0 u.1) 40 u.2.1) 41 u.2.2.1) 22 u.2.2.2.1) 34 u.2.2.2.2.1) 35 u.2.2.2.2.2.1) 21 u.2.2.2.2.2.2.1) 23 u.2.2.2.2.2.2.2.1) 24 u.2.2.2.2.2.2.2.2.1) 25 u.2.2.2.2.2.2.2.2.2.1) 38 u.2.2.2.2.2.2.2.2.2.2.1) 39 u.2.2.2.2.2.2.2.2.2.2.2.1) 33 u.2.2.2.2.2.2.2.2.2.2.2.2.1) 44 u.2.2.2.2.2.2.2.2.2.2.2.2.2.2.1) 3 u.2.2.2.2.2.2.2.2.2.2.2.2.2.2.2.2) (va_up (va_up mf 45 u.2.2.2.2.2.2.2.2.2.2.2.2.2.1) 1 u.2.2.2.2.2.2.2.2.2.2.2.2.2.2.2.1) mg)) u)) A) (by decide) (Nat.le_of_ble_eq_true rfl) ?_
  intro p e s m below meth c A ls E hr hlk hnm hX hw1 hl2
  have hl3 : lv_has ls 3 [(0, .ref M), (1, .int 3)] := hl2
  refine lv_aload_n (pc := 0) E.1 E.2.1 dX12_text_0 rfl (lv_at hl3 0 rfl) ?_
  refine lv_iconst (pc := 1) (v := 0) E.1 E.2.1 dX12_text_1 (by decide +kernel) ?_
  refine x_put (pc := 2) (T := TX12) (N := 70) (ci := 12) (ws' := (MW cI cJ M mr (upd mi 0 0) mf mg)) E hw1 inX12 tyX12_ok nmX12 0 0 q_1399 rfl rfl (by decide) rfl rfl rfl rfl (Nat.le_of_ble_eq_true rfl) rfl dX12_text_2 (fun H locs hw4 => ?_)
  refine lv_aload_n (pc := 5) E.1 E.2.1 dX12_text_5 rfl (lv_at hl3 0 rfl) ?_
  refine lv_iconst (pc := 6) (v := 0) E.1 E.2.1 dX12_text_6 (by decide +kernel) ?_
  refine x_put (pc := 7) (T := TX12) (N := 70) (ci := 12) (ws' := (MW cI cJ M mr (upd (upd mi 0 0) 40 0) mf mg)) E hw4 inX12 tyX12_ok nmX12 0 40 q_1439 rfl rfl (by decide) rfl rfl rfl rfl (Nat.le_of_ble_eq_true rfl) rfl dX12_text_7 (fun H locs hw5 => ?_)
  refine lv_aload_n (pc := 10) E.1 E.2.1 dX12_text_10 rfl (lv_at hl3 0 rfl) ?_
  refine lv_iconst (pc := 11) (v := (-1)) E.1 E.2.1 dX12_text_11 (by decide +kernel) ?_
  refine x_put (pc := 12) (T := TX12) (N := 70) (ci := 12) (ws' := (MW cI cJ M mr (upd (upd (upd mi 0 0) 40 0) 41 (-1)) mf mg)) E hw5 inX12 tyX12_ok nmX12 0 41 q_1440 rfl rfl (by decide) rfl rfl rfl rfl (Nat.le_of_ble_eq_true rfl) rfl dX12_text_12 (fun H locs hw6 => ?_)
  refine lv_aload_n (pc := 15) E.1 E.2.1 dX12_text_15 rfl (lv_at hl3 0 rfl) ?_
  refine lv_iconst (pc := 16) (v := 0) E.1 E.2.1 dX12_text_16 (by decide +kernel) ?_
  refine x_put (pc := 17) (T := TX12) (N := 70) (ci := 12) (ws' := (MW cI cJ M mr (upd (upd (upd (upd mi 0 0) 22 0) 40 0) 41 (-1)) mf mg)) E hw6 inX12 tyX12_ok nmX12 0 22 q_1421 rfl rfl (by decide) rfl rfl rfl rfl (Nat.le_of_ble_eq_true rfl) rfl dX12_text_17 (fun H locs hw7 => ?_)
  refine lv_aload_n (pc := 20) E.1 E.2.1 dX12_text_20 rfl (lv_at hl3 0 rfl) ?_
  refine lv_iconst (pc := 21) (v := 0) E.1 E.2.1 dX12_text_21 (by decide +kernel) ?_
  refine x_put (pc := 22) (T := TX12) (N := 70) (ci := 12) (ws' := (MW cI cJ M mr (upd (upd (upd (upd (upd mi 0 0) 22 0) 34 0) 40 0) 41 (-1)) mf mg)) E hw7 inX12 tyX12_ok nmX12 0 34 q_1433 rfl rfl (by decide) rfl rfl rfl rfl (Nat.le_of_ble_eq_true rfl) rfl dX12_text_22 (fun H locs hw8 => ?_)
  refine lv_aload_n (pc := 25) E.1 E.2.1 dX12_text_25 rfl (lv_at hl3 0 rfl) ?_
  refine lv_iconst (pc := 26) (v := 0) E.1 E.2.1 dX12_text_26 (by decide +kernel) ?_
  refine x_put (pc := 27) (T := TX12) (N := 70) (ci := 12) (ws' := (MW cI cJ M mr (upd (upd (upd (upd (upd (upd mi 0 0) 22 0) 34 0) 35 0) 40 0) 41 (-1)) mf mg)) E hw8 inX12 tyX12_ok nmX12 0 35 q_1434 rfl rfl (by decide) rfl rfl rfl rfl (Nat.le_of_ble_eq_true rfl) rfl dX12_text_27 (fun H locs hw9 => ?_)
  refine lv_iconst (pc := 30) (v := (-1)) E.1 E.2.1 dX12_text_30 (by decide +kernel) ?_
  refine lv_istore_n (pc := 31) (lv' := [(2, .int (-1)), (0, .ref M), (1, .int 3)]) E.1 E.2.1 dX12_text_31 rfl hl3 (by decide) rfl (fun ls hl10 => ?_)
  refine lv_aload_n (pc := 32) E.1 E.2.1 dX12_text_32 rfl (lv_at hl10 1 rfl) ?_
  refine lv_iload_n (pc := 33) E.1 E.2.1 dX12_text_33 rfl (lv_at hl10 2 rfl) ?_
  refine lv_iconst (pc := 34) (v := 0) E.1 E.2.1 dX12_text_34 (by decide +kernel) ?_
  refine lv_iconst (pc := 35) (v := 4) E.1 E.2.1 dX12_text_35 (by decide +kernel) ?_
  refine cm_i (pc := 36) hw9 (rn_M (As := [.int 3, .int 0, .int 4]) (rest := []) E hw9 (s_isIn l D cI cJ _ M mr (upd (upd (upd (upd (upd (upd mi 0 0) 22 0) 34 0) 35 0) 40 0) 41 (-1)) mf mg 3 0 4) (gdV q_1622 q_1624 q_46 q_162 q_1625) hdV_X12_isIn ⟨rfl, rfl⟩ ⟨(Nat.le_of_ble_eq_true rfl), (Nat.le_of_ble_eq_true rfl)⟩ ⟨(Nat.le_of_ble_eq_true rfl), (Nat.le_of_ble_eq_true rfl)⟩ 12 rfl rfl rfl rfl hl10.1 rfl (Nat.le_of_ble_eq_true rfl) dX12_text_36) (fun r_12 u_11 H1 locs hp hw13 => ?_)
  generalize H1 = H at hw13 ⊢
  have hw14 : WD D A s.heap (MW cI cJ M mr (upd (upd (upd (upd (upd (upd mi 0 0) 22 0) 34 0) 35 0) 40 0) 41 (-1)) mf mg) H locs := hw13
  have hp_15 := hp
  rcases hp_15 with ⟨rfl, ha_16⟩ | ⟨rfl, ha_17⟩ | ⟨rfl, ha_18, ha_19⟩
  · skip
    have ha_16 : (3 : Int32).toInt < (0 : Int32).toInt := ha_16
    rw [show (3 : Int32).toInt = 3 from by decide +kernel] at ha_16
    rw [show (0 : Int32).toInt = 0 from by decide +kernel] at ha_16
    exfalso; omega
  · skip
    have ha_17 : (4 : Int32).toInt < (3 : Int32).toInt := ha_17
    rw [show (3 : Int32).toInt = 3 from by decide +kernel] at ha_17
    rw [show (4 : Int32).toInt = 4 from by decide +kernel] at ha_17
    exfalso; omega
  · skip
    have ha_18 : (0 : Int32).toInt ≤ (3 : Int32).toInt := ha_18
    rw [show (3 : Int32).toInt = 3 from by decide +kernel] at ha_18
    rw [show (0 : Int32).toInt = 0 from by decide +kernel] at ha_18
    have ha_19 : (3 : Int32).toInt ≤ (4 : Int32).toInt := ha_19
    rw [show (3 : Int32).toInt = 3 from by decide +kernel] at ha_19
    rw [show (4 : Int32).toInt = 4 from by decide +kernel] at ha_19
    refine lv_if_eq (pc := 39) (tgt := 69) E.1 E.2.1 dX12_text_39 (by decide) (fun c_20 => absurd c_20 (mneE (a := 1) (b := 0) (by decide +kernel) (by decide +kernel) (by omega))) (fun _ => ?_)
    refine lv_aload_n (pc := 42) E.1 E.2.1 dX12_text_42 rfl (lv_at hl10 1 rfl) ?_
    refine lv_iload_n (pc := 43) E.1 E.2.1 dX12_text_43 rfl (lv_at hl10 2 rfl) ?_
    refine cm_i (pc := 44) hw14 (rn_M (As := [.int 3]) (rest := []) E hw14 (s_readsText3 l D cI cJ _ M mr (upd (upd (upd (upd (upd (upd mi 0 0) 22 0) 34 0) 35 0) 40 0) 41 (-1)) mf mg (by show 0 ≤ (0 : Int32).toInt; have k_1 : (0 : Int32).toInt = 0 := (by decide +kernel); omega) (by show (0 : Int32).toInt ≤ (mi 21).toInt; have k_1 : (0 : Int32).toInt = 0 := (by decide +kernel); omega) h0.2 h1 h2 (show (∀ j : Nat, j < 154 → (mf 26) j = w0 j) from lf_words)) (gdV q_1662 q_1664 q_51 q_162 q_1665) hdV_X12_readsText ⟨rfl, rfl⟩ ⟨(Nat.le_of_ble_eq_true rfl), (Nat.le_of_ble_eq_true rfl)⟩ ⟨(Nat.le_of_ble_eq_true rfl), (Nat.le_of_ble_eq_true rfl)⟩ 12 rfl rfl rfl rfl hl10.1 rfl (Nat.le_of_ble_eq_true rfl) dX12_text_44) (fun r_22 u_21 H1 locs hp hw23 => ?_)
    obtain ⟨nspot_24, nfrom_25, ntoken_26, nvalue_27, nreadFault_28, nreadPlace_29, nwhich_30, gneeds_31⟩ := u_21
    generalize H1 = H at hw23 ⊢
    have hw32 : WD D A s.heap (MW cI cJ M mr (upd (upd (upd (upd (upd (upd (upd (upd (upd (upd (upd (upd mi 0 0) 22 nspot_24) 23 nfrom_25) 24 ntoken_26) 25 nvalue_27) 33 nwhich_30) 34 0) 35 0) 38 nreadFault_28) 39 nreadPlace_29) 40 0) 41 (-1)) (va_up mf 45 gneeds_31) mg) H locs := hw23
    have hp_33 := hp
    rcases hp_33 with rfl | ⟨ha_34, ha_35⟩
    · skip
      refine lv_istore_n (pc := 47) (lv' := [(2, .int (-1)), (0, .ref M), (1, .int 3)]) E.1 E.2.1 dX12_text_47 rfl hl10 (by decide) rfl (fun ls hl36 => ?_)
      refine lv_iload_n (pc := 48) E.1 E.2.1 dX12_text_48 rfl (lv_at hl36 0 rfl) ?_
      refine lv_iconst (pc := 49) (v := (-1)) E.1 E.2.1 dX12_text_49 (by decide +kernel) ?_
      refine lv_icmp_ne (pc := 50) (tgt := 69) E.1 E.2.1 dX12_text_50 (by decide) (fun c_37 => absurd (meqE (a := (-1)) (b := (-1)) (by decide +kernel) (by decide +kernel) (by omega)) c_37) (fun _ => ?_)
      refine lv_aload_n (pc := 53) E.1 E.2.1 dX12_text_53 rfl (lv_at hl36 1 rfl) ?_
      refine lv_aload_n (pc := 54) E.1 E.2.1 dX12_text_54 rfl (lv_at hl36 1 rfl) ?_
      refine x_get (pc := 55) (T := TX12) (N := 70) (ci := 12) (v := .int nreadFault_28) E hw32 inX12 0 38 q_1437 rfl rfl (by decide) rfl rfl dX12_text_55 ?_
      refine x_put (pc := 58) (T := TX12) (N := 70) (ci := 12) (ws' := (MW cI cJ M mr (upd (upd (upd (upd (upd (upd (upd (upd (upd (upd (upd (upd mi 0 0) 22 nspot_24) 23 nfrom_25) 24 ntoken_26) 25 nvalue_27) 33 nwhich_30) 34 0) 35 0) 38 nreadFault_28) 39 nreadPlace_29) 40 nreadFault_28) 41 (-1)) (va_up mf 45 gneeds_31) mg)) E hw32 inX12 tyX12_ok nmX12 0 40 q_1439 rfl rfl (by decide) rfl rfl rfl rfl (Nat.le_of_ble_eq_true rfl) rfl dX12_text_58 (fun H locs hw38 => ?_)
      refine lv_aload_n (pc := 61) E.1 E.2.1 dX12_text_61 rfl (lv_at hl36 1 rfl) ?_
      refine lv_aload_n (pc := 62) E.1 E.2.1 dX12_text_62 rfl (lv_at hl36 1 rfl) ?_
      refine x_get (pc := 63) (T := TX12) (N := 70) (ci := 12) (v := .int nreadPlace_29) E hw38 inX12 0 39 q_1438 rfl rfl (by decide) rfl rfl dX12_text_63 ?_
      refine x_put (pc := 66) (T := TX12) (N := 70) (ci := 12) (ws' := (MW cI cJ M mr (upd (upd (upd (upd (upd (upd (upd (upd (upd (upd (upd (upd mi 0 0) 22 nspot_24) 23 nfrom_25) 24 ntoken_26) 25 nvalue_27) 33 nwhich_30) 34 0) 35 0) 38 nreadFault_28) 39 nreadPlace_29) 40 nreadFault_28) 41 nreadPlace_29) (va_up mf 45 gneeds_31) mg)) E hw38 inX12 tyX12_ok nmX12 0 41 q_1440 rfl rfl (by decide) rfl rfl rfl rfl (Nat.le_of_ble_eq_true rfl) rfl dX12_text_66 (fun H locs hw39 => ?_)
      refine lv_aload_n (pc := 69) E.1 E.2.1 dX12_text_69 rfl (lv_at hl36 1 rfl) ?_
      refine lv_iconst (pc := 70) (v := 0) E.1 E.2.1 dX12_text_70 (by decide +kernel) ?_
      refine x_put (pc := 71) (T := TX12) (N := 70) (ci := 12) (ws' := (MW cI cJ M mr (upd (upd (upd (upd (upd (upd (upd (upd (upd (upd (upd (upd (upd mi 0 0) 21 0) 22 nspot_24) 23 nfrom_25) 24 ntoken_26) 25 nvalue_27) 33 nwhich_30) 34 0) 35 0) 38 nreadFault_28) 39 nreadPlace_29) 40 nreadFault_28) 41 nreadPlace_29) (va_up mf 45 gneeds_31) mg)) E hw39 inX12 tyX12_ok nmX12 0 21 q_1420 rfl rfl (by decide) rfl rfl rfl rfl (Nat.le_of_ble_eq_true rfl) rfl dX12_text_71 (fun H locs hw40 => ?_)
      refine lv_iload_n (pc := 74) E.1 E.2.1 dX12_text_74 rfl (lv_at hl36 0 rfl) ?_
      refine lv_iconst (pc := 75) (v := (-1)) E.1 E.2.1 dX12_text_75 (by decide +kernel) ?_
      refine lv_icmp_ne (pc := 76) (tgt := 81) E.1 E.2.1 dX12_text_76 (by decide) (fun c_41 => absurd (meqE (a := (-1)) (b := (-1)) (by decide +kernel) (by decide +kernel) (by omega)) c_41) (fun _ => ?_)
      refine lv_iconst (pc := 79) (v := (-1)) E.1 E.2.1 dX12_text_79 (by decide +kernel) ?_
      exact em_i (w1 := (fun (u : Int32 × Int32 × Int32 × Int32 × Int32 × Int32 × Int32 × Int32 × Int32 × Int32 × Int32 × Int32 × Int32 × (Nat → Int32) × Int32 × (Nat → Int32) × Int32) => (MW cI cJ M mr (upd (upd (upd (upd (upd (upd (upd (upd (upd (upd (upd (upd (upd (upd (upd mi 0 u.1) 40 u.2.1) 41 u.2.2.1) 22 u.2.2.2.1) 34 u.2.2.2.2.1) 35 u.2.2.2.2.2.1) 21 u.2.2.2.2.2.2.1) 23 u.2.2.2.2.2.2.2.1) 24 u.2.2.2.2.2.2.2.2.1) 25 u.2.2.2.2.2.2.2.2.2.1) 38 u.2.2.2.2.2.2.2.2.2.2.1) 39 u.2.2.2.2.2.2.2.2.2.2.2.1) 33 u.2.2.2.2.2.2.2.2.2.2.2.2.1) 44 u.2.2.2.2.2.2.2.2.2.2.2.2.2.2.1) 3 u.2.2.2.2.2.2.2.2.2.2.2.2.2.2.2.2) (va_up (va_up mf 45 u.2.2.2.2.2.2.2.2.2.2.2.2.2.1) 1 u.2.2.2.2.2.2.2.2.2.2.2.2.2.2.2.1) mg))) E hr hlk (0, nreadFault_28, nreadPlace_29, nspot_24, 0, 0, 0, nfrom_25, ntoken_26, nvalue_27, nreadFault_28, nreadPlace_29, nwhich_30, gneeds_31, (mi 44), (mf 1), (mi 3)) hw40 ⟨(by show (0 : Int32).toInt = 0; have k_0 : (0 : Int32).toInt = 0 := (by decide +kernel); have k_1 : (0 : Int32).toInt = 0 := (by decide +kernel); have k_2 : (0 : Int32).toInt = 0 := (by decide +kernel); have k_3 : (0 : Int32).toInt = 0 := (by decide +kernel); have k_4 : ((-1) : Int32).toInt = -1 := (by decide +kernel); omega), h10.1, h10.2, h8.1, h8.2, rfl, rfl, rfl, lf_rows⟩ (Nat.le_of_ble_eq_true rfl) (Nat.le_of_ble_eq_true rfl) dX12_text_80
    · skip
      have ha_34 : 0 ≤ r_22.toInt := ha_34
      have ha_35 : r_22.toInt ≤ 10 := ha_35
      refine lv_istore_n (pc := 47) (lv' := [(2, .int r_22), (0, .ref M), (1, .int 3)]) E.1 E.2.1 dX12_text_47 rfl hl10 (by decide) rfl (fun ls hl42 => ?_)
      refine lv_iload_n (pc := 48) E.1 E.2.1 dX12_text_48 rfl (lv_at hl42 0 rfl) ?_
      refine lv_iconst (pc := 49) (v := (-1)) E.1 E.2.1 dX12_text_49 (by decide +kernel) ?_
      refine lv_icmp_ne (pc := 50) (tgt := 69) E.1 E.2.1 dX12_text_50 (by decide) (fun _ => ?_) (fun c_43 => absurd c_43 (mneE (a := r_22.toInt) (b := (-1)) rfl (by decide +kernel) (by omega)))
      refine lv_aload_n (pc := 69) E.1 E.2.1 dX12_text_69 rfl (lv_at hl42 1 rfl) ?_
      refine lv_iconst (pc := 70) (v := 0) E.1 E.2.1 dX12_text_70 (by decide +kernel) ?_
      refine x_put (pc := 71) (T := TX12) (N := 70) (ci := 12) (ws' := (MW cI cJ M mr (upd (upd (upd (upd (upd (upd (upd (upd (upd (upd (upd (upd (upd mi 0 0) 21 0) 22 nspot_24) 23 nfrom_25) 24 ntoken_26) 25 nvalue_27) 33 nwhich_30) 34 0) 35 0) 38 nreadFault_28) 39 nreadPlace_29) 40 0) 41 (-1)) (va_up mf 45 gneeds_31) mg)) E hw32 inX12 tyX12_ok nmX12 0 21 q_1420 rfl rfl (by decide) rfl rfl rfl rfl (Nat.le_of_ble_eq_true rfl) rfl dX12_text_71 (fun H locs hw44 => ?_)
      refine lv_iload_n (pc := 74) E.1 E.2.1 dX12_text_74 rfl (lv_at hl42 0 rfl) ?_
      refine lv_iconst (pc := 75) (v := (-1)) E.1 E.2.1 dX12_text_75 (by decide +kernel) ?_
      refine lv_icmp_ne (pc := 76) (tgt := 81) E.1 E.2.1 dX12_text_76 (by decide) (fun _ => ?_) (fun c_45 => absurd c_45 (mneE (a := r_22.toInt) (b := (-1)) rfl (by decide +kernel) (by omega)))
      refine lv_iload_n (pc := 81) E.1 E.2.1 dX12_text_81 rfl (lv_at hl42 2 rfl) ?_
      refine lv_iconst (pc := 82) (v := 1) E.1 E.2.1 dX12_text_82 (by decide +kernel) ?_
      refine lv_icmp_gt (pc := 83) (tgt := 94) E.1 E.2.1 dX12_text_83 (by decide) (fun _ => ?_) (fun c_46 => absurd (mltE (a := 1) (b := 3) (by decide +kernel) (by decide +kernel) (by omega)) c_46)
      refine lv_aload_n (pc := 94) E.1 E.2.1 dX12_text_94 rfl (lv_at hl42 1 rfl) ?_
      refine lv_iload_n (pc := 95) E.1 E.2.1 dX12_text_95 rfl (lv_at hl42 2 rfl) ?_
      refine lv_iload_n (pc := 96) E.1 E.2.1 dX12_text_96 rfl (lv_at hl42 0 rfl) ?_
      refine cm_v (pc := 97) hw44 (rn_M (As := [.int 3, .int r_22]) (rest := []) E hw44 (s_takesOther3 l D cI cJ _ M mr (upd (upd (upd (upd (upd (upd (upd (upd (upd (upd (upd (upd (upd mi 0 0) 21 0) 22 nspot_24) 23 nfrom_25) 24 ntoken_26) 25 nvalue_27) 33 nwhich_30) 34 0) 35 0) 38 nreadFault_28) 39 nreadPlace_29) 40 0) 41 (-1)) (va_up mf 45 gneeds_31) mg r_22 (by show 0 ≤ r_22.toInt ∧ r_22.toInt ≤ 10; omega)) (gdV q_1810 q_1812 q_88 q_162 q_1813) hdV_X12_takesOther ⟨rfl, rfl⟩ ⟨(Nat.le_of_ble_eq_true rfl), (Nat.le_of_ble_eq_true rfl)⟩ ⟨(Nat.le_of_ble_eq_true rfl), (Nat.le_of_ble_eq_true rfl)⟩ 12 rfl rfl rfl rfl hl42.1 rfl (Nat.le_of_ble_eq_true rfl) dX12_text_97) (fun u_47 H1 locs hp hw49 => ?_)
      obtain ⟨gneeds_50, nneedMany_51, gnow_52, nundoable_53⟩ := u_47
      generalize H1 = H at hw49 ⊢
      have hw54 : WD D A s.heap (MW cI cJ M mr (upd (upd (upd (upd (upd (upd (upd (upd (upd (upd (upd (upd (upd (upd (upd mi 0 0) 3 nundoable_53) 21 0) 22 nspot_24) 23 nfrom_25) 24 ntoken_26) 25 nvalue_27) 33 nwhich_30) 34 0) 35 0) 38 nreadFault_28) 39 nreadPlace_29) 40 0) 41 (-1)) 44 nneedMany_51) (va_up (va_up mf 1 gnow_52) 45 gneeds_50) mg) H locs := hw49
      obtain ⟨hp_55, hp_56, hp_57, hp_58, hp_59, hp_60⟩ := hp
      have hp_55 : nneedMany_51.toInt = r_22.toInt := hp_55
      have hp_56 : nundoable_53.toInt = 0 := hp_56
      have hp_57 : (gnow_52 2).toInt = ((mf 1) 2).toInt := hp_57
      have hp_58 : (gnow_52 3).toInt = ((mf 1) 3).toInt := hp_58
      have hp_59 : (gnow_52 5).toInt = ((mf 1) 5).toInt := hp_59
      have hp_60 : rowsOK nundoable_53.toInt (mi 6).toInt (mf 2) := hp_60
      refine lv_iload_n (pc := 100) E.1 E.2.1 dX12_text_100 rfl (lv_at hl42 0 rfl) ?_
      exact em_i (w1 := (fun (u : Int32 × Int32 × Int32 × Int32 × Int32 × Int32 × Int32 × Int32 × Int32 × Int32 × Int32 × Int32 × Int32 × (Nat → Int32) × Int32 × (Nat → Int32) × Int32) => (MW cI cJ M mr (upd (upd (upd (upd (upd (upd (upd (upd (upd (upd (upd (upd (upd (upd (upd mi 0 u.1) 40 u.2.1) 41 u.2.2.1) 22 u.2.2.2.1) 34 u.2.2.2.2.1) 35 u.2.2.2.2.2.1) 21 u.2.2.2.2.2.2.1) 23 u.2.2.2.2.2.2.2.1) 24 u.2.2.2.2.2.2.2.2.1) 25 u.2.2.2.2.2.2.2.2.2.1) 38 u.2.2.2.2.2.2.2.2.2.2.1) 39 u.2.2.2.2.2.2.2.2.2.2.2.1) 33 u.2.2.2.2.2.2.2.2.2.2.2.2.1) 44 u.2.2.2.2.2.2.2.2.2.2.2.2.2.2.1) 3 u.2.2.2.2.2.2.2.2.2.2.2.2.2.2.2.2) (va_up (va_up mf 45 u.2.2.2.2.2.2.2.2.2.2.2.2.2.1) 1 u.2.2.2.2.2.2.2.2.2.2.2.2.2.2.2.1) mg))) E hr hlk (0, 0, (-1), nspot_24, 0, 0, 0, nfrom_25, ntoken_26, nvalue_27, nreadFault_28, nreadPlace_29, nwhich_30, gneeds_50, nneedMany_51, gnow_52, nundoable_53) hw54 ⟨(by show (0 : Int32).toInt = 0; have k_0 : (0 : Int32).toInt = 0 := (by decide +kernel); have k_1 : (0 : Int32).toInt = 0 := (by decide +kernel); have k_2 : (0 : Int32).toInt = 0 := (by decide +kernel); have k_3 : (0 : Int32).toInt = 0 := (by decide +kernel); have k_4 : (0 : Int32).toInt = 0 := (by decide +kernel); have k_5 : ((-1) : Int32).toInt = -1 := (by decide +kernel); omega), (ax73r37c_0 hp_55 ha_34), (ax73r37c_1 hp_55 ha_35), (ax73r37c_2 hp_56), (ax73r37c_3 hp_56), hp_57, hp_58, hp_59, hp_60⟩ (Nat.le_of_ble_eq_true rfl) (Nat.le_of_ble_eq_true rfl) dX12_text_101

set_option maxHeartbeats 4000000 in
set_option maxRecDepth 100000 in
theorem s_text4 (l : Launch) (D : va_G) (cI cJ : ClassId) (sz M : Nat) (mr : Nat → Nat) (mi : Nat → Int32) (mf : Nat → Nat → Int32) (mg : Nat → Nat → Int64)  (h0 : 0 ≤ (mi 21).toInt ∧ (mi 21).toInt ≤ 400) (h1 : ((mf 26) 153).toInt = 32) (h2 : 0 ≤ (mi 6).toInt ∧ (mi 6).toInt ≤ 10) (h3 : 0 ≤ ((mf 27) 0).toInt) (h4 : ((mf 27) 0).toInt ≤ 16) (h5 : 0 ≤ ((mf 27) 1).toInt) (h6 : ((mf 27) 1).toInt ≤ 16) (h7 : 0 ≤ (mi 49).toInt ∧ (mi 49).toInt ≤ 200) (h8 : 0 ≤ (mi 3).toInt ∧ (mi 3).toInt ≤ 6) (h9 : 0 ≤ (mi 42).toInt ∧ (mi 42).toInt ≤ 40) (h10 : 0 ≤ (mi 44).toInt ∧ (mi 44).toInt ≤ 10) (h11 : 0 ≤ ((mf 1) 5).toInt ∧ ((mf 1) 5).toInt ≤ 200) (lf_words : (∀ j : Nat, j < 154 → (mf 26) j = w0 j)) (lf_rows : rowsOK (mi 3).toInt (mi 6).toInt (mf 2)) (lf_round : rndOK (mi 49).toInt (mi 6).toInt (mf 50)) : Met l yX12_text (Cond.code yX12_text cX12_text 3 (some .int) :: GW) ({ frames := 11, cells := 0, slots := 0, locals := 255 } : Room) (va_Pc [.ref M, .int 4] (PW D cI cJ sz (MW cI cJ M mr mi mf mg) xT)) (va_Qi (fun (r : Int32) (u : Int32 × Int32 × Int32 × Int32 × Int32 × Int32 × Int32 × Int32 × Int32 × Int32 × Int32 × Int32 × (Nat → Int32) × (Nat → Int32) × Int32 × (Nat → Int32) × (Nat → Int32) × (Nat → Int32) × Int32 × Int32 × (Nat → Int32) × Int32) => (u.2.2.2.2.2.2.1.toInt = 0) ∧ (0 ≤ u.2.2.2.2.2.2.2.2.2.2.2.2.2.2.2.2.2.2.2.1.toInt) ∧ (u.2.2.2.2.2.2.2.2.2.2.2.2.2.2.2.2.2.2.2.1.toInt ≤ 200) ∧ (0 ≤ u.2.2.2.2.2.2.2.2.2.2.2.2.2.2.2.2.2.2.2.2.2.toInt) ∧ (u.2.2.2.2.2.2.2.2.2.2.2.2.2.2.2.2.2.2.2.2.2.toInt ≤ 6) ∧ ((u.2.2.2.2.2.2.2.2.2.2.2.2.2.2.2.2.2.2.2.2.1 2).toInt = ((mf 1) 2).toInt) ∧ ((u.2.2.2.2.2.2.2.2.2.2.2.2.2.2.2.2.2.2.2.2.1 3).toInt = ((mf 1) 3).toInt) ∧ (0 ≤ (u.2.2.2.2.2.2.2.2.2.2.2.2.2.2.2.2.2.2.2.2.1 5).toInt) ∧ ((u.2.2.2.2.2.2.2.2.2.2.2.2.2.2.2.2.2.2.2.2.1 5).toInt ≤ 200) ∧ (rowsOK u.2.2.2.2.2.2.2.2.2.2.2.2.2.2.2.2.2.2.2.2.2.toInt (mi 6).toInt (mf 2)) ∧ (rndOK u.2.2.2.2.2.2.2.2.2.2.2.2.2.2.2.2.2.2.2.1.toInt (mi 6).toInt u.2.2.2.2.2.2.2.2.2.2.2.2.2.2.2.2.2.1)) (fun u => QW D cI cJ (va_A (MW cI cJ M mr mi mf mg) sz) ((fun (u : Int32 × Int32 × Int32 × Int32 × Int32 × Int32 × Int32 × Int32 × Int32 × Int32 × Int32 × Int32 × (Nat → Int32) × (Nat → Int32) × Int32 × (Nat → Int32) × (Nat → Int32) × (Nat → Int32) × Int32 × Int32 × (Nat → Int32) × Int32) => (MW cI cJ M mr (upd (upd (upd (upd (upd (upd (upd (upd (upd (upd (upd (upd (upd (upd (upd (upd mi 0 u.1) 40 u.2.1) 41 u.2.2.1) 22 u.2.2.2.1) 34 u.2.2.2.2.1) 35 u.2.2.2.2.2.1) 21 u.2.2.2.2.2.2.1) 23 u.2.2.2.2.2.2.2.1) 24 u.2.2.2.2.2.2.2.2.1) 25 u.2.2.2.2.2.2.2.2.2.1) 38 u.2.2.2.2.2.2.2.2.2.2.1) 39 u.2.2.2.2.2.2.2.2.2.2.2.1) 48 u.2.2.2.2.2.2.2.2.2.2.2.2.2.2.1) 33 u.2.2.2.2.2.2.2.2.2.2.2.2.2.2.2.2.2.2.1) 49 u.2.2.2.2.2.2.2.2.2.2.2.2.2.2.2.2.2.2.2.1) 3 u.2.2.2.2.2.2.2.2.2.2.2.2.2.2.2.2.2.2.2.2.2) (va_up (va_up (va_up (va_up (va_up (va_up mf 46 u.2.2.2.2.2.2.2.2.2.2.2.2.1) 47 u.2.2.2.2.2.2.2.2.2.2.2.2.2.1) 51 u.2.2.2.2.2.2.2.2.2.2.2.2.2.2.2.1) 52 u.2.2.2.2.2.2.2.2.2.2.2.2.2.2.2.2.1) 50 u.2.2.2.2.2.2.2.2.2.2.2.2.2.2.2.2.2.1) 1 u.2.2.2.2.2.2.2.2.2.2.2.2.2.2.2.2.2.2.2.2.1) mg)) u)) (va_A (MW cI cJ M mr mi mf mg) sz)) 0 0 (va_A (MW cI cJ M mr mi mf mg) sz) := by
  refine mk_met (y := yX12_text) (bytes := cX12_text) (maxL := 3) (avs := [.ref M, .int 4]) (WS := (MW cI cJ M mr mi mf mg)) (Qf := fun A => va_Qi (fun (r : Int32) (u : Int32 × Int32 × Int32 × Int32 × Int32 × Int32 × Int32 × Int32 × Int32 × Int32 × Int32 × Int32 × (Nat → Int32) × (Nat → Int32) × Int32 × (Nat → Int32) × (Nat → Int32) × (Nat → Int32) × Int32 × Int32 × (Nat → Int32) × Int32) => (u.2.2.2.2.2.2.1.toInt = 0) ∧ (0 ≤ u.2.2.2.2.2.2.2.2.2.2.2.2.2.2.2.2.2.2.2.1.toInt) ∧ (u.2.2.2.2.2.2.2.2.2.2.2.2.2.2.2.2.2.2.2.1.toInt ≤ 200) ∧ (0 ≤ u.2.2.2.2.2.2.2.2.2.2.2.2.2.2.2.2.2.2.2.2.2.toInt) ∧ (u.2.2.2.2.2.2.2.2.2.2.2.2.2.2.2.2.2.2.2.2.2.toInt ≤ 6) ∧ ((u.2.2.2.2.2.2.2.2.2.2.2.2.2.2.2.2.2.2.2.2.1 2).toInt = ((mf 1) 2).toInt) ∧ ((u.2.2.2.2.2.2.2.2.2.2.2.2.2.2.2.2.2.2.2.2.1 3).toInt = ((mf 1) 3).toInt) ∧ (0 ≤ (u.2.2.2.2.2.2.2.2.2.2.2.2.2.2.2.2.2.2.2.2.1 5).toInt) ∧ ((u.2.2.2.2.2.2.2.2.2.2.2.2.2.2.2.2.2.2.2.2.1 5).toInt ≤ 200) ∧ (rowsOK u.2.2.2.2.2.2.2.2.2.2.2.2.2.2.2.2.2.2.2.2.2.toInt (mi 6).toInt (mf 2)) ∧ (rndOK u.2.2.2.2.2.2.2.2.2.2.2.2.2.2.2.2.2.2.2.1.toInt (mi 6).toInt u.2.2.2.2.2.2.2.2.2.2.2.2.2.2.2.2.2.1)) (fun u => QW D cI cJ A ((fun (u : Int32 × Int32 × Int32 × Int32 × Int32 × Int32 × Int32 × Int32 × Int32 × Int32 × Int32 × Int32 × (Nat → Int32) × (Nat → Int32) × Int32 × (Nat → Int32) × (Nat → Int32) × (Nat → Int32) × Int32 × Int32 × (Nat → Int32) × Int32) => (MW cI cJ M mr (upd (upd (upd (upd (upd (upd (upd (upd (upd (upd (upd (upd (upd (upd (upd (upd mi 0 u.1) 40 u.2.1) 41 u.2.2.1) 22 u.2.2.2.1) 34 u.2.2.2.2.1) 35 u.2.2.2.2.2.1) 21 u.2.2.2.2.2.2.1) 23 u.2.2.2.2.2.2.2.1) 24 u.2.2.2.2.2.2.2.2.1) 25 u.2.2.2.2.2.2.2.2.2.1) 38 u.2.2.2.2.2.2.2.2.2.2.1) 39 u.2.2.2.2.2.2.2.2.2.2.2.1) 48 u.2.2.2.2.2.2.2.2.2.2.2.2.2.2.1) 33 u.2.2.2.2.2.2.2.2.2.2.2.2.2.2.2.2.2.2.1) 49 u.2.2.2.2.2.2.2.2.2.2.2.2.2.2.2.2.2.2.2.1) 3 u.2.2.2.2.2.2.2.2.2.2.2.2.2.2.2.2.2.2.2.2.2) (va_up (va_up (va_up (va_up (va_up (va_up mf 46 u.2.2.2.2.2.2.2.2.2.2.2.2.1) 47 u.2.2.2.2.2.2.2.2.2.2.2.2.2.1) 51 u.2.2.2.2.2.2.2.2.2.2.2.2.2.2.2.1) 52 u.2.2.2.2.2.2.2.2.2.2.2.2.2.2.2.2.1) 50 u.2.2.2.2.2.2.2.2.2.2.2.2.2.2.2.2.2.1) 1 u.2.2.2.2.2.2.2.2.2.2.2.2.2.2.2.2.2.2.2.2.1) mg)) u)) A) (by decide) (Nat.le_of_ble_eq_true rfl) ?_
  intro p e s m below meth c A ls E hr hlk hnm hX hw1 hl2
  have hl3 : lv_has ls 3 [(0, .ref M), (1, .int 4)] := hl2
  refine lv_aload_n (pc := 0) E.1 E.2.1 dX12_text_0 rfl (lv_at hl3 0 rfl) ?_
  refine lv_iconst (pc := 1) (v := 0) E.1 E.2.1 dX12_text_1 (by decide +kernel) ?_
  refine x_put (pc := 2) (T := TX12) (N := 70) (ci := 12) (ws' := (MW cI cJ M mr (upd mi 0 0) mf mg)) E hw1 inX12 tyX12_ok nmX12 0 0 q_1399 rfl rfl (by decide) rfl rfl rfl rfl (Nat.le_of_ble_eq_true rfl) rfl dX12_text_2 (fun H locs hw4 => ?_)
  refine lv_aload_n (pc := 5) E.1 E.2.1 dX12_text_5 rfl (lv_at hl3 0 rfl) ?_
  refine lv_iconst (pc := 6) (v := 0) E.1 E.2.1 dX12_text_6 (by decide +kernel) ?_
  refine x_put (pc := 7) (T := TX12) (N := 70) (ci := 12) (ws' := (MW cI cJ M mr (upd (upd mi 0 0) 40 0) mf mg)) E hw4 inX12 tyX12_ok nmX12 0 40 q_1439 rfl rfl (by decide) rfl rfl rfl rfl (Nat.le_of_ble_eq_true rfl) rfl dX12_text_7 (fun H locs hw5 => ?_)
  refine lv_aload_n (pc := 10) E.1 E.2.1 dX12_text_10 rfl (lv_at hl3 0 rfl) ?_
  refine lv_iconst (pc := 11) (v := (-1)) E.1 E.2.1 dX12_text_11 (by decide +kernel) ?_
  refine x_put (pc := 12) (T := TX12) (N := 70) (ci := 12) (ws' := (MW cI cJ M mr (upd (upd (upd mi 0 0) 40 0) 41 (-1)) mf mg)) E hw5 inX12 tyX12_ok nmX12 0 41 q_1440 rfl rfl (by decide) rfl rfl rfl rfl (Nat.le_of_ble_eq_true rfl) rfl dX12_text_12 (fun H locs hw6 => ?_)
  refine lv_aload_n (pc := 15) E.1 E.2.1 dX12_text_15 rfl (lv_at hl3 0 rfl) ?_
  refine lv_iconst (pc := 16) (v := 0) E.1 E.2.1 dX12_text_16 (by decide +kernel) ?_
  refine x_put (pc := 17) (T := TX12) (N := 70) (ci := 12) (ws' := (MW cI cJ M mr (upd (upd (upd (upd mi 0 0) 22 0) 40 0) 41 (-1)) mf mg)) E hw6 inX12 tyX12_ok nmX12 0 22 q_1421 rfl rfl (by decide) rfl rfl rfl rfl (Nat.le_of_ble_eq_true rfl) rfl dX12_text_17 (fun H locs hw7 => ?_)
  refine lv_aload_n (pc := 20) E.1 E.2.1 dX12_text_20 rfl (lv_at hl3 0 rfl) ?_
  refine lv_iconst (pc := 21) (v := 0) E.1 E.2.1 dX12_text_21 (by decide +kernel) ?_
  refine x_put (pc := 22) (T := TX12) (N := 70) (ci := 12) (ws' := (MW cI cJ M mr (upd (upd (upd (upd (upd mi 0 0) 22 0) 34 0) 40 0) 41 (-1)) mf mg)) E hw7 inX12 tyX12_ok nmX12 0 34 q_1433 rfl rfl (by decide) rfl rfl rfl rfl (Nat.le_of_ble_eq_true rfl) rfl dX12_text_22 (fun H locs hw8 => ?_)
  refine lv_aload_n (pc := 25) E.1 E.2.1 dX12_text_25 rfl (lv_at hl3 0 rfl) ?_
  refine lv_iconst (pc := 26) (v := 0) E.1 E.2.1 dX12_text_26 (by decide +kernel) ?_
  refine x_put (pc := 27) (T := TX12) (N := 70) (ci := 12) (ws' := (MW cI cJ M mr (upd (upd (upd (upd (upd (upd mi 0 0) 22 0) 34 0) 35 0) 40 0) 41 (-1)) mf mg)) E hw8 inX12 tyX12_ok nmX12 0 35 q_1434 rfl rfl (by decide) rfl rfl rfl rfl (Nat.le_of_ble_eq_true rfl) rfl dX12_text_27 (fun H locs hw9 => ?_)
  refine lv_iconst (pc := 30) (v := (-1)) E.1 E.2.1 dX12_text_30 (by decide +kernel) ?_
  refine lv_istore_n (pc := 31) (lv' := [(2, .int (-1)), (0, .ref M), (1, .int 4)]) E.1 E.2.1 dX12_text_31 rfl hl3 (by decide) rfl (fun ls hl10 => ?_)
  refine lv_aload_n (pc := 32) E.1 E.2.1 dX12_text_32 rfl (lv_at hl10 1 rfl) ?_
  refine lv_iload_n (pc := 33) E.1 E.2.1 dX12_text_33 rfl (lv_at hl10 2 rfl) ?_
  refine lv_iconst (pc := 34) (v := 0) E.1 E.2.1 dX12_text_34 (by decide +kernel) ?_
  refine lv_iconst (pc := 35) (v := 4) E.1 E.2.1 dX12_text_35 (by decide +kernel) ?_
  refine cm_i (pc := 36) hw9 (rn_M (As := [.int 4, .int 0, .int 4]) (rest := []) E hw9 (s_isIn l D cI cJ _ M mr (upd (upd (upd (upd (upd (upd mi 0 0) 22 0) 34 0) 35 0) 40 0) 41 (-1)) mf mg 4 0 4) (gdV q_1622 q_1624 q_46 q_162 q_1625) hdV_X12_isIn ⟨rfl, rfl⟩ ⟨(Nat.le_of_ble_eq_true rfl), (Nat.le_of_ble_eq_true rfl)⟩ ⟨(Nat.le_of_ble_eq_true rfl), (Nat.le_of_ble_eq_true rfl)⟩ 12 rfl rfl rfl rfl hl10.1 rfl (Nat.le_of_ble_eq_true rfl) dX12_text_36) (fun r_12 u_11 H1 locs hp hw13 => ?_)
  generalize H1 = H at hw13 ⊢
  have hw14 : WD D A s.heap (MW cI cJ M mr (upd (upd (upd (upd (upd (upd mi 0 0) 22 0) 34 0) 35 0) 40 0) 41 (-1)) mf mg) H locs := hw13
  have hp_15 := hp
  rcases hp_15 with ⟨rfl, ha_16⟩ | ⟨rfl, ha_17⟩ | ⟨rfl, ha_18, ha_19⟩
  · skip
    have ha_16 : (4 : Int32).toInt < (0 : Int32).toInt := ha_16
    rw [show (4 : Int32).toInt = 4 from by decide +kernel] at ha_16
    rw [show (0 : Int32).toInt = 0 from by decide +kernel] at ha_16
    exfalso; omega
  · skip
    have ha_17 : (4 : Int32).toInt < (4 : Int32).toInt := ha_17
    rw [show (4 : Int32).toInt = 4 from by decide +kernel] at ha_17
    exfalso; omega
  · skip
    have ha_18 : (0 : Int32).toInt ≤ (4 : Int32).toInt := ha_18
    rw [show (4 : Int32).toInt = 4 from by decide +kernel] at ha_18
    rw [show (0 : Int32).toInt = 0 from by decide +kernel] at ha_18
    have ha_19 : (4 : Int32).toInt ≤ (4 : Int32).toInt := ha_19
    rw [show (4 : Int32).toInt = 4 from by decide +kernel] at ha_19
    refine lv_if_eq (pc := 39) (tgt := 69) E.1 E.2.1 dX12_text_39 (by decide) (fun c_20 => absurd c_20 (mneE (a := 1) (b := 0) (by decide +kernel) (by decide +kernel) (by omega))) (fun _ => ?_)
    refine lv_aload_n (pc := 42) E.1 E.2.1 dX12_text_42 rfl (lv_at hl10 1 rfl) ?_
    refine lv_iload_n (pc := 43) E.1 E.2.1 dX12_text_43 rfl (lv_at hl10 2 rfl) ?_
    refine cm_i (pc := 44) hw14 (rn_M (As := [.int 4]) (rest := []) E hw14 (s_readsText4 l D cI cJ _ M mr (upd (upd (upd (upd (upd (upd mi 0 0) 22 0) 34 0) 35 0) 40 0) 41 (-1)) mf mg (by show 0 ≤ (0 : Int32).toInt; have k_1 : (0 : Int32).toInt = 0 := (by decide +kernel); omega) (by show (0 : Int32).toInt ≤ (mi 21).toInt; have k_1 : (0 : Int32).toInt = 0 := (by decide +kernel); omega) h0.2 h1 h2 (by show (0 : Int32).toInt = 0; have k_1 : (0 : Int32).toInt = 0 := (by decide +kernel); omega) h7.2 (show (∀ j : Nat, j < 154 → (mf 26) j = w0 j) from lf_words) (show rndOK (mi 49).toInt (mi 6).toInt (mf 50) from lf_round)) (gdV q_1662 q_1664 q_51 q_162 q_1665) hdV_X12_readsText ⟨rfl, rfl⟩ ⟨(Nat.le_of_ble_eq_true rfl), (Nat.le_of_ble_eq_true rfl)⟩ ⟨(Nat.le_of_ble_eq_true rfl), (Nat.le_of_ble_eq_true rfl)⟩ 12 rfl rfl rfl rfl hl10.1 rfl (Nat.le_of_ble_eq_true rfl) dX12_text_44) (fun r_22 u_21 H1 locs hp hw23 => ?_)
    obtain ⟨nspot_24, nfrom_25, ntoken_26, nvalue_27, nreadFault_28, nreadPlace_29, gstepOp_30, gstepHow_31, nsteps_32, nopen_33, gbackTo_34, gtimesLeft_35, ground_36, nwhich_37⟩ := u_21
    generalize H1 = H at hw23 ⊢
    have hw38 : WD D A s.heap (MW cI cJ M mr (upd (upd (upd (upd (upd (upd (upd (upd (upd (upd (upd (upd (upd mi 0 0) 22 nspot_24) 23 nfrom_25) 24 ntoken_26) 25 nvalue_27) 33 nwhich_37) 34 0) 35 nopen_33) 38 nreadFault_28) 39 nreadPlace_29) 40 0) 41 (-1)) 48 nsteps_32) (va_up (va_up (va_up (va_up (va_up mf 46 gstepOp_30) 47 gstepHow_31) 50 ground_36) 51 gbackTo_34) 52 gtimesLeft_35) mg) H locs := hw23
    obtain ⟨hp_39, hp_40, hp_41⟩ := hp
    have hp_39 : rndOK (mi 49).toInt (mi 6).toInt ground_36 := hp_39
    have hp_40 : (0 ≤ (r_22 : Int32).toInt → rnd2 ground_36 (r_22 : Int32).toInt (mi 6).toInt) := hp_40
    rcases hp_41 with rfl | ⟨ha_42, ha_43⟩
    · skip
      refine lv_istore_n (pc := 47) (lv' := [(2, .int (-1)), (0, .ref M), (1, .int 4)]) E.1 E.2.1 dX12_text_47 rfl hl10 (by decide) rfl (fun ls hl44 => ?_)
      refine lv_iload_n (pc := 48) E.1 E.2.1 dX12_text_48 rfl (lv_at hl44 0 rfl) ?_
      refine lv_iconst (pc := 49) (v := (-1)) E.1 E.2.1 dX12_text_49 (by decide +kernel) ?_
      refine lv_icmp_ne (pc := 50) (tgt := 69) E.1 E.2.1 dX12_text_50 (by decide) (fun c_45 => absurd (meqE (a := (-1)) (b := (-1)) (by decide +kernel) (by decide +kernel) (by omega)) c_45) (fun _ => ?_)
      refine lv_aload_n (pc := 53) E.1 E.2.1 dX12_text_53 rfl (lv_at hl44 1 rfl) ?_
      refine lv_aload_n (pc := 54) E.1 E.2.1 dX12_text_54 rfl (lv_at hl44 1 rfl) ?_
      refine x_get (pc := 55) (T := TX12) (N := 70) (ci := 12) (v := .int nreadFault_28) E hw38 inX12 0 38 q_1437 rfl rfl (by decide) rfl rfl dX12_text_55 ?_
      refine x_put (pc := 58) (T := TX12) (N := 70) (ci := 12) (ws' := (MW cI cJ M mr (upd (upd (upd (upd (upd (upd (upd (upd (upd (upd (upd (upd (upd mi 0 0) 22 nspot_24) 23 nfrom_25) 24 ntoken_26) 25 nvalue_27) 33 nwhich_37) 34 0) 35 nopen_33) 38 nreadFault_28) 39 nreadPlace_29) 40 nreadFault_28) 41 (-1)) 48 nsteps_32) (va_up (va_up (va_up (va_up (va_up mf 46 gstepOp_30) 47 gstepHow_31) 50 ground_36) 51 gbackTo_34) 52 gtimesLeft_35) mg)) E hw38 inX12 tyX12_ok nmX12 0 40 q_1439 rfl rfl (by decide) rfl rfl rfl rfl (Nat.le_of_ble_eq_true rfl) rfl dX12_text_58 (fun H locs hw46 => ?_)
      refine lv_aload_n (pc := 61) E.1 E.2.1 dX12_text_61 rfl (lv_at hl44 1 rfl) ?_
      refine lv_aload_n (pc := 62) E.1 E.2.1 dX12_text_62 rfl (lv_at hl44 1 rfl) ?_
      refine x_get (pc := 63) (T := TX12) (N := 70) (ci := 12) (v := .int nreadPlace_29) E hw46 inX12 0 39 q_1438 rfl rfl (by decide) rfl rfl dX12_text_63 ?_
      refine x_put (pc := 66) (T := TX12) (N := 70) (ci := 12) (ws' := (MW cI cJ M mr (upd (upd (upd (upd (upd (upd (upd (upd (upd (upd (upd (upd (upd mi 0 0) 22 nspot_24) 23 nfrom_25) 24 ntoken_26) 25 nvalue_27) 33 nwhich_37) 34 0) 35 nopen_33) 38 nreadFault_28) 39 nreadPlace_29) 40 nreadFault_28) 41 nreadPlace_29) 48 nsteps_32) (va_up (va_up (va_up (va_up (va_up mf 46 gstepOp_30) 47 gstepHow_31) 50 ground_36) 51 gbackTo_34) 52 gtimesLeft_35) mg)) E hw46 inX12 tyX12_ok nmX12 0 41 q_1440 rfl rfl (by decide) rfl rfl rfl rfl (Nat.le_of_ble_eq_true rfl) rfl dX12_text_66 (fun H locs hw47 => ?_)
      refine lv_aload_n (pc := 69) E.1 E.2.1 dX12_text_69 rfl (lv_at hl44 1 rfl) ?_
      refine lv_iconst (pc := 70) (v := 0) E.1 E.2.1 dX12_text_70 (by decide +kernel) ?_
      refine x_put (pc := 71) (T := TX12) (N := 70) (ci := 12) (ws' := (MW cI cJ M mr (upd (upd (upd (upd (upd (upd (upd (upd (upd (upd (upd (upd (upd (upd mi 0 0) 21 0) 22 nspot_24) 23 nfrom_25) 24 ntoken_26) 25 nvalue_27) 33 nwhich_37) 34 0) 35 nopen_33) 38 nreadFault_28) 39 nreadPlace_29) 40 nreadFault_28) 41 nreadPlace_29) 48 nsteps_32) (va_up (va_up (va_up (va_up (va_up mf 46 gstepOp_30) 47 gstepHow_31) 50 ground_36) 51 gbackTo_34) 52 gtimesLeft_35) mg)) E hw47 inX12 tyX12_ok nmX12 0 21 q_1420 rfl rfl (by decide) rfl rfl rfl rfl (Nat.le_of_ble_eq_true rfl) rfl dX12_text_71 (fun H locs hw48 => ?_)
      refine lv_iload_n (pc := 74) E.1 E.2.1 dX12_text_74 rfl (lv_at hl44 0 rfl) ?_
      refine lv_iconst (pc := 75) (v := (-1)) E.1 E.2.1 dX12_text_75 (by decide +kernel) ?_
      refine lv_icmp_ne (pc := 76) (tgt := 81) E.1 E.2.1 dX12_text_76 (by decide) (fun c_49 => absurd (meqE (a := (-1)) (b := (-1)) (by decide +kernel) (by decide +kernel) (by omega)) c_49) (fun _ => ?_)
      refine lv_iconst (pc := 79) (v := (-1)) E.1 E.2.1 dX12_text_79 (by decide +kernel) ?_
      exact em_i (w1 := (fun (u : Int32 × Int32 × Int32 × Int32 × Int32 × Int32 × Int32 × Int32 × Int32 × Int32 × Int32 × Int32 × (Nat → Int32) × (Nat → Int32) × Int32 × (Nat → Int32) × (Nat → Int32) × (Nat → Int32) × Int32 × Int32 × (Nat → Int32) × Int32) => (MW cI cJ M mr (upd (upd (upd (upd (upd (upd (upd (upd (upd (upd (upd (upd (upd (upd (upd (upd mi 0 u.1) 40 u.2.1) 41 u.2.2.1) 22 u.2.2.2.1) 34 u.2.2.2.2.1) 35 u.2.2.2.2.2.1) 21 u.2.2.2.2.2.2.1) 23 u.2.2.2.2.2.2.2.1) 24 u.2.2.2.2.2.2.2.2.1) 25 u.2.2.2.2.2.2.2.2.2.1) 38 u.2.2.2.2.2.2.2.2.2.2.1) 39 u.2.2.2.2.2.2.2.2.2.2.2.1) 48 u.2.2.2.2.2.2.2.2.2.2.2.2.2.2.1) 33 u.2.2.2.2.2.2.2.2.2.2.2.2.2.2.2.2.2.2.1) 49 u.2.2.2.2.2.2.2.2.2.2.2.2.2.2.2.2.2.2.2.1) 3 u.2.2.2.2.2.2.2.2.2.2.2.2.2.2.2.2.2.2.2.2.2) (va_up (va_up (va_up (va_up (va_up (va_up mf 46 u.2.2.2.2.2.2.2.2.2.2.2.2.1) 47 u.2.2.2.2.2.2.2.2.2.2.2.2.2.1) 51 u.2.2.2.2.2.2.2.2.2.2.2.2.2.2.2.1) 52 u.2.2.2.2.2.2.2.2.2.2.2.2.2.2.2.2.1) 50 u.2.2.2.2.2.2.2.2.2.2.2.2.2.2.2.2.2.1) 1 u.2.2.2.2.2.2.2.2.2.2.2.2.2.2.2.2.2.2.2.2.1) mg))) E hr hlk (0, nreadFault_28, nreadPlace_29, nspot_24, 0, nopen_33, 0, nfrom_25, ntoken_26, nvalue_27, nreadFault_28, nreadPlace_29, gstepOp_30, gstepHow_31, nsteps_32, gbackTo_34, gtimesLeft_35, ground_36, nwhich_37, (mi 49), (mf 1), (mi 3)) hw48 ⟨(by show (0 : Int32).toInt = 0; have k_0 : (0 : Int32).toInt = 0 := (by decide +kernel); have k_1 : (0 : Int32).toInt = 0 := (by decide +kernel); have k_2 : (0 : Int32).toInt = 0 := (by decide +kernel); have k_3 : ((-1) : Int32).toInt = -1 := (by decide +kernel); omega), h7.1, h7.2, h8.1, h8.2, rfl, rfl, h11.1, h11.2, lf_rows, hp_39⟩ (Nat.le_of_ble_eq_true rfl) (Nat.le_of_ble_eq_true rfl) dX12_text_80
    · skip
      have ha_42 : 0 ≤ r_22.toInt := ha_42
      have ha_43 : r_22.toInt ≤ 200 := ha_43
      refine lv_istore_n (pc := 47) (lv' := [(2, .int r_22), (0, .ref M), (1, .int 4)]) E.1 E.2.1 dX12_text_47 rfl hl10 (by decide) rfl (fun ls hl50 => ?_)
      refine lv_iload_n (pc := 48) E.1 E.2.1 dX12_text_48 rfl (lv_at hl50 0 rfl) ?_
      refine lv_iconst (pc := 49) (v := (-1)) E.1 E.2.1 dX12_text_49 (by decide +kernel) ?_
      refine lv_icmp_ne (pc := 50) (tgt := 69) E.1 E.2.1 dX12_text_50 (by decide) (fun _ => ?_) (fun c_51 => absurd c_51 (mneE (a := r_22.toInt) (b := (-1)) rfl (by decide +kernel) (by omega)))
      refine lv_aload_n (pc := 69) E.1 E.2.1 dX12_text_69 rfl (lv_at hl50 1 rfl) ?_
      refine lv_iconst (pc := 70) (v := 0) E.1 E.2.1 dX12_text_70 (by decide +kernel) ?_
      refine x_put (pc := 71) (T := TX12) (N := 70) (ci := 12) (ws' := (MW cI cJ M mr (upd (upd (upd (upd (upd (upd (upd (upd (upd (upd (upd (upd (upd (upd mi 0 0) 21 0) 22 nspot_24) 23 nfrom_25) 24 ntoken_26) 25 nvalue_27) 33 nwhich_37) 34 0) 35 nopen_33) 38 nreadFault_28) 39 nreadPlace_29) 40 0) 41 (-1)) 48 nsteps_32) (va_up (va_up (va_up (va_up (va_up mf 46 gstepOp_30) 47 gstepHow_31) 50 ground_36) 51 gbackTo_34) 52 gtimesLeft_35) mg)) E hw38 inX12 tyX12_ok nmX12 0 21 q_1420 rfl rfl (by decide) rfl rfl rfl rfl (Nat.le_of_ble_eq_true rfl) rfl dX12_text_71 (fun H locs hw52 => ?_)
      refine lv_iload_n (pc := 74) E.1 E.2.1 dX12_text_74 rfl (lv_at hl50 0 rfl) ?_
      refine lv_iconst (pc := 75) (v := (-1)) E.1 E.2.1 dX12_text_75 (by decide +kernel) ?_
      refine lv_icmp_ne (pc := 76) (tgt := 81) E.1 E.2.1 dX12_text_76 (by decide) (fun _ => ?_) (fun c_53 => absurd c_53 (mneE (a := r_22.toInt) (b := (-1)) rfl (by decide +kernel) (by omega)))
      refine lv_iload_n (pc := 81) E.1 E.2.1 dX12_text_81 rfl (lv_at hl50 2 rfl) ?_
      refine lv_iconst (pc := 82) (v := 1) E.1 E.2.1 dX12_text_82 (by decide +kernel) ?_
      refine lv_icmp_gt (pc := 83) (tgt := 94) E.1 E.2.1 dX12_text_83 (by decide) (fun _ => ?_) (fun c_54 => absurd (mltE (a := 1) (b := 4) (by decide +kernel) (by decide +kernel) (by omega)) c_54)
      refine lv_aload_n (pc := 94) E.1 E.2.1 dX12_text_94 rfl (lv_at hl50 1 rfl) ?_
      refine lv_iload_n (pc := 95) E.1 E.2.1 dX12_text_95 rfl (lv_at hl50 2 rfl) ?_
      refine lv_iload_n (pc := 96) E.1 E.2.1 dX12_text_96 rfl (lv_at hl50 0 rfl) ?_
      refine cm_v (pc := 97) hw52 (rn_M (As := [.int 4, .int r_22]) (rest := []) E hw52 (s_takesOther4 l D cI cJ _ M mr (upd (upd (upd (upd (upd (upd (upd (upd (upd (upd (upd (upd (upd (upd mi 0 0) 21 0) 22 nspot_24) 23 nfrom_25) 24 ntoken_26) 25 nvalue_27) 33 nwhich_37) 34 0) 35 nopen_33) 38 nreadFault_28) 39 nreadPlace_29) 40 0) 41 (-1)) 48 nsteps_32) (va_up (va_up (va_up (va_up (va_up mf 46 gstepOp_30) 47 gstepHow_31) 50 ground_36) 51 gbackTo_34) 52 gtimesLeft_35) mg r_22 (by show 0 ≤ r_22.toInt ∧ r_22.toInt ≤ 200; omega) (show rnd2 ground_36 r_22.toInt (mi 6).toInt from (hp_40 (by omega)))) (gdV q_1810 q_1812 q_88 q_162 q_1813) hdV_X12_takesOther ⟨rfl, rfl⟩ ⟨(Nat.le_of_ble_eq_true rfl), (Nat.le_of_ble_eq_true rfl)⟩ ⟨(Nat.le_of_ble_eq_true rfl), (Nat.le_of_ble_eq_true rfl)⟩ 12 rfl rfl rfl rfl hl50.1 rfl (Nat.le_of_ble_eq_true rfl) dX12_text_97) (fun u_55 H1 locs hp hw57 => ?_)
      obtain ⟨ground_58, nroundMany_59, gnow_60, nundoable_61⟩ := u_55
      generalize H1 = H at hw57 ⊢
      have hw62 : WD D A s.heap (MW cI cJ M mr (upd (upd (upd (upd (upd (upd (upd (upd (upd (upd (upd (upd (upd (upd (upd (upd mi 0 0) 3 nundoable_61) 21 0) 22 nspot_24) 23 nfrom_25) 24 ntoken_26) 25 nvalue_27) 33 nwhich_37) 34 0) 35 nopen_33) 38 nreadFault_28) 39 nreadPlace_29) 40 0) 41 (-1)) 48 nsteps_32) 49 nroundMany_59) (va_up (va_up (va_up (va_up (va_up (va_up mf 1 gnow_60) 46 gstepOp_30) 47 gstepHow_31) 50 ground_58) 51 gbackTo_34) 52 gtimesLeft_35) mg) H locs := hw57
      obtain ⟨hp_63, hp_64, hp_65, hp_66, hp_67, hp_68, hp_69⟩ := hp
      have hp_63 : nroundMany_59.toInt = r_22.toInt := hp_63
      have hp_64 : nundoable_61.toInt = 0 := hp_64
      have hp_65 : (gnow_60 2).toInt = ((mf 1) 2).toInt := hp_65
      have hp_66 : (gnow_60 3).toInt = ((mf 1) 3).toInt := hp_66
      have hp_67 : (gnow_60 5).toInt = 0 := hp_67
      have hp_68 : rowsOK nundoable_61.toInt (mi 6).toInt (mf 2) := hp_68
      have hp_69 : rndOK nroundMany_59.toInt (mi 6).toInt ground_58 := hp_69
      refine lv_iload_n (pc := 100) E.1 E.2.1 dX12_text_100 rfl (lv_at hl50 0 rfl) ?_
      exact em_i (w1 := (fun (u : Int32 × Int32 × Int32 × Int32 × Int32 × Int32 × Int32 × Int32 × Int32 × Int32 × Int32 × Int32 × (Nat → Int32) × (Nat → Int32) × Int32 × (Nat → Int32) × (Nat → Int32) × (Nat → Int32) × Int32 × Int32 × (Nat → Int32) × Int32) => (MW cI cJ M mr (upd (upd (upd (upd (upd (upd (upd (upd (upd (upd (upd (upd (upd (upd (upd (upd mi 0 u.1) 40 u.2.1) 41 u.2.2.1) 22 u.2.2.2.1) 34 u.2.2.2.2.1) 35 u.2.2.2.2.2.1) 21 u.2.2.2.2.2.2.1) 23 u.2.2.2.2.2.2.2.1) 24 u.2.2.2.2.2.2.2.2.1) 25 u.2.2.2.2.2.2.2.2.2.1) 38 u.2.2.2.2.2.2.2.2.2.2.1) 39 u.2.2.2.2.2.2.2.2.2.2.2.1) 48 u.2.2.2.2.2.2.2.2.2.2.2.2.2.2.1) 33 u.2.2.2.2.2.2.2.2.2.2.2.2.2.2.2.2.2.2.1) 49 u.2.2.2.2.2.2.2.2.2.2.2.2.2.2.2.2.2.2.2.1) 3 u.2.2.2.2.2.2.2.2.2.2.2.2.2.2.2.2.2.2.2.2.2) (va_up (va_up (va_up (va_up (va_up (va_up mf 46 u.2.2.2.2.2.2.2.2.2.2.2.2.1) 47 u.2.2.2.2.2.2.2.2.2.2.2.2.2.1) 51 u.2.2.2.2.2.2.2.2.2.2.2.2.2.2.2.1) 52 u.2.2.2.2.2.2.2.2.2.2.2.2.2.2.2.2.1) 50 u.2.2.2.2.2.2.2.2.2.2.2.2.2.2.2.2.2.1) 1 u.2.2.2.2.2.2.2.2.2.2.2.2.2.2.2.2.2.2.2.2.1) mg))) E hr hlk (0, 0, (-1), nspot_24, 0, nopen_33, 0, nfrom_25, ntoken_26, nvalue_27, nreadFault_28, nreadPlace_29, gstepOp_30, gstepHow_31, nsteps_32, gbackTo_34, gtimesLeft_35, ground_58, nwhich_37, nroundMany_59, gnow_60, nundoable_61) hw62 ⟨(by show (0 : Int32).toInt = 0; have k_0 : (0 : Int32).toInt = 0 := (by decide +kernel); have k_1 : (0 : Int32).toInt = 0 := (by decide +kernel); have k_2 : (0 : Int32).toInt = 0 := (by decide +kernel); have k_3 : (0 : Int32).toInt = 0 := (by decide +kernel); have k_4 : ((-1) : Int32).toInt = -1 := (by decide +kernel); omega), (ax73r37c_0 hp_63 ha_42), (ax73r37c_4 hp_63 ha_43), (ax73r37c_2 hp_64), (ax73r37c_3 hp_64), hp_65, hp_66, (ax73r37c_2 hp_67), (ax73r37c_5 hp_67), hp_68, hp_69⟩ (Nat.le_of_ble_eq_true rfl) (Nat.le_of_ble_eq_true rfl) dX12_text_101

set_option maxHeartbeats 4000000 in
set_option maxRecDepth 100000 in
theorem s_text0 (l : Launch) (D : va_G) (cI cJ : ClassId) (sz M : Nat) (mr : Nat → Nat) (mi : Nat → Int32) (mf : Nat → Nat → Int32) (mg : Nat → Nat → Int64)  (h0 : 0 ≤ (mi 21).toInt ∧ (mi 21).toInt ≤ 400) (h1 : ((mf 26) 153).toInt = 32) (h2 : 0 ≤ (mi 6).toInt ∧ (mi 6).toInt ≤ 10) (h3 : 0 ≤ ((mf 27) 0).toInt) (h4 : ((mf 27) 0).toInt ≤ 16) (h5 : 0 ≤ ((mf 27) 1).toInt) (h6 : ((mf 27) 1).toInt ≤ 16) (h7 : 0 ≤ (mi 49).toInt ∧ (mi 49).toInt ≤ 200) (h8 : 0 ≤ (mi 3).toInt ∧ (mi 3).toInt ≤ 6) (h9 : 0 ≤ (mi 42).toInt ∧ (mi 42).toInt ≤ 40) (h10 : 0 ≤ (mi 44).toInt ∧ (mi 44).toInt ≤ 10) (lf_words : (∀ j : Nat, j < 154 → (mf 26) j = w0 j)) (lf_law0 : LW 0 0 (mf 31) (mf 32) (mf 28) (mf 29) (mf 30) ((mf 27) 0).toInt 400) (lf_law1 : LW 16 400 (mf 31) (mf 32) (mf 28) (mf 29) (mf 30) ((mf 27) 1).toInt 400) : Met l yX12_text (Cond.code yX12_text cX12_text 3 (some .int) :: GW) ({ frames := 11, cells := 0, slots := 0, locals := 255 } : Room) (va_Pc [.ref M, .int 0] (PW D cI cJ sz (MW cI cJ M mr mi mf mg) xT)) (va_Qi (fun (r : Int32) (u : Int32 × Int32 × Int32 × Int32 × Int32 × Int32 × Int32 × Int32 × Int32 × Int32 × (Nat → Int32) × (Nat → Int32) × Int32 × Int32 × (Nat → Int32) × Int32 × (Nat → Int32) × (Nat → Int32) × (Nat → Int32) × Int32 × (Nat → Int32)) => (u.2.2.2.2.2.2.1.toInt = 0) ∧ (0 ≤ (u.2.2.2.2.2.2.2.2.2.2.2.2.2.2.2.2.2.2.2.2 0).toInt) ∧ ((u.2.2.2.2.2.2.2.2.2.2.2.2.2.2.2.2.2.2.2.2 0).toInt ≤ 16) ∧ (0 ≤ (u.2.2.2.2.2.2.2.2.2.2.2.2.2.2.2.2.2.2.2.2 1).toInt) ∧ ((u.2.2.2.2.2.2.2.2.2.2.2.2.2.2.2.2.2.2.2.2 1).toInt ≤ 16) ∧ (LW 0 0 u.2.2.2.2.2.2.2.2.2.2.1 u.2.2.2.2.2.2.2.2.2.2.2.1 u.2.2.2.2.2.2.2.2.2.2.2.2.2.2.2.2.1 u.2.2.2.2.2.2.2.2.2.2.2.2.2.2.2.2.2.1 u.2.2.2.2.2.2.2.2.2.2.2.2.2.2.2.2.2.2.1 (u.2.2.2.2.2.2.2.2.2.2.2.2.2.2.2.2.2.2.2.2 0).toInt 400) ∧ (LW 16 400 u.2.2.2.2.2.2.2.2.2.2.1 u.2.2.2.2.2.2.2.2.2.2.2.1 u.2.2.2.2.2.2.2.2.2.2.2.2.2.2.2.2.1 u.2.2.2.2.2.2.2.2.2.2.2.2.2.2.2.2.2.1 u.2.2.2.2.2.2.2.2.2.2.2.2.2.2.2.2.2.2.1 (u.2.2.2.2.2.2.2.2.2.2.2.2.2.2.2.2.2.2.2.2 1).toInt 400)) (fun u => QW D cI cJ (va_A (MW cI cJ M mr mi mf mg) sz) ((fun (u : Int32 × Int32 × Int32 × Int32 × Int32 × Int32 × Int32 × Int32 × Int32 × Int32 × (Nat → Int32) × (Nat → Int32) × Int32 × Int32 × (Nat → Int32) × Int32 × (Nat → Int32) × (Nat → Int32) × (Nat → Int32) × Int32 × (Nat → Int32)) => (MW cI cJ M mr (upd (upd (upd (upd (upd (upd (upd (upd (upd (upd (upd (upd (upd (upd mi 0 u.1) 40 u.2.1) 41 u.2.2.1) 22 u.2.2.2.1) 34 u.2.2.2.2.1) 35 u.2.2.2.2.2.1) 21 u.2.2.2.2.2.2.1) 23 u.2.2.2.2.2.2.2.1) 24 u.2.2.2.2.2.2.2.2.1) 25 u.2.2.2.2.2.2.2.2.2.1) 38 u.2.2.2.2.2.2.2.2.2.2.2.2.1) 39 u.2.2.2.2.2.2.2.2.2.2.2.2.2.1) 37 u.2.2.2.2.2.2.2.2.2.2.2.2.2.2.2.1) 33 u.2.2.2.2.2.2.2.2.2.2.2.2.2.2.2.2.2.2.2.1) (va_up (va_up (va_up (va_up (va_up (va_up (va_up mf 31 u.2.2.2.2.2.2.2.2.2.2.1) 32 u.2.2.2.2.2.2.2.2.2.2.2.1) 36 u.2.2.2.2.2.2.2.2.2.2.2.2.2.2.1) 28 u.2.2.2.2.2.2.2.2.2.2.2.2.2.2.2.2.1) 29 u.2.2.2.2.2.2.2.2.2.2.2.2.2.2.2.2.2.1) 30 u.2.2.2.2.2.2.2.2.2.2.2.2.2.2.2.2.2.2.1) 27 u.2.2.2.2.2.2.2.2.2.2.2.2.2.2.2.2.2.2.2.2) mg)) u)) (va_A (MW cI cJ M mr mi mf mg) sz)) 0 0 (va_A (MW cI cJ M mr mi mf mg) sz) := by
  refine mk_met (y := yX12_text) (bytes := cX12_text) (maxL := 3) (avs := [.ref M, .int 0]) (WS := (MW cI cJ M mr mi mf mg)) (Qf := fun A => va_Qi (fun (r : Int32) (u : Int32 × Int32 × Int32 × Int32 × Int32 × Int32 × Int32 × Int32 × Int32 × Int32 × (Nat → Int32) × (Nat → Int32) × Int32 × Int32 × (Nat → Int32) × Int32 × (Nat → Int32) × (Nat → Int32) × (Nat → Int32) × Int32 × (Nat → Int32)) => (u.2.2.2.2.2.2.1.toInt = 0) ∧ (0 ≤ (u.2.2.2.2.2.2.2.2.2.2.2.2.2.2.2.2.2.2.2.2 0).toInt) ∧ ((u.2.2.2.2.2.2.2.2.2.2.2.2.2.2.2.2.2.2.2.2 0).toInt ≤ 16) ∧ (0 ≤ (u.2.2.2.2.2.2.2.2.2.2.2.2.2.2.2.2.2.2.2.2 1).toInt) ∧ ((u.2.2.2.2.2.2.2.2.2.2.2.2.2.2.2.2.2.2.2.2 1).toInt ≤ 16) ∧ (LW 0 0 u.2.2.2.2.2.2.2.2.2.2.1 u.2.2.2.2.2.2.2.2.2.2.2.1 u.2.2.2.2.2.2.2.2.2.2.2.2.2.2.2.2.1 u.2.2.2.2.2.2.2.2.2.2.2.2.2.2.2.2.2.1 u.2.2.2.2.2.2.2.2.2.2.2.2.2.2.2.2.2.2.1 (u.2.2.2.2.2.2.2.2.2.2.2.2.2.2.2.2.2.2.2.2 0).toInt 400) ∧ (LW 16 400 u.2.2.2.2.2.2.2.2.2.2.1 u.2.2.2.2.2.2.2.2.2.2.2.1 u.2.2.2.2.2.2.2.2.2.2.2.2.2.2.2.2.1 u.2.2.2.2.2.2.2.2.2.2.2.2.2.2.2.2.2.1 u.2.2.2.2.2.2.2.2.2.2.2.2.2.2.2.2.2.2.1 (u.2.2.2.2.2.2.2.2.2.2.2.2.2.2.2.2.2.2.2.2 1).toInt 400)) (fun u => QW D cI cJ A ((fun (u : Int32 × Int32 × Int32 × Int32 × Int32 × Int32 × Int32 × Int32 × Int32 × Int32 × (Nat → Int32) × (Nat → Int32) × Int32 × Int32 × (Nat → Int32) × Int32 × (Nat → Int32) × (Nat → Int32) × (Nat → Int32) × Int32 × (Nat → Int32)) => (MW cI cJ M mr (upd (upd (upd (upd (upd (upd (upd (upd (upd (upd (upd (upd (upd (upd mi 0 u.1) 40 u.2.1) 41 u.2.2.1) 22 u.2.2.2.1) 34 u.2.2.2.2.1) 35 u.2.2.2.2.2.1) 21 u.2.2.2.2.2.2.1) 23 u.2.2.2.2.2.2.2.1) 24 u.2.2.2.2.2.2.2.2.1) 25 u.2.2.2.2.2.2.2.2.2.1) 38 u.2.2.2.2.2.2.2.2.2.2.2.2.1) 39 u.2.2.2.2.2.2.2.2.2.2.2.2.2.1) 37 u.2.2.2.2.2.2.2.2.2.2.2.2.2.2.2.1) 33 u.2.2.2.2.2.2.2.2.2.2.2.2.2.2.2.2.2.2.2.1) (va_up (va_up (va_up (va_up (va_up (va_up (va_up mf 31 u.2.2.2.2.2.2.2.2.2.2.1) 32 u.2.2.2.2.2.2.2.2.2.2.2.1) 36 u.2.2.2.2.2.2.2.2.2.2.2.2.2.2.1) 28 u.2.2.2.2.2.2.2.2.2.2.2.2.2.2.2.2.1) 29 u.2.2.2.2.2.2.2.2.2.2.2.2.2.2.2.2.2.1) 30 u.2.2.2.2.2.2.2.2.2.2.2.2.2.2.2.2.2.2.1) 27 u.2.2.2.2.2.2.2.2.2.2.2.2.2.2.2.2.2.2.2.2) mg)) u)) A) (by decide) (Nat.le_of_ble_eq_true rfl) ?_
  intro p e s m below meth c A ls E hr hlk hnm hX hw1 hl2
  have hl3 : lv_has ls 3 [(0, .ref M), (1, .int 0)] := hl2
  refine lv_aload_n (pc := 0) E.1 E.2.1 dX12_text_0 rfl (lv_at hl3 0 rfl) ?_
  refine lv_iconst (pc := 1) (v := 0) E.1 E.2.1 dX12_text_1 (by decide +kernel) ?_
  refine x_put (pc := 2) (T := TX12) (N := 70) (ci := 12) (ws' := (MW cI cJ M mr (upd mi 0 0) mf mg)) E hw1 inX12 tyX12_ok nmX12 0 0 q_1399 rfl rfl (by decide) rfl rfl rfl rfl (Nat.le_of_ble_eq_true rfl) rfl dX12_text_2 (fun H locs hw4 => ?_)
  refine lv_aload_n (pc := 5) E.1 E.2.1 dX12_text_5 rfl (lv_at hl3 0 rfl) ?_
  refine lv_iconst (pc := 6) (v := 0) E.1 E.2.1 dX12_text_6 (by decide +kernel) ?_
  refine x_put (pc := 7) (T := TX12) (N := 70) (ci := 12) (ws' := (MW cI cJ M mr (upd (upd mi 0 0) 40 0) mf mg)) E hw4 inX12 tyX12_ok nmX12 0 40 q_1439 rfl rfl (by decide) rfl rfl rfl rfl (Nat.le_of_ble_eq_true rfl) rfl dX12_text_7 (fun H locs hw5 => ?_)
  refine lv_aload_n (pc := 10) E.1 E.2.1 dX12_text_10 rfl (lv_at hl3 0 rfl) ?_
  refine lv_iconst (pc := 11) (v := (-1)) E.1 E.2.1 dX12_text_11 (by decide +kernel) ?_
  refine x_put (pc := 12) (T := TX12) (N := 70) (ci := 12) (ws' := (MW cI cJ M mr (upd (upd (upd mi 0 0) 40 0) 41 (-1)) mf mg)) E hw5 inX12 tyX12_ok nmX12 0 41 q_1440 rfl rfl (by decide) rfl rfl rfl rfl (Nat.le_of_ble_eq_true rfl) rfl dX12_text_12 (fun H locs hw6 => ?_)
  refine lv_aload_n (pc := 15) E.1 E.2.1 dX12_text_15 rfl (lv_at hl3 0 rfl) ?_
  refine lv_iconst (pc := 16) (v := 0) E.1 E.2.1 dX12_text_16 (by decide +kernel) ?_
  refine x_put (pc := 17) (T := TX12) (N := 70) (ci := 12) (ws' := (MW cI cJ M mr (upd (upd (upd (upd mi 0 0) 22 0) 40 0) 41 (-1)) mf mg)) E hw6 inX12 tyX12_ok nmX12 0 22 q_1421 rfl rfl (by decide) rfl rfl rfl rfl (Nat.le_of_ble_eq_true rfl) rfl dX12_text_17 (fun H locs hw7 => ?_)
  refine lv_aload_n (pc := 20) E.1 E.2.1 dX12_text_20 rfl (lv_at hl3 0 rfl) ?_
  refine lv_iconst (pc := 21) (v := 0) E.1 E.2.1 dX12_text_21 (by decide +kernel) ?_
  refine x_put (pc := 22) (T := TX12) (N := 70) (ci := 12) (ws' := (MW cI cJ M mr (upd (upd (upd (upd (upd mi 0 0) 22 0) 34 0) 40 0) 41 (-1)) mf mg)) E hw7 inX12 tyX12_ok nmX12 0 34 q_1433 rfl rfl (by decide) rfl rfl rfl rfl (Nat.le_of_ble_eq_true rfl) rfl dX12_text_22 (fun H locs hw8 => ?_)
  refine lv_aload_n (pc := 25) E.1 E.2.1 dX12_text_25 rfl (lv_at hl3 0 rfl) ?_
  refine lv_iconst (pc := 26) (v := 0) E.1 E.2.1 dX12_text_26 (by decide +kernel) ?_
  refine x_put (pc := 27) (T := TX12) (N := 70) (ci := 12) (ws' := (MW cI cJ M mr (upd (upd (upd (upd (upd (upd mi 0 0) 22 0) 34 0) 35 0) 40 0) 41 (-1)) mf mg)) E hw8 inX12 tyX12_ok nmX12 0 35 q_1434 rfl rfl (by decide) rfl rfl rfl rfl (Nat.le_of_ble_eq_true rfl) rfl dX12_text_27 (fun H locs hw9 => ?_)
  refine lv_iconst (pc := 30) (v := (-1)) E.1 E.2.1 dX12_text_30 (by decide +kernel) ?_
  refine lv_istore_n (pc := 31) (lv' := [(2, .int (-1)), (0, .ref M), (1, .int 0)]) E.1 E.2.1 dX12_text_31 rfl hl3 (by decide) rfl (fun ls hl10 => ?_)
  refine lv_aload_n (pc := 32) E.1 E.2.1 dX12_text_32 rfl (lv_at hl10 1 rfl) ?_
  refine lv_iload_n (pc := 33) E.1 E.2.1 dX12_text_33 rfl (lv_at hl10 2 rfl) ?_
  refine lv_iconst (pc := 34) (v := 0) E.1 E.2.1 dX12_text_34 (by decide +kernel) ?_
  refine lv_iconst (pc := 35) (v := 4) E.1 E.2.1 dX12_text_35 (by decide +kernel) ?_
  refine cm_i (pc := 36) hw9 (rn_M (As := [.int 0, .int 0, .int 4]) (rest := []) E hw9 (s_isIn l D cI cJ _ M mr (upd (upd (upd (upd (upd (upd mi 0 0) 22 0) 34 0) 35 0) 40 0) 41 (-1)) mf mg 0 0 4) (gdV q_1622 q_1624 q_46 q_162 q_1625) hdV_X12_isIn ⟨rfl, rfl⟩ ⟨(Nat.le_of_ble_eq_true rfl), (Nat.le_of_ble_eq_true rfl)⟩ ⟨(Nat.le_of_ble_eq_true rfl), (Nat.le_of_ble_eq_true rfl)⟩ 12 rfl rfl rfl rfl hl10.1 rfl (Nat.le_of_ble_eq_true rfl) dX12_text_36) (fun r_12 u_11 H1 locs hp hw13 => ?_)
  generalize H1 = H at hw13 ⊢
  have hw14 : WD D A s.heap (MW cI cJ M mr (upd (upd (upd (upd (upd (upd mi 0 0) 22 0) 34 0) 35 0) 40 0) 41 (-1)) mf mg) H locs := hw13
  have hp_15 := hp
  rcases hp_15 with ⟨rfl, ha_16⟩ | ⟨rfl, ha_17⟩ | ⟨rfl, ha_18, ha_19⟩
  · skip
    have ha_16 : (0 : Int32).toInt < (0 : Int32).toInt := ha_16
    rw [show (0 : Int32).toInt = 0 from by decide +kernel] at ha_16
    exfalso; omega
  · skip
    have ha_17 : (4 : Int32).toInt < (0 : Int32).toInt := ha_17
    rw [show (0 : Int32).toInt = 0 from by decide +kernel] at ha_17
    rw [show (4 : Int32).toInt = 4 from by decide +kernel] at ha_17
    exfalso; omega
  · skip
    have ha_18 : (0 : Int32).toInt ≤ (0 : Int32).toInt := ha_18
    rw [show (0 : Int32).toInt = 0 from by decide +kernel] at ha_18
    have ha_19 : (0 : Int32).toInt ≤ (4 : Int32).toInt := ha_19
    rw [show (0 : Int32).toInt = 0 from by decide +kernel] at ha_19
    rw [show (4 : Int32).toInt = 4 from by decide +kernel] at ha_19
    refine lv_if_eq (pc := 39) (tgt := 69) E.1 E.2.1 dX12_text_39 (by decide) (fun c_20 => absurd c_20 (mneE (a := 1) (b := 0) (by decide +kernel) (by decide +kernel) (by omega))) (fun _ => ?_)
    refine lv_aload_n (pc := 42) E.1 E.2.1 dX12_text_42 rfl (lv_at hl10 1 rfl) ?_
    refine lv_iload_n (pc := 43) E.1 E.2.1 dX12_text_43 rfl (lv_at hl10 2 rfl) ?_
    refine cm_i (pc := 44) hw14 (rn_M (As := [.int 0]) (rest := []) E hw14 (s_readsText0 l D cI cJ _ M mr (upd (upd (upd (upd (upd (upd mi 0 0) 22 0) 34 0) 35 0) 40 0) 41 (-1)) mf mg (by show 0 ≤ (0 : Int32).toInt; have k_0 : (0 : Int32).toInt = 0 := (by decide +kernel); omega) (by show (0 : Int32).toInt ≤ (mi 21).toInt; have k_0 : (0 : Int32).toInt = 0 := (by decide +kernel); omega) h0.2 h1 (by show (0 : Int32).toInt = 0; have k_0 : (0 : Int32).toInt = 0 := (by decide +kernel); omega) (by show (0 : Int32).toInt = 0; have k_0 : (0 : Int32).toInt = 0 := (by decide +kernel); omega) h3 h4 h5 h6 (show (∀ j : Nat, j < 154 → (mf 26) j = w0 j) from lf_words) (show LW 0 0 (mf 31) (mf 32) (mf 28) (mf 29) (mf 30) ((mf 27) 0).toInt 400 from lf_law0) (show LW 16 400 (mf 31) (mf 32) (mf 28) (mf 29) (mf 30) ((mf 27) 1).toInt 400 from lf_law1)) (gdV q_1662 q_1664 q_51 q_162 q_1665) hdV_X12_readsText ⟨rfl, rfl⟩ ⟨(Nat.le_of_ble_eq_true rfl), (Nat.le_of_ble_eq_true rfl)⟩ ⟨(Nat.le_of_ble_eq_true rfl), (Nat.le_of_ble_eq_true rfl)⟩ 12 rfl rfl rfl rfl hl10.1 rfl (Nat.le_of_ble_eq_true rfl) dX12_text_44) (fun r_22 u_21 H1 locs hp hw23 => ?_)
    obtain ⟨nspot_24, nfrom_25, ntoken_26, nvalue_27, gop_28, garg_29, ncodes_30, nreadFault_31, nreadPlace_32, gpending_33, npendings_34, nopen_35, glineFrom_36, glineWhen_37, glineTo_38, nwhich_39⟩ := u_21
    generalize H1 = H at hw23 ⊢
    have hw40 : WD D A s.heap (MW cI cJ M mr (upd (upd (upd (upd (upd (upd (upd (upd (upd (upd (upd (upd (upd mi 0 0) 22 nspot_24) 23 nfrom_25) 24 ntoken_26) 25 nvalue_27) 33 nwhich_39) 34 ncodes_30) 35 nopen_35) 37 npendings_34) 38 nreadFault_31) 39 nreadPlace_32) 40 0) 41 (-1)) (va_up (va_up (va_up (va_up (va_up (va_up mf 28 glineFrom_36) 29 glineWhen_37) 30 glineTo_38) 31 gop_28) 32 garg_29) 36 gpending_33) mg) H locs := hw23
    obtain ⟨hp_41, hp_42, hp_43, hp_44, hp_45, hp_46, hp_47⟩ := hp
    have hp_41 : nwhich_39.toInt = 0 := hp_41
    have hp_42 : 0 ≤ ncodes_30.toInt := hp_42
    have hp_43 : ncodes_30.toInt ≤ 400 := hp_43
    have hp_44 : LW 0 0 gop_28 garg_29 glineFrom_36 glineWhen_37 glineTo_38 ((mf 27) 0).toInt 400 := hp_44
    have hp_45 : LW 16 400 gop_28 garg_29 glineFrom_36 glineWhen_37 glineTo_38 ((mf 27) 1).toInt 400 := hp_45
    have hp_46 : (0 ≤ (r_22 : Int32).toInt → LW 32 800 gop_28 garg_29 glineFrom_36 glineWhen_37 glineTo_38 (r_22 : Int32).toInt ncodes_30.toInt) := hp_46
    rcases hp_47 with rfl | ⟨ha_48, ha_49⟩
    · skip
      refine lv_istore_n (pc := 47) (lv' := [(2, .int (-1)), (0, .ref M), (1, .int 0)]) E.1 E.2.1 dX12_text_47 rfl hl10 (by decide) rfl (fun ls hl50 => ?_)
      refine lv_iload_n (pc := 48) E.1 E.2.1 dX12_text_48 rfl (lv_at hl50 0 rfl) ?_
      refine lv_iconst (pc := 49) (v := (-1)) E.1 E.2.1 dX12_text_49 (by decide +kernel) ?_
      refine lv_icmp_ne (pc := 50) (tgt := 69) E.1 E.2.1 dX12_text_50 (by decide) (fun c_51 => absurd (meqE (a := (-1)) (b := (-1)) (by decide +kernel) (by decide +kernel) (by omega)) c_51) (fun _ => ?_)
      refine lv_aload_n (pc := 53) E.1 E.2.1 dX12_text_53 rfl (lv_at hl50 1 rfl) ?_
      refine lv_aload_n (pc := 54) E.1 E.2.1 dX12_text_54 rfl (lv_at hl50 1 rfl) ?_
      refine x_get (pc := 55) (T := TX12) (N := 70) (ci := 12) (v := .int nreadFault_31) E hw40 inX12 0 38 q_1437 rfl rfl (by decide) rfl rfl dX12_text_55 ?_
      refine x_put (pc := 58) (T := TX12) (N := 70) (ci := 12) (ws' := (MW cI cJ M mr (upd (upd (upd (upd (upd (upd (upd (upd (upd (upd (upd (upd (upd mi 0 0) 22 nspot_24) 23 nfrom_25) 24 ntoken_26) 25 nvalue_27) 33 nwhich_39) 34 ncodes_30) 35 nopen_35) 37 npendings_34) 38 nreadFault_31) 39 nreadPlace_32) 40 nreadFault_31) 41 (-1)) (va_up (va_up (va_up (va_up (va_up (va_up mf 28 glineFrom_36) 29 glineWhen_37) 30 glineTo_38) 31 gop_28) 32 garg_29) 36 gpending_33) mg)) E hw40 inX12 tyX12_ok nmX12 0 40 q_1439 rfl rfl (by decide) rfl rfl rfl rfl (Nat.le_of_ble_eq_true rfl) rfl dX12_text_58 (fun H locs hw52 => ?_)
      refine lv_aload_n (pc := 61) E.1 E.2.1 dX12_text_61 rfl (lv_at hl50 1 rfl) ?_
      refine lv_aload_n (pc := 62) E.1 E.2.1 dX12_text_62 rfl (lv_at hl50 1 rfl) ?_
      refine x_get (pc := 63) (T := TX12) (N := 70) (ci := 12) (v := .int nreadPlace_32) E hw52 inX12 0 39 q_1438 rfl rfl (by decide) rfl rfl dX12_text_63 ?_
      refine x_put (pc := 66) (T := TX12) (N := 70) (ci := 12) (ws' := (MW cI cJ M mr (upd (upd (upd (upd (upd (upd (upd (upd (upd (upd (upd (upd (upd mi 0 0) 22 nspot_24) 23 nfrom_25) 24 ntoken_26) 25 nvalue_27) 33 nwhich_39) 34 ncodes_30) 35 nopen_35) 37 npendings_34) 38 nreadFault_31) 39 nreadPlace_32) 40 nreadFault_31) 41 nreadPlace_32) (va_up (va_up (va_up (va_up (va_up (va_up mf 28 glineFrom_36) 29 glineWhen_37) 30 glineTo_38) 31 gop_28) 32 garg_29) 36 gpending_33) mg)) E hw52 inX12 tyX12_ok nmX12 0 41 q_1440 rfl rfl (by decide) rfl rfl rfl rfl (Nat.le_of_ble_eq_true rfl) rfl dX12_text_66 (fun H locs hw53 => ?_)
      refine lv_aload_n (pc := 69) E.1 E.2.1 dX12_text_69 rfl (lv_at hl50 1 rfl) ?_
      refine lv_iconst (pc := 70) (v := 0) E.1 E.2.1 dX12_text_70 (by decide +kernel) ?_
      refine x_put (pc := 71) (T := TX12) (N := 70) (ci := 12) (ws' := (MW cI cJ M mr (upd (upd (upd (upd (upd (upd (upd (upd (upd (upd (upd (upd (upd (upd mi 0 0) 21 0) 22 nspot_24) 23 nfrom_25) 24 ntoken_26) 25 nvalue_27) 33 nwhich_39) 34 ncodes_30) 35 nopen_35) 37 npendings_34) 38 nreadFault_31) 39 nreadPlace_32) 40 nreadFault_31) 41 nreadPlace_32) (va_up (va_up (va_up (va_up (va_up (va_up mf 28 glineFrom_36) 29 glineWhen_37) 30 glineTo_38) 31 gop_28) 32 garg_29) 36 gpending_33) mg)) E hw53 inX12 tyX12_ok nmX12 0 21 q_1420 rfl rfl (by decide) rfl rfl rfl rfl (Nat.le_of_ble_eq_true rfl) rfl dX12_text_71 (fun H locs hw54 => ?_)
      refine lv_iload_n (pc := 74) E.1 E.2.1 dX12_text_74 rfl (lv_at hl50 0 rfl) ?_
      refine lv_iconst (pc := 75) (v := (-1)) E.1 E.2.1 dX12_text_75 (by decide +kernel) ?_
      refine lv_icmp_ne (pc := 76) (tgt := 81) E.1 E.2.1 dX12_text_76 (by decide) (fun c_55 => absurd (meqE (a := (-1)) (b := (-1)) (by decide +kernel) (by decide +kernel) (by omega)) c_55) (fun _ => ?_)
      refine lv_iconst (pc := 79) (v := (-1)) E.1 E.2.1 dX12_text_79 (by decide +kernel) ?_
      exact em_i (w1 := (fun (u : Int32 × Int32 × Int32 × Int32 × Int32 × Int32 × Int32 × Int32 × Int32 × Int32 × (Nat → Int32) × (Nat → Int32) × Int32 × Int32 × (Nat → Int32) × Int32 × (Nat → Int32) × (Nat → Int32) × (Nat → Int32) × Int32 × (Nat → Int32)) => (MW cI cJ M mr (upd (upd (upd (upd (upd (upd (upd (upd (upd (upd (upd (upd (upd (upd mi 0 u.1) 40 u.2.1) 41 u.2.2.1) 22 u.2.2.2.1) 34 u.2.2.2.2.1) 35 u.2.2.2.2.2.1) 21 u.2.2.2.2.2.2.1) 23 u.2.2.2.2.2.2.2.1) 24 u.2.2.2.2.2.2.2.2.1) 25 u.2.2.2.2.2.2.2.2.2.1) 38 u.2.2.2.2.2.2.2.2.2.2.2.2.1) 39 u.2.2.2.2.2.2.2.2.2.2.2.2.2.1) 37 u.2.2.2.2.2.2.2.2.2.2.2.2.2.2.2.1) 33 u.2.2.2.2.2.2.2.2.2.2.2.2.2.2.2.2.2.2.2.1) (va_up (va_up (va_up (va_up (va_up (va_up (va_up mf 31 u.2.2.2.2.2.2.2.2.2.2.1) 32 u.2.2.2.2.2.2.2.2.2.2.2.1) 36 u.2.2.2.2.2.2.2.2.2.2.2.2.2.2.1) 28 u.2.2.2.2.2.2.2.2.2.2.2.2.2.2.2.2.1) 29 u.2.2.2.2.2.2.2.2.2.2.2.2.2.2.2.2.2.1) 30 u.2.2.2.2.2.2.2.2.2.2.2.2.2.2.2.2.2.2.1) 27 u.2.2.2.2.2.2.2.2.2.2.2.2.2.2.2.2.2.2.2.2) mg))) E hr hlk (0, nreadFault_31, nreadPlace_32, nspot_24, ncodes_30, nopen_35, 0, nfrom_25, ntoken_26, nvalue_27, gop_28, garg_29, nreadFault_31, nreadPlace_32, gpending_33, npendings_34, glineFrom_36, glineWhen_37, glineTo_38, nwhich_39, (mf 27)) hw54 ⟨(by show (0 : Int32).toInt = 0; have k_0 : (0 : Int32).toInt = 0 := (by decide +kernel); have k_1 : (0 : Int32).toInt = 0 := (by decide +kernel); have k_2 : ((-1) : Int32).toInt = -1 := (by decide +kernel); omega), h3, h4, h5, h6, hp_44, hp_45⟩ (Nat.le_of_ble_eq_true rfl) (Nat.le_of_ble_eq_true rfl) dX12_text_80
    · skip
      have ha_48 : 0 ≤ r_22.toInt := ha_48
      have ha_49 : r_22.toInt ≤ 16 := ha_49
      refine lv_istore_n (pc := 47) (lv' := [(2, .int r_22), (0, .ref M), (1, .int 0)]) E.1 E.2.1 dX12_text_47 rfl hl10 (by decide) rfl (fun ls hl56 => ?_)
      refine lv_iload_n (pc := 48) E.1 E.2.1 dX12_text_48 rfl (lv_at hl56 0 rfl) ?_
      refine lv_iconst (pc := 49) (v := (-1)) E.1 E.2.1 dX12_text_49 (by decide +kernel) ?_
      refine lv_icmp_ne (pc := 50) (tgt := 69) E.1 E.2.1 dX12_text_50 (by decide) (fun _ => ?_) (fun c_57 => absurd c_57 (mneE (a := r_22.toInt) (b := (-1)) rfl (by decide +kernel) (by omega)))
      refine lv_aload_n (pc := 69) E.1 E.2.1 dX12_text_69 rfl (lv_at hl56 1 rfl) ?_
      refine lv_iconst (pc := 70) (v := 0) E.1 E.2.1 dX12_text_70 (by decide +kernel) ?_
      refine x_put (pc := 71) (T := TX12) (N := 70) (ci := 12) (ws' := (MW cI cJ M mr (upd (upd (upd (upd (upd (upd (upd (upd (upd (upd (upd (upd (upd (upd mi 0 0) 21 0) 22 nspot_24) 23 nfrom_25) 24 ntoken_26) 25 nvalue_27) 33 nwhich_39) 34 ncodes_30) 35 nopen_35) 37 npendings_34) 38 nreadFault_31) 39 nreadPlace_32) 40 0) 41 (-1)) (va_up (va_up (va_up (va_up (va_up (va_up mf 28 glineFrom_36) 29 glineWhen_37) 30 glineTo_38) 31 gop_28) 32 garg_29) 36 gpending_33) mg)) E hw40 inX12 tyX12_ok nmX12 0 21 q_1420 rfl rfl (by decide) rfl rfl rfl rfl (Nat.le_of_ble_eq_true rfl) rfl dX12_text_71 (fun H locs hw58 => ?_)
      refine lv_iload_n (pc := 74) E.1 E.2.1 dX12_text_74 rfl (lv_at hl56 0 rfl) ?_
      refine lv_iconst (pc := 75) (v := (-1)) E.1 E.2.1 dX12_text_75 (by decide +kernel) ?_
      refine lv_icmp_ne (pc := 76) (tgt := 81) E.1 E.2.1 dX12_text_76 (by decide) (fun _ => ?_) (fun c_59 => absurd c_59 (mneE (a := r_22.toInt) (b := (-1)) rfl (by decide +kernel) (by omega)))
      refine lv_iload_n (pc := 81) E.1 E.2.1 dX12_text_81 rfl (lv_at hl56 2 rfl) ?_
      refine lv_iconst (pc := 82) (v := 1) E.1 E.2.1 dX12_text_82 (by decide +kernel) ?_
      refine lv_icmp_gt (pc := 83) (tgt := 94) E.1 E.2.1 dX12_text_83 (by decide) (fun c_60 => absurd c_60 (mnltE (a := 1) (b := 0) (by decide +kernel) (by decide +kernel) (by omega))) (fun _ => ?_)
      refine lv_aload_n (pc := 86) E.1 E.2.1 dX12_text_86 rfl (lv_at hl56 1 rfl) ?_
      refine lv_iload_n (pc := 87) E.1 E.2.1 dX12_text_87 rfl (lv_at hl56 0 rfl) ?_
      refine cm_v (pc := 88) hw58 (rn_M (As := [.int r_22]) (rest := []) E hw58 (s_takesLaw0 l D cI cJ _ M mr (upd (upd (upd (upd (upd (upd (upd (upd (upd (upd (upd (upd (upd (upd mi 0 0) 21 0) 22 nspot_24) 23 nfrom_25) 24 ntoken_26) 25 nvalue_27) 33 nwhich_39) 34 ncodes_30) 35 nopen_35) 37 npendings_34) 38 nreadFault_31) 39 nreadPlace_32) 40 0) 41 (-1)) (va_up (va_up (va_up (va_up (va_up (va_up mf 28 glineFrom_36) 29 glineWhen_37) 30 glineTo_38) 31 gop_28) 32 garg_29) 36 gpending_33) mg r_22 hp_41 (by show 0 ≤ r_22.toInt ∧ r_22.toInt ≤ 16; omega) ⟨hp_42, hp_43⟩ h3 h4 h5 h6 (show LW 16 400 gop_28 garg_29 glineFrom_36 glineWhen_37 glineTo_38 ((mf 27) 1).toInt 400 from hp_45) (show LW 32 800 gop_28 garg_29 glineFrom_36 glineWhen_37 glineTo_38 r_22.toInt ncodes_30.toInt from (hp_46 (by omega)))) (gdV q_1806 q_1808 q_87 q_162 q_1809) hdV_X12_takesLaw ⟨rfl, rfl⟩ ⟨(Nat.le_of_ble_eq_true rfl), (Nat.le_of_ble_eq_true rfl)⟩ ⟨(Nat.le_of_ble_eq_true rfl), (Nat.le_of_ble_eq_true rfl)⟩ 12 rfl rfl rfl rfl hl56.1 rfl (Nat.le_of_ble_eq_true rfl) dX12_text_88) (fun u_61 H1 locs hp hw63 => ?_)
      obtain ⟨glineFrom_64, glineWhen_65, glineTo_66, gop_67, garg_68, glineMany_69⟩ := u_61
      generalize H1 = H at hw63 ⊢
      have hw70 : WD D A s.heap (MW cI cJ M mr (upd (upd (upd (upd (upd (upd (upd (upd (upd (upd (upd (upd (upd (upd mi 0 0) 21 0) 22 nspot_24) 23 nfrom_25) 24 ntoken_26) 25 nvalue_27) 33 nwhich_39) 34 ncodes_30) 35 nopen_35) 37 npendings_34) 38 nreadFault_31) 39 nreadPlace_32) 40 0) 41 (-1)) (va_up (va_up (va_up (va_up (va_up (va_up (va_up mf 27 glineMany_69) 28 glineFrom_64) 29 glineWhen_65) 30 glineTo_66) 31 gop_67) 32 garg_68) 36 gpending_33) mg) H locs := hw63
      obtain ⟨hp_71, hp_72, hp_73, hp_74⟩ := hp
      have hp_71 : (glineMany_69 0).toInt = r_22.toInt := hp_71
      have hp_72 : (glineMany_69 1).toInt = ((mf 27) 1).toInt := hp_72
      have hp_73 : LW 0 0 gop_67 garg_68 glineFrom_64 glineWhen_65 glineTo_66 (glineMany_69 0).toInt 400 := hp_73
      have hp_74 : LW 16 400 gop_67 garg_68 glineFrom_64 glineWhen_65 glineTo_66 (glineMany_69 1).toInt 400 := hp_74
      refine lv_goto (pc := 91) (tgt := 100) E.1 E.2.1 dX12_text_91 (by decide) ?_
      refine lv_iload_n (pc := 100) E.1 E.2.1 dX12_text_100 rfl (lv_at hl56 0 rfl) ?_
      exact em_i (w1 := (fun (u : Int32 × Int32 × Int32 × Int32 × Int32 × Int32 × Int32 × Int32 × Int32 × Int32 × (Nat → Int32) × (Nat → Int32) × Int32 × Int32 × (Nat → Int32) × Int32 × (Nat → Int32) × (Nat → Int32) × (Nat → Int32) × Int32 × (Nat → Int32)) => (MW cI cJ M mr (upd (upd (upd (upd (upd (upd (upd (upd (upd (upd (upd (upd (upd (upd mi 0 u.1) 40 u.2.1) 41 u.2.2.1) 22 u.2.2.2.1) 34 u.2.2.2.2.1) 35 u.2.2.2.2.2.1) 21 u.2.2.2.2.2.2.1) 23 u.2.2.2.2.2.2.2.1) 24 u.2.2.2.2.2.2.2.2.1) 25 u.2.2.2.2.2.2.2.2.2.1) 38 u.2.2.2.2.2.2.2.2.2.2.2.2.1) 39 u.2.2.2.2.2.2.2.2.2.2.2.2.2.1) 37 u.2.2.2.2.2.2.2.2.2.2.2.2.2.2.2.1) 33 u.2.2.2.2.2.2.2.2.2.2.2.2.2.2.2.2.2.2.2.1) (va_up (va_up (va_up (va_up (va_up (va_up (va_up mf 31 u.2.2.2.2.2.2.2.2.2.2.1) 32 u.2.2.2.2.2.2.2.2.2.2.2.1) 36 u.2.2.2.2.2.2.2.2.2.2.2.2.2.2.1) 28 u.2.2.2.2.2.2.2.2.2.2.2.2.2.2.2.2.1) 29 u.2.2.2.2.2.2.2.2.2.2.2.2.2.2.2.2.2.1) 30 u.2.2.2.2.2.2.2.2.2.2.2.2.2.2.2.2.2.2.1) 27 u.2.2.2.2.2.2.2.2.2.2.2.2.2.2.2.2.2.2.2.2) mg))) E hr hlk (0, 0, (-1), nspot_24, ncodes_30, nopen_35, 0, nfrom_25, ntoken_26, nvalue_27, gop_67, garg_68, nreadFault_31, nreadPlace_32, gpending_33, npendings_34, glineFrom_64, glineWhen_65, glineTo_66, nwhich_39, glineMany_69) hw70 ⟨(by show (0 : Int32).toInt = 0; have k_0 : (0 : Int32).toInt = 0 := (by decide +kernel); have k_1 : (0 : Int32).toInt = 0 := (by decide +kernel); have k_2 : (0 : Int32).toInt = 0 := (by decide +kernel); have k_3 : ((-1) : Int32).toInt = -1 := (by decide +kernel); omega), (ax73r37c_0 hp_71 ha_48), (ax73r37c_6 hp_71 ha_49), (ax73r37c_0 hp_72 h5), (ax73r37c_6 hp_72 h6), hp_73, hp_74⟩ (Nat.le_of_ble_eq_true rfl) (Nat.le_of_ble_eq_true rfl) dX12_text_101

set_option maxHeartbeats 4000000 in
set_option maxRecDepth 100000 in
theorem s_text1 (l : Launch) (D : va_G) (cI cJ : ClassId) (sz M : Nat) (mr : Nat → Nat) (mi : Nat → Int32) (mf : Nat → Nat → Int32) (mg : Nat → Nat → Int64)  (h0 : 0 ≤ (mi 21).toInt ∧ (mi 21).toInt ≤ 400) (h1 : ((mf 26) 153).toInt = 32) (h2 : 0 ≤ (mi 6).toInt ∧ (mi 6).toInt ≤ 10) (h3 : 0 ≤ ((mf 27) 0).toInt) (h4 : ((mf 27) 0).toInt ≤ 16) (h5 : 0 ≤ ((mf 27) 1).toInt) (h6 : ((mf 27) 1).toInt ≤ 16) (h7 : 0 ≤ (mi 49).toInt ∧ (mi 49).toInt ≤ 200) (h8 : 0 ≤ (mi 3).toInt ∧ (mi 3).toInt ≤ 6) (h9 : 0 ≤ (mi 42).toInt ∧ (mi 42).toInt ≤ 40) (h10 : 0 ≤ (mi 44).toInt ∧ (mi 44).toInt ≤ 10) (lf_words : (∀ j : Nat, j < 154 → (mf 26) j = w0 j)) (lf_law0 : LW 0 0 (mf 31) (mf 32) (mf 28) (mf 29) (mf 30) ((mf 27) 0).toInt 400) (lf_law1 : LW 16 400 (mf 31) (mf 32) (mf 28) (mf 29) (mf 30) ((mf 27) 1).toInt 400) : Met l yX12_text (Cond.code yX12_text cX12_text 3 (some .int) :: GW) ({ frames := 11, cells := 0, slots := 0, locals := 255 } : Room) (va_Pc [.ref M, .int 1] (PW D cI cJ sz (MW cI cJ M mr mi mf mg) xT)) (va_Qi (fun (r : Int32) (u : Int32 × Int32 × Int32 × Int32 × Int32 × Int32 × Int32 × Int32 × Int32 × Int32 × (Nat → Int32) × (Nat → Int32) × Int32 × Int32 × (Nat → Int32) × Int32 × (Nat → Int32) × (Nat → Int32) × (Nat → Int32) × Int32 × (Nat → Int32)) => (u.2.2.2.2.2.2.1.toInt = 0) ∧ (0 ≤ (u.2.2.2.2.2.2.2.2.2.2.2.2.2.2.2.2.2.2.2.2 0).toInt) ∧ ((u.2.2.2.2.2.2.2.2.2.2.2.2.2.2.2.2.2.2.2.2 0).toInt ≤ 16) ∧ (0 ≤ (u.2.2.2.2.2.2.2.2.2.2.2.2.2.2.2.2.2.2.2.2 1).toInt) ∧ ((u.2.2.2.2.2.2.2.2.2.2.2.2.2.2.2.2.2.2.2.2 1).toInt ≤ 16) ∧ (LW 0 0 u.2.2.2.2.2.2.2.2.2.2.1 u.2.2.2.2.2.2.2.2.2.2.2.1 u.2.2.2.2.2.2.2.2.2.2.2.2.2.2.2.2.1 u.2.2.2.2.2.2.2.2.2.2.2.2.2.2.2.2.2.1 u.2.2.2.2.2.2.2.2.2.2.2.2.2.2.2.2.2.2.1 (u.2.2.2.2.2.2.2.2.2.2.2.2.2.2.2.2.2.2.2.2 0).toInt 400) ∧ (LW 16 400 u.2.2.2.2.2.2.2.2.2.2.1 u.2.2.2.2.2.2.2.2.2.2.2.1 u.2.2.2.2.2.2.2.2.2.2.2.2.2.2.2.2.1 u.2.2.2.2.2.2.2.2.2.2.2.2.2.2.2.2.2.1 u.2.2.2.2.2.2.2.2.2.2.2.2.2.2.2.2.2.2.1 (u.2.2.2.2.2.2.2.2.2.2.2.2.2.2.2.2.2.2.2.2 1).toInt 400)) (fun u => QW D cI cJ (va_A (MW cI cJ M mr mi mf mg) sz) ((fun (u : Int32 × Int32 × Int32 × Int32 × Int32 × Int32 × Int32 × Int32 × Int32 × Int32 × (Nat → Int32) × (Nat → Int32) × Int32 × Int32 × (Nat → Int32) × Int32 × (Nat → Int32) × (Nat → Int32) × (Nat → Int32) × Int32 × (Nat → Int32)) => (MW cI cJ M mr (upd (upd (upd (upd (upd (upd (upd (upd (upd (upd (upd (upd (upd (upd mi 0 u.1) 40 u.2.1) 41 u.2.2.1) 22 u.2.2.2.1) 34 u.2.2.2.2.1) 35 u.2.2.2.2.2.1) 21 u.2.2.2.2.2.2.1) 23 u.2.2.2.2.2.2.2.1) 24 u.2.2.2.2.2.2.2.2.1) 25 u.2.2.2.2.2.2.2.2.2.1) 38 u.2.2.2.2.2.2.2.2.2.2.2.2.1) 39 u.2.2.2.2.2.2.2.2.2.2.2.2.2.1) 37 u.2.2.2.2.2.2.2.2.2.2.2.2.2.2.2.1) 33 u.2.2.2.2.2.2.2.2.2.2.2.2.2.2.2.2.2.2.2.1) (va_up (va_up (va_up (va_up (va_up (va_up (va_up mf 31 u.2.2.2.2.2.2.2.2.2.2.1) 32 u.2.2.2.2.2.2.2.2.2.2.2.1) 36 u.2.2.2.2.2.2.2.2.2.2.2.2.2.2.1) 28 u.2.2.2.2.2.2.2.2.2.2.2.2.2.2.2.2.1) 29 u.2.2.2.2.2.2.2.2.2.2.2.2.2.2.2.2.2.1) 30 u.2.2.2.2.2.2.2.2.2.2.2.2.2.2.2.2.2.2.1) 27 u.2.2.2.2.2.2.2.2.2.2.2.2.2.2.2.2.2.2.2.2) mg)) u)) (va_A (MW cI cJ M mr mi mf mg) sz)) 0 0 (va_A (MW cI cJ M mr mi mf mg) sz) := by
  refine mk_met (y := yX12_text) (bytes := cX12_text) (maxL := 3) (avs := [.ref M, .int 1]) (WS := (MW cI cJ M mr mi mf mg)) (Qf := fun A => va_Qi (fun (r : Int32) (u : Int32 × Int32 × Int32 × Int32 × Int32 × Int32 × Int32 × Int32 × Int32 × Int32 × (Nat → Int32) × (Nat → Int32) × Int32 × Int32 × (Nat → Int32) × Int32 × (Nat → Int32) × (Nat → Int32) × (Nat → Int32) × Int32 × (Nat → Int32)) => (u.2.2.2.2.2.2.1.toInt = 0) ∧ (0 ≤ (u.2.2.2.2.2.2.2.2.2.2.2.2.2.2.2.2.2.2.2.2 0).toInt) ∧ ((u.2.2.2.2.2.2.2.2.2.2.2.2.2.2.2.2.2.2.2.2 0).toInt ≤ 16) ∧ (0 ≤ (u.2.2.2.2.2.2.2.2.2.2.2.2.2.2.2.2.2.2.2.2 1).toInt) ∧ ((u.2.2.2.2.2.2.2.2.2.2.2.2.2.2.2.2.2.2.2.2 1).toInt ≤ 16) ∧ (LW 0 0 u.2.2.2.2.2.2.2.2.2.2.1 u.2.2.2.2.2.2.2.2.2.2.2.1 u.2.2.2.2.2.2.2.2.2.2.2.2.2.2.2.2.1 u.2.2.2.2.2.2.2.2.2.2.2.2.2.2.2.2.2.1 u.2.2.2.2.2.2.2.2.2.2.2.2.2.2.2.2.2.2.1 (u.2.2.2.2.2.2.2.2.2.2.2.2.2.2.2.2.2.2.2.2 0).toInt 400) ∧ (LW 16 400 u.2.2.2.2.2.2.2.2.2.2.1 u.2.2.2.2.2.2.2.2.2.2.2.1 u.2.2.2.2.2.2.2.2.2.2.2.2.2.2.2.2.1 u.2.2.2.2.2.2.2.2.2.2.2.2.2.2.2.2.2.1 u.2.2.2.2.2.2.2.2.2.2.2.2.2.2.2.2.2.2.1 (u.2.2.2.2.2.2.2.2.2.2.2.2.2.2.2.2.2.2.2.2 1).toInt 400)) (fun u => QW D cI cJ A ((fun (u : Int32 × Int32 × Int32 × Int32 × Int32 × Int32 × Int32 × Int32 × Int32 × Int32 × (Nat → Int32) × (Nat → Int32) × Int32 × Int32 × (Nat → Int32) × Int32 × (Nat → Int32) × (Nat → Int32) × (Nat → Int32) × Int32 × (Nat → Int32)) => (MW cI cJ M mr (upd (upd (upd (upd (upd (upd (upd (upd (upd (upd (upd (upd (upd (upd mi 0 u.1) 40 u.2.1) 41 u.2.2.1) 22 u.2.2.2.1) 34 u.2.2.2.2.1) 35 u.2.2.2.2.2.1) 21 u.2.2.2.2.2.2.1) 23 u.2.2.2.2.2.2.2.1) 24 u.2.2.2.2.2.2.2.2.1) 25 u.2.2.2.2.2.2.2.2.2.1) 38 u.2.2.2.2.2.2.2.2.2.2.2.2.1) 39 u.2.2.2.2.2.2.2.2.2.2.2.2.2.1) 37 u.2.2.2.2.2.2.2.2.2.2.2.2.2.2.2.1) 33 u.2.2.2.2.2.2.2.2.2.2.2.2.2.2.2.2.2.2.2.1) (va_up (va_up (va_up (va_up (va_up (va_up (va_up mf 31 u.2.2.2.2.2.2.2.2.2.2.1) 32 u.2.2.2.2.2.2.2.2.2.2.2.1) 36 u.2.2.2.2.2.2.2.2.2.2.2.2.2.2.1) 28 u.2.2.2.2.2.2.2.2.2.2.2.2.2.2.2.2.1) 29 u.2.2.2.2.2.2.2.2.2.2.2.2.2.2.2.2.2.1) 30 u.2.2.2.2.2.2.2.2.2.2.2.2.2.2.2.2.2.2.1) 27 u.2.2.2.2.2.2.2.2.2.2.2.2.2.2.2.2.2.2.2.2) mg)) u)) A) (by decide) (Nat.le_of_ble_eq_true rfl) ?_
  intro p e s m below meth c A ls E hr hlk hnm hX hw1 hl2
  have hl3 : lv_has ls 3 [(0, .ref M), (1, .int 1)] := hl2
  refine lv_aload_n (pc := 0) E.1 E.2.1 dX12_text_0 rfl (lv_at hl3 0 rfl) ?_
  refine lv_iconst (pc := 1) (v := 0) E.1 E.2.1 dX12_text_1 (by decide +kernel) ?_
  refine x_put (pc := 2) (T := TX12) (N := 70) (ci := 12) (ws' := (MW cI cJ M mr (upd mi 0 0) mf mg)) E hw1 inX12 tyX12_ok nmX12 0 0 q_1399 rfl rfl (by decide) rfl rfl rfl rfl (Nat.le_of_ble_eq_true rfl) rfl dX12_text_2 (fun H locs hw4 => ?_)
  refine lv_aload_n (pc := 5) E.1 E.2.1 dX12_text_5 rfl (lv_at hl3 0 rfl) ?_
  refine lv_iconst (pc := 6) (v := 0) E.1 E.2.1 dX12_text_6 (by decide +kernel) ?_
  refine x_put (pc := 7) (T := TX12) (N := 70) (ci := 12) (ws' := (MW cI cJ M mr (upd (upd mi 0 0) 40 0) mf mg)) E hw4 inX12 tyX12_ok nmX12 0 40 q_1439 rfl rfl (by decide) rfl rfl rfl rfl (Nat.le_of_ble_eq_true rfl) rfl dX12_text_7 (fun H locs hw5 => ?_)
  refine lv_aload_n (pc := 10) E.1 E.2.1 dX12_text_10 rfl (lv_at hl3 0 rfl) ?_
  refine lv_iconst (pc := 11) (v := (-1)) E.1 E.2.1 dX12_text_11 (by decide +kernel) ?_
  refine x_put (pc := 12) (T := TX12) (N := 70) (ci := 12) (ws' := (MW cI cJ M mr (upd (upd (upd mi 0 0) 40 0) 41 (-1)) mf mg)) E hw5 inX12 tyX12_ok nmX12 0 41 q_1440 rfl rfl (by decide) rfl rfl rfl rfl (Nat.le_of_ble_eq_true rfl) rfl dX12_text_12 (fun H locs hw6 => ?_)
  refine lv_aload_n (pc := 15) E.1 E.2.1 dX12_text_15 rfl (lv_at hl3 0 rfl) ?_
  refine lv_iconst (pc := 16) (v := 0) E.1 E.2.1 dX12_text_16 (by decide +kernel) ?_
  refine x_put (pc := 17) (T := TX12) (N := 70) (ci := 12) (ws' := (MW cI cJ M mr (upd (upd (upd (upd mi 0 0) 22 0) 40 0) 41 (-1)) mf mg)) E hw6 inX12 tyX12_ok nmX12 0 22 q_1421 rfl rfl (by decide) rfl rfl rfl rfl (Nat.le_of_ble_eq_true rfl) rfl dX12_text_17 (fun H locs hw7 => ?_)
  refine lv_aload_n (pc := 20) E.1 E.2.1 dX12_text_20 rfl (lv_at hl3 0 rfl) ?_
  refine lv_iconst (pc := 21) (v := 0) E.1 E.2.1 dX12_text_21 (by decide +kernel) ?_
  refine x_put (pc := 22) (T := TX12) (N := 70) (ci := 12) (ws' := (MW cI cJ M mr (upd (upd (upd (upd (upd mi 0 0) 22 0) 34 0) 40 0) 41 (-1)) mf mg)) E hw7 inX12 tyX12_ok nmX12 0 34 q_1433 rfl rfl (by decide) rfl rfl rfl rfl (Nat.le_of_ble_eq_true rfl) rfl dX12_text_22 (fun H locs hw8 => ?_)
  refine lv_aload_n (pc := 25) E.1 E.2.1 dX12_text_25 rfl (lv_at hl3 0 rfl) ?_
  refine lv_iconst (pc := 26) (v := 0) E.1 E.2.1 dX12_text_26 (by decide +kernel) ?_
  refine x_put (pc := 27) (T := TX12) (N := 70) (ci := 12) (ws' := (MW cI cJ M mr (upd (upd (upd (upd (upd (upd mi 0 0) 22 0) 34 0) 35 0) 40 0) 41 (-1)) mf mg)) E hw8 inX12 tyX12_ok nmX12 0 35 q_1434 rfl rfl (by decide) rfl rfl rfl rfl (Nat.le_of_ble_eq_true rfl) rfl dX12_text_27 (fun H locs hw9 => ?_)
  refine lv_iconst (pc := 30) (v := (-1)) E.1 E.2.1 dX12_text_30 (by decide +kernel) ?_
  refine lv_istore_n (pc := 31) (lv' := [(2, .int (-1)), (0, .ref M), (1, .int 1)]) E.1 E.2.1 dX12_text_31 rfl hl3 (by decide) rfl (fun ls hl10 => ?_)
  refine lv_aload_n (pc := 32) E.1 E.2.1 dX12_text_32 rfl (lv_at hl10 1 rfl) ?_
  refine lv_iload_n (pc := 33) E.1 E.2.1 dX12_text_33 rfl (lv_at hl10 2 rfl) ?_
  refine lv_iconst (pc := 34) (v := 0) E.1 E.2.1 dX12_text_34 (by decide +kernel) ?_
  refine lv_iconst (pc := 35) (v := 4) E.1 E.2.1 dX12_text_35 (by decide +kernel) ?_
  refine cm_i (pc := 36) hw9 (rn_M (As := [.int 1, .int 0, .int 4]) (rest := []) E hw9 (s_isIn l D cI cJ _ M mr (upd (upd (upd (upd (upd (upd mi 0 0) 22 0) 34 0) 35 0) 40 0) 41 (-1)) mf mg 1 0 4) (gdV q_1622 q_1624 q_46 q_162 q_1625) hdV_X12_isIn ⟨rfl, rfl⟩ ⟨(Nat.le_of_ble_eq_true rfl), (Nat.le_of_ble_eq_true rfl)⟩ ⟨(Nat.le_of_ble_eq_true rfl), (Nat.le_of_ble_eq_true rfl)⟩ 12 rfl rfl rfl rfl hl10.1 rfl (Nat.le_of_ble_eq_true rfl) dX12_text_36) (fun r_12 u_11 H1 locs hp hw13 => ?_)
  generalize H1 = H at hw13 ⊢
  have hw14 : WD D A s.heap (MW cI cJ M mr (upd (upd (upd (upd (upd (upd mi 0 0) 22 0) 34 0) 35 0) 40 0) 41 (-1)) mf mg) H locs := hw13
  have hp_15 := hp
  rcases hp_15 with ⟨rfl, ha_16⟩ | ⟨rfl, ha_17⟩ | ⟨rfl, ha_18, ha_19⟩
  · skip
    have ha_16 : (1 : Int32).toInt < (0 : Int32).toInt := ha_16
    rw [show (1 : Int32).toInt = 1 from by decide +kernel] at ha_16
    rw [show (0 : Int32).toInt = 0 from by decide +kernel] at ha_16
    exfalso; omega
  · skip
    have ha_17 : (4 : Int32).toInt < (1 : Int32).toInt := ha_17
    rw [show (1 : Int32).toInt = 1 from by decide +kernel] at ha_17
    rw [show (4 : Int32).toInt = 4 from by decide +kernel] at ha_17
    exfalso; omega
  · skip
    have ha_18 : (0 : Int32).toInt ≤ (1 : Int32).toInt := ha_18
    rw [show (1 : Int32).toInt = 1 from by decide +kernel] at ha_18
    rw [show (0 : Int32).toInt = 0 from by decide +kernel] at ha_18
    have ha_19 : (1 : Int32).toInt ≤ (4 : Int32).toInt := ha_19
    rw [show (1 : Int32).toInt = 1 from by decide +kernel] at ha_19
    rw [show (4 : Int32).toInt = 4 from by decide +kernel] at ha_19
    refine lv_if_eq (pc := 39) (tgt := 69) E.1 E.2.1 dX12_text_39 (by decide) (fun c_20 => absurd c_20 (mneE (a := 1) (b := 0) (by decide +kernel) (by decide +kernel) (by omega))) (fun _ => ?_)
    refine lv_aload_n (pc := 42) E.1 E.2.1 dX12_text_42 rfl (lv_at hl10 1 rfl) ?_
    refine lv_iload_n (pc := 43) E.1 E.2.1 dX12_text_43 rfl (lv_at hl10 2 rfl) ?_
    refine cm_i (pc := 44) hw14 (rn_M (As := [.int 1]) (rest := []) E hw14 (s_readsText1 l D cI cJ _ M mr (upd (upd (upd (upd (upd (upd mi 0 0) 22 0) 34 0) 35 0) 40 0) 41 (-1)) mf mg (by show 0 ≤ (0 : Int32).toInt; have k_1 : (0 : Int32).toInt = 0 := (by decide +kernel); omega) (by show (0 : Int32).toInt ≤ (mi 21).toInt; have k_1 : (0 : Int32).toInt = 0 := (by decide +kernel); omega) h0.2 h1 (by show (0 : Int32).toInt = 0; have k_1 : (0 : Int32).toInt = 0 := (by decide +kernel); omega) (by show (0 : Int32).toInt = 0; have k_1 : (0 : Int32).toInt = 0 := (by decide +kernel); omega) h3 h4 h5 h6 (show (∀ j : Nat, j < 154 → (mf 26) j = w0 j) from lf_words) (show LW 0 0 (mf 31) (mf 32) (mf 28) (mf 29) (mf 30) ((mf 27) 0).toInt 400 from lf_law0) (show LW 16 400 (mf 31) (mf 32) (mf 28) (mf 29) (mf 30) ((mf 27) 1).toInt 400 from lf_law1)) (gdV q_1662 q_1664 q_51 q_162 q_1665) hdV_X12_readsText ⟨rfl, rfl⟩ ⟨(Nat.le_of_ble_eq_true rfl), (Nat.le_of_ble_eq_true rfl)⟩ ⟨(Nat.le_of_ble_eq_true rfl), (Nat.le_of_ble_eq_true rfl)⟩ 12 rfl rfl rfl rfl hl10.1 rfl (Nat.le_of_ble_eq_true rfl) dX12_text_44) (fun r_22 u_21 H1 locs hp hw23 => ?_)
    obtain ⟨nspot_24, nfrom_25, ntoken_26, nvalue_27, gop_28, garg_29, ncodes_30, nreadFault_31, nreadPlace_32, gpending_33, npendings_34, nopen_35, glineFrom_36, glineWhen_37, glineTo_38, nwhich_39⟩ := u_21
    generalize H1 = H at hw23 ⊢
    have hw40 : WD D A s.heap (MW cI cJ M mr (upd (upd (upd (upd (upd (upd (upd (upd (upd (upd (upd (upd (upd mi 0 0) 22 nspot_24) 23 nfrom_25) 24 ntoken_26) 25 nvalue_27) 33 nwhich_39) 34 ncodes_30) 35 nopen_35) 37 npendings_34) 38 nreadFault_31) 39 nreadPlace_32) 40 0) 41 (-1)) (va_up (va_up (va_up (va_up (va_up (va_up mf 28 glineFrom_36) 29 glineWhen_37) 30 glineTo_38) 31 gop_28) 32 garg_29) 36 gpending_33) mg) H locs := hw23
    obtain ⟨hp_41, hp_42, hp_43, hp_44, hp_45, hp_46, hp_47⟩ := hp
    have hp_41 : nwhich_39.toInt = 1 := hp_41
    have hp_42 : 0 ≤ ncodes_30.toInt := hp_42
    have hp_43 : ncodes_30.toInt ≤ 400 := hp_43
    have hp_44 : LW 0 0 gop_28 garg_29 glineFrom_36 glineWhen_37 glineTo_38 ((mf 27) 0).toInt 400 := hp_44
    have hp_45 : LW 16 400 gop_28 garg_29 glineFrom_36 glineWhen_37 glineTo_38 ((mf 27) 1).toInt 400 := hp_45
    have hp_46 : (0 ≤ (r_22 : Int32).toInt → LW 32 800 gop_28 garg_29 glineFrom_36 glineWhen_37 glineTo_38 (r_22 : Int32).toInt ncodes_30.toInt) := hp_46
    rcases hp_47 with rfl | ⟨ha_48, ha_49⟩
    · skip
      refine lv_istore_n (pc := 47) (lv' := [(2, .int (-1)), (0, .ref M), (1, .int 1)]) E.1 E.2.1 dX12_text_47 rfl hl10 (by decide) rfl (fun ls hl50 => ?_)
      refine lv_iload_n (pc := 48) E.1 E.2.1 dX12_text_48 rfl (lv_at hl50 0 rfl) ?_
      refine lv_iconst (pc := 49) (v := (-1)) E.1 E.2.1 dX12_text_49 (by decide +kernel) ?_
      refine lv_icmp_ne (pc := 50) (tgt := 69) E.1 E.2.1 dX12_text_50 (by decide) (fun c_51 => absurd (meqE (a := (-1)) (b := (-1)) (by decide +kernel) (by decide +kernel) (by omega)) c_51) (fun _ => ?_)
      refine lv_aload_n (pc := 53) E.1 E.2.1 dX12_text_53 rfl (lv_at hl50 1 rfl) ?_
      refine lv_aload_n (pc := 54) E.1 E.2.1 dX12_text_54 rfl (lv_at hl50 1 rfl) ?_
      refine x_get (pc := 55) (T := TX12) (N := 70) (ci := 12) (v := .int nreadFault_31) E hw40 inX12 0 38 q_1437 rfl rfl (by decide) rfl rfl dX12_text_55 ?_
      refine x_put (pc := 58) (T := TX12) (N := 70) (ci := 12) (ws' := (MW cI cJ M mr (upd (upd (upd (upd (upd (upd (upd (upd (upd (upd (upd (upd (upd mi 0 0) 22 nspot_24) 23 nfrom_25) 24 ntoken_26) 25 nvalue_27) 33 nwhich_39) 34 ncodes_30) 35 nopen_35) 37 npendings_34) 38 nreadFault_31) 39 nreadPlace_32) 40 nreadFault_31) 41 (-1)) (va_up (va_up (va_up (va_up (va_up (va_up mf 28 glineFrom_36) 29 glineWhen_37) 30 glineTo_38) 31 gop_28) 32 garg_29) 36 gpending_33) mg)) E hw40 inX12 tyX12_ok nmX12 0 40 q_1439 rfl rfl (by decide) rfl rfl rfl rfl (Nat.le_of_ble_eq_true rfl) rfl dX12_text_58 (fun H locs hw52 => ?_)
      refine lv_aload_n (pc := 61) E.1 E.2.1 dX12_text_61 rfl (lv_at hl50 1 rfl) ?_
      refine lv_aload_n (pc := 62) E.1 E.2.1 dX12_text_62 rfl (lv_at hl50 1 rfl) ?_
      refine x_get (pc := 63) (T := TX12) (N := 70) (ci := 12) (v := .int nreadPlace_32) E hw52 inX12 0 39 q_1438 rfl rfl (by decide) rfl rfl dX12_text_63 ?_
      refine x_put (pc := 66) (T := TX12) (N := 70) (ci := 12) (ws' := (MW cI cJ M mr (upd (upd (upd (upd (upd (upd (upd (upd (upd (upd (upd (upd (upd mi 0 0) 22 nspot_24) 23 nfrom_25) 24 ntoken_26) 25 nvalue_27) 33 nwhich_39) 34 ncodes_30) 35 nopen_35) 37 npendings_34) 38 nreadFault_31) 39 nreadPlace_32) 40 nreadFault_31) 41 nreadPlace_32) (va_up (va_up (va_up (va_up (va_up (va_up mf 28 glineFrom_36) 29 glineWhen_37) 30 glineTo_38) 31 gop_28) 32 garg_29) 36 gpending_33) mg)) E hw52 inX12 tyX12_ok nmX12 0 41 q_1440 rfl rfl (by decide) rfl rfl rfl rfl (Nat.le_of_ble_eq_true rfl) rfl dX12_text_66 (fun H locs hw53 => ?_)
      refine lv_aload_n (pc := 69) E.1 E.2.1 dX12_text_69 rfl (lv_at hl50 1 rfl) ?_
      refine lv_iconst (pc := 70) (v := 0) E.1 E.2.1 dX12_text_70 (by decide +kernel) ?_
      refine x_put (pc := 71) (T := TX12) (N := 70) (ci := 12) (ws' := (MW cI cJ M mr (upd (upd (upd (upd (upd (upd (upd (upd (upd (upd (upd (upd (upd (upd mi 0 0) 21 0) 22 nspot_24) 23 nfrom_25) 24 ntoken_26) 25 nvalue_27) 33 nwhich_39) 34 ncodes_30) 35 nopen_35) 37 npendings_34) 38 nreadFault_31) 39 nreadPlace_32) 40 nreadFault_31) 41 nreadPlace_32) (va_up (va_up (va_up (va_up (va_up (va_up mf 28 glineFrom_36) 29 glineWhen_37) 30 glineTo_38) 31 gop_28) 32 garg_29) 36 gpending_33) mg)) E hw53 inX12 tyX12_ok nmX12 0 21 q_1420 rfl rfl (by decide) rfl rfl rfl rfl (Nat.le_of_ble_eq_true rfl) rfl dX12_text_71 (fun H locs hw54 => ?_)
      refine lv_iload_n (pc := 74) E.1 E.2.1 dX12_text_74 rfl (lv_at hl50 0 rfl) ?_
      refine lv_iconst (pc := 75) (v := (-1)) E.1 E.2.1 dX12_text_75 (by decide +kernel) ?_
      refine lv_icmp_ne (pc := 76) (tgt := 81) E.1 E.2.1 dX12_text_76 (by decide) (fun c_55 => absurd (meqE (a := (-1)) (b := (-1)) (by decide +kernel) (by decide +kernel) (by omega)) c_55) (fun _ => ?_)
      refine lv_iconst (pc := 79) (v := (-1)) E.1 E.2.1 dX12_text_79 (by decide +kernel) ?_
      exact em_i (w1 := (fun (u : Int32 × Int32 × Int32 × Int32 × Int32 × Int32 × Int32 × Int32 × Int32 × Int32 × (Nat → Int32) × (Nat → Int32) × Int32 × Int32 × (Nat → Int32) × Int32 × (Nat → Int32) × (Nat → Int32) × (Nat → Int32) × Int32 × (Nat → Int32)) => (MW cI cJ M mr (upd (upd (upd (upd (upd (upd (upd (upd (upd (upd (upd (upd (upd (upd mi 0 u.1) 40 u.2.1) 41 u.2.2.1) 22 u.2.2.2.1) 34 u.2.2.2.2.1) 35 u.2.2.2.2.2.1) 21 u.2.2.2.2.2.2.1) 23 u.2.2.2.2.2.2.2.1) 24 u.2.2.2.2.2.2.2.2.1) 25 u.2.2.2.2.2.2.2.2.2.1) 38 u.2.2.2.2.2.2.2.2.2.2.2.2.1) 39 u.2.2.2.2.2.2.2.2.2.2.2.2.2.1) 37 u.2.2.2.2.2.2.2.2.2.2.2.2.2.2.2.1) 33 u.2.2.2.2.2.2.2.2.2.2.2.2.2.2.2.2.2.2.2.1) (va_up (va_up (va_up (va_up (va_up (va_up (va_up mf 31 u.2.2.2.2.2.2.2.2.2.2.1) 32 u.2.2.2.2.2.2.2.2.2.2.2.1) 36 u.2.2.2.2.2.2.2.2.2.2.2.2.2.2.1) 28 u.2.2.2.2.2.2.2.2.2.2.2.2.2.2.2.2.1) 29 u.2.2.2.2.2.2.2.2.2.2.2.2.2.2.2.2.2.1) 30 u.2.2.2.2.2.2.2.2.2.2.2.2.2.2.2.2.2.2.1) 27 u.2.2.2.2.2.2.2.2.2.2.2.2.2.2.2.2.2.2.2.2) mg))) E hr hlk (0, nreadFault_31, nreadPlace_32, nspot_24, ncodes_30, nopen_35, 0, nfrom_25, ntoken_26, nvalue_27, gop_28, garg_29, nreadFault_31, nreadPlace_32, gpending_33, npendings_34, glineFrom_36, glineWhen_37, glineTo_38, nwhich_39, (mf 27)) hw54 ⟨(by show (0 : Int32).toInt = 0; have k_0 : (0 : Int32).toInt = 0 := (by decide +kernel); have k_1 : (0 : Int32).toInt = 0 := (by decide +kernel); have k_2 : ((-1) : Int32).toInt = -1 := (by decide +kernel); omega), h3, h4, h5, h6, hp_44, hp_45⟩ (Nat.le_of_ble_eq_true rfl) (Nat.le_of_ble_eq_true rfl) dX12_text_80
    · skip
      have ha_48 : 0 ≤ r_22.toInt := ha_48
      have ha_49 : r_22.toInt ≤ 16 := ha_49
      refine lv_istore_n (pc := 47) (lv' := [(2, .int r_22), (0, .ref M), (1, .int 1)]) E.1 E.2.1 dX12_text_47 rfl hl10 (by decide) rfl (fun ls hl56 => ?_)
      refine lv_iload_n (pc := 48) E.1 E.2.1 dX12_text_48 rfl (lv_at hl56 0 rfl) ?_
      refine lv_iconst (pc := 49) (v := (-1)) E.1 E.2.1 dX12_text_49 (by decide +kernel) ?_
      refine lv_icmp_ne (pc := 50) (tgt := 69) E.1 E.2.1 dX12_text_50 (by decide) (fun _ => ?_) (fun c_57 => absurd c_57 (mneE (a := r_22.toInt) (b := (-1)) rfl (by decide +kernel) (by omega)))
      refine lv_aload_n (pc := 69) E.1 E.2.1 dX12_text_69 rfl (lv_at hl56 1 rfl) ?_
      refine lv_iconst (pc := 70) (v := 0) E.1 E.2.1 dX12_text_70 (by decide +kernel) ?_
      refine x_put (pc := 71) (T := TX12) (N := 70) (ci := 12) (ws' := (MW cI cJ M mr (upd (upd (upd (upd (upd (upd (upd (upd (upd (upd (upd (upd (upd (upd mi 0 0) 21 0) 22 nspot_24) 23 nfrom_25) 24 ntoken_26) 25 nvalue_27) 33 nwhich_39) 34 ncodes_30) 35 nopen_35) 37 npendings_34) 38 nreadFault_31) 39 nreadPlace_32) 40 0) 41 (-1)) (va_up (va_up (va_up (va_up (va_up (va_up mf 28 glineFrom_36) 29 glineWhen_37) 30 glineTo_38) 31 gop_28) 32 garg_29) 36 gpending_33) mg)) E hw40 inX12 tyX12_ok nmX12 0 21 q_1420 rfl rfl (by decide) rfl rfl rfl rfl (Nat.le_of_ble_eq_true rfl) rfl dX12_text_71 (fun H locs hw58 => ?_)
      refine lv_iload_n (pc := 74) E.1 E.2.1 dX12_text_74 rfl (lv_at hl56 0 rfl) ?_
      refine lv_iconst (pc := 75) (v := (-1)) E.1 E.2.1 dX12_text_75 (by decide +kernel) ?_
      refine lv_icmp_ne (pc := 76) (tgt := 81) E.1 E.2.1 dX12_text_76 (by decide) (fun _ => ?_) (fun c_59 => absurd c_59 (mneE (a := r_22.toInt) (b := (-1)) rfl (by decide +kernel) (by omega)))
      refine lv_iload_n (pc := 81) E.1 E.2.1 dX12_text_81 rfl (lv_at hl56 2 rfl) ?_
      refine lv_iconst (pc := 82) (v := 1) E.1 E.2.1 dX12_text_82 (by decide +kernel) ?_
      refine lv_icmp_gt (pc := 83) (tgt := 94) E.1 E.2.1 dX12_text_83 (by decide) (fun c_60 => absurd c_60 (mnltE (a := 1) (b := 1) (by decide +kernel) (by decide +kernel) (by omega))) (fun _ => ?_)
      refine lv_aload_n (pc := 86) E.1 E.2.1 dX12_text_86 rfl (lv_at hl56 1 rfl) ?_
      refine lv_iload_n (pc := 87) E.1 E.2.1 dX12_text_87 rfl (lv_at hl56 0 rfl) ?_
      refine cm_v (pc := 88) hw58 (rn_M (As := [.int r_22]) (rest := []) E hw58 (s_takesLaw1 l D cI cJ _ M mr (upd (upd (upd (upd (upd (upd (upd (upd (upd (upd (upd (upd (upd (upd mi 0 0) 21 0) 22 nspot_24) 23 nfrom_25) 24 ntoken_26) 25 nvalue_27) 33 nwhich_39) 34 ncodes_30) 35 nopen_35) 37 npendings_34) 38 nreadFault_31) 39 nreadPlace_32) 40 0) 41 (-1)) (va_up (va_up (va_up (va_up (va_up (va_up mf 28 glineFrom_36) 29 glineWhen_37) 30 glineTo_38) 31 gop_28) 32 garg_29) 36 gpending_33) mg r_22 hp_41 (by show 0 ≤ r_22.toInt ∧ r_22.toInt ≤ 16; omega) ⟨hp_42, hp_43⟩ h3 h4 h5 h6 (show LW 0 0 gop_28 garg_29 glineFrom_36 glineWhen_37 glineTo_38 ((mf 27) 0).toInt 400 from hp_44) (show LW 32 800 gop_28 garg_29 glineFrom_36 glineWhen_37 glineTo_38 r_22.toInt ncodes_30.toInt from (hp_46 (by omega)))) (gdV q_1806 q_1808 q_87 q_162 q_1809) hdV_X12_takesLaw ⟨rfl, rfl⟩ ⟨(Nat.le_of_ble_eq_true rfl), (Nat.le_of_ble_eq_true rfl)⟩ ⟨(Nat.le_of_ble_eq_true rfl), (Nat.le_of_ble_eq_true rfl)⟩ 12 rfl rfl rfl rfl hl56.1 rfl (Nat.le_of_ble_eq_true rfl) dX12_text_88) (fun u_61 H1 locs hp hw63 => ?_)
      obtain ⟨glineFrom_64, glineWhen_65, glineTo_66, gop_67, garg_68, glineMany_69⟩ := u_61
      generalize H1 = H at hw63 ⊢
      have hw70 : WD D A s.heap (MW cI cJ M mr (upd (upd (upd (upd (upd (upd (upd (upd (upd (upd (upd (upd (upd (upd mi 0 0) 21 0) 22 nspot_24) 23 nfrom_25) 24 ntoken_26) 25 nvalue_27) 33 nwhich_39) 34 ncodes_30) 35 nopen_35) 37 npendings_34) 38 nreadFault_31) 39 nreadPlace_32) 40 0) 41 (-1)) (va_up (va_up (va_up (va_up (va_up (va_up (va_up mf 27 glineMany_69) 28 glineFrom_64) 29 glineWhen_65) 30 glineTo_66) 31 gop_67) 32 garg_68) 36 gpending_33) mg) H locs := hw63
      obtain ⟨hp_71, hp_72, hp_73, hp_74⟩ := hp
      have hp_71 : (glineMany_69 1).toInt = r_22.toInt := hp_71
      have hp_72 : (glineMany_69 0).toInt = ((mf 27) 0).toInt := hp_72
      have hp_73 : LW 0 0 gop_67 garg_68 glineFrom_64 glineWhen_65 glineTo_66 (glineMany_69 0).toInt 400 := hp_73
      have hp_74 : LW 16 400 gop_67 garg_68 glineFrom_64 glineWhen_65 glineTo_66 (glineMany_69 1).toInt 400 := hp_74
      refine lv_goto (pc := 91) (tgt := 100) E.1 E.2.1 dX12_text_91 (by decide) ?_
      refine lv_iload_n (pc := 100) E.1 E.2.1 dX12_text_100 rfl (lv_at hl56 0 rfl) ?_
      exact em_i (w1 := (fun (u : Int32 × Int32 × Int32 × Int32 × Int32 × Int32 × Int32 × Int32 × Int32 × Int32 × (Nat → Int32) × (Nat → Int32) × Int32 × Int32 × (Nat → Int32) × Int32 × (Nat → Int32) × (Nat → Int32) × (Nat → Int32) × Int32 × (Nat → Int32)) => (MW cI cJ M mr (upd (upd (upd (upd (upd (upd (upd (upd (upd (upd (upd (upd (upd (upd mi 0 u.1) 40 u.2.1) 41 u.2.2.1) 22 u.2.2.2.1) 34 u.2.2.2.2.1) 35 u.2.2.2.2.2.1) 21 u.2.2.2.2.2.2.1) 23 u.2.2.2.2.2.2.2.1) 24 u.2.2.2.2.2.2.2.2.1) 25 u.2.2.2.2.2.2.2.2.2.1) 38 u.2.2.2.2.2.2.2.2.2.2.2.2.1) 39 u.2.2.2.2.2.2.2.2.2.2.2.2.2.1) 37 u.2.2.2.2.2.2.2.2.2.2.2.2.2.2.2.1) 33 u.2.2.2.2.2.2.2.2.2.2.2.2.2.2.2.2.2.2.2.1) (va_up (va_up (va_up (va_up (va_up (va_up (va_up mf 31 u.2.2.2.2.2.2.2.2.2.2.1) 32 u.2.2.2.2.2.2.2.2.2.2.2.1) 36 u.2.2.2.2.2.2.2.2.2.2.2.2.2.2.1) 28 u.2.2.2.2.2.2.2.2.2.2.2.2.2.2.2.2.1) 29 u.2.2.2.2.2.2.2.2.2.2.2.2.2.2.2.2.2.1) 30 u.2.2.2.2.2.2.2.2.2.2.2.2.2.2.2.2.2.2.1) 27 u.2.2.2.2.2.2.2.2.2.2.2.2.2.2.2.2.2.2.2.2) mg))) E hr hlk (0, 0, (-1), nspot_24, ncodes_30, nopen_35, 0, nfrom_25, ntoken_26, nvalue_27, gop_67, garg_68, nreadFault_31, nreadPlace_32, gpending_33, npendings_34, glineFrom_64, glineWhen_65, glineTo_66, nwhich_39, glineMany_69) hw70 ⟨(by show (0 : Int32).toInt = 0; have k_0 : (0 : Int32).toInt = 0 := (by decide +kernel); have k_1 : (0 : Int32).toInt = 0 := (by decide +kernel); have k_2 : (0 : Int32).toInt = 0 := (by decide +kernel); have k_3 : ((-1) : Int32).toInt = -1 := (by decide +kernel); omega), (ax73r37c_0 hp_72 h3), (ax73r37c_6 hp_72 h4), (ax73r37c_0 hp_71 ha_48), (ax73r37c_6 hp_71 ha_49), hp_73, hp_74⟩ (Nat.le_of_ble_eq_true rfl) (Nat.le_of_ble_eq_true rfl) dX12_text_101
