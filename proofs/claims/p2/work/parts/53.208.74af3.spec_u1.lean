set_option maxHeartbeats 4000000 in
set_option maxRecDepth 100000 in
theorem s_houseU (l : Launch) (D : va_G) (cI cJ : ClassId) (sz M : Nat) (mr : Nat → Nat) (mi : Nat → Int32) (mf : Nat → Nat → Int32) (mg : Nat → Nat → Int64) (z_place : Int32) (z_people : Int32) (z_oil : Int32) (h0 : 0 ≤ (mi 6).toInt ∧ (mi 6).toInt ≤ 10) (h1 : 0 ≤ (mi 3).toInt ∧ (mi 3).toInt ≤ 6) (lf_rows : rowsOK (mi 3).toInt (mi 6).toInt (mf 2)) (lf_people : pplOK (mi 6).toInt (mf 8)) (lf_kept : RKN (mi 3).toInt (((mf 1) 0).toInt) (mf 2)) (lf_keptD : RKD (mi 3).toInt ((mf 1) 1) (mi 12).toInt (mf 2)) : Met l yX12_house (Cond.code yX12_house cX12_house 5 (some .int) :: GW) ({ frames := 2, cells := 0, slots := 0, locals := 63 } : Room) (va_Pc [.ref M, .int z_place, .int z_people, .int z_oil] (PW D cI cJ sz (MW cI cJ M mr mi mf mg) xT)) (va_Qi (fun (r : Int32) (u : Int32 × (Nat → Int32) × (Nat → Int32) × (Nat → Int32) × (Nat → Int32) × (Nat → Int32) × (Nat → Int32) × Int32 × Int32) => (0 ≤ u.2.2.2.2.2.2.2.1.toInt ∧ u.2.2.2.2.2.2.2.1.toInt ≤ 10) ∧ ((mi 6).toInt ≤ u.2.2.2.2.2.2.2.1.toInt) ∧ (u.2.2.2.2.2.2.2.1.toInt ≤ (mi 6).toInt + 1) ∧ (0 ≤ u.2.2.2.2.2.2.2.2.toInt ∧ u.2.2.2.2.2.2.2.2.toInt ≤ 6) ∧ ((u.2.2.2.2.2.2.1 2).toInt = ((mf 1) 2).toInt) ∧ ((u.2.2.2.2.2.2.1 3).toInt = ((mf 1) 3).toInt) ∧ ((u.2.2.2.2.2.2.1 5).toInt = ((mf 1) 5).toInt) ∧ ((u.2.2.2.2.2.2.1 0).toInt = ((mf 1) 0).toInt) ∧ ((u.2.2.2.2.2.2.1 1).toInt = ((mf 1) 1).toInt) ∧ (rowsOK u.2.2.2.2.2.2.2.2.toInt u.2.2.2.2.2.2.2.1.toInt (mf 2)) ∧ (pplOK u.2.2.2.2.2.2.2.1.toInt u.2.2.1) ∧ (RKN u.2.2.2.2.2.2.2.2.toInt ((u.2.2.2.2.2.2.1 0).toInt) (mf 2)) ∧ (RKD u.2.2.2.2.2.2.2.2.toInt (u.2.2.2.2.2.2.1 1) (mi 12).toInt (mf 2)) ∧ (HST (mi 6).toInt u.2.2.2.2.2.2.2.1.toInt (mf 7) u.2.1 z_place z_people.toInt z_oil.toInt) ∧ (((u.2.2.2.2.2.2.2.1.toInt = (mi 6).toInt + 1 ∧ u.2.2.2.2.2.2.2.2.toInt = 0) ∨ (u.2.2.2.2.2.2.2.1.toInt = (mi 6).toInt ∧ u.2.2.2.2.2.2.2.2.toInt = (mi 3).toInt)))) (fun u => QW D cI cJ (va_A (MW cI cJ M mr mi mf mg) sz) ((fun (u : Int32 × (Nat → Int32) × (Nat → Int32) × (Nat → Int32) × (Nat → Int32) × (Nat → Int32) × (Nat → Int32) × Int32 × Int32) => (MW cI cJ M mr (upd (upd (upd mi 0 u.1) 6 u.2.2.2.2.2.2.2.1) 3 u.2.2.2.2.2.2.2.2) (va_up (va_up (va_up (va_up (va_up (va_up mf 7 u.2.1) 8 u.2.2.1) 9 u.2.2.2.1) 10 u.2.2.2.2.1) 11 u.2.2.2.2.2.1) 1 u.2.2.2.2.2.2.1) mg)) u)) (va_A (MW cI cJ M mr mi mf mg) sz)) 0 0 (va_A (MW cI cJ M mr mi mf mg) sz) := by
  refine mk_met (y := yX12_house) (bytes := cX12_house) (maxL := 5) (avs := [.ref M, .int z_place, .int z_people, .int z_oil]) (WS := (MW cI cJ M mr mi mf mg)) (Qf := fun A => va_Qi (fun (r : Int32) (u : Int32 × (Nat → Int32) × (Nat → Int32) × (Nat → Int32) × (Nat → Int32) × (Nat → Int32) × (Nat → Int32) × Int32 × Int32) => (0 ≤ u.2.2.2.2.2.2.2.1.toInt ∧ u.2.2.2.2.2.2.2.1.toInt ≤ 10) ∧ ((mi 6).toInt ≤ u.2.2.2.2.2.2.2.1.toInt) ∧ (u.2.2.2.2.2.2.2.1.toInt ≤ (mi 6).toInt + 1) ∧ (0 ≤ u.2.2.2.2.2.2.2.2.toInt ∧ u.2.2.2.2.2.2.2.2.toInt ≤ 6) ∧ ((u.2.2.2.2.2.2.1 2).toInt = ((mf 1) 2).toInt) ∧ ((u.2.2.2.2.2.2.1 3).toInt = ((mf 1) 3).toInt) ∧ ((u.2.2.2.2.2.2.1 5).toInt = ((mf 1) 5).toInt) ∧ ((u.2.2.2.2.2.2.1 0).toInt = ((mf 1) 0).toInt) ∧ ((u.2.2.2.2.2.2.1 1).toInt = ((mf 1) 1).toInt) ∧ (rowsOK u.2.2.2.2.2.2.2.2.toInt u.2.2.2.2.2.2.2.1.toInt (mf 2)) ∧ (pplOK u.2.2.2.2.2.2.2.1.toInt u.2.2.1) ∧ (RKN u.2.2.2.2.2.2.2.2.toInt ((u.2.2.2.2.2.2.1 0).toInt) (mf 2)) ∧ (RKD u.2.2.2.2.2.2.2.2.toInt (u.2.2.2.2.2.2.1 1) (mi 12).toInt (mf 2)) ∧ (HST (mi 6).toInt u.2.2.2.2.2.2.2.1.toInt (mf 7) u.2.1 z_place z_people.toInt z_oil.toInt) ∧ (((u.2.2.2.2.2.2.2.1.toInt = (mi 6).toInt + 1 ∧ u.2.2.2.2.2.2.2.2.toInt = 0) ∨ (u.2.2.2.2.2.2.2.1.toInt = (mi 6).toInt ∧ u.2.2.2.2.2.2.2.2.toInt = (mi 3).toInt)))) (fun u => QW D cI cJ A ((fun (u : Int32 × (Nat → Int32) × (Nat → Int32) × (Nat → Int32) × (Nat → Int32) × (Nat → Int32) × (Nat → Int32) × Int32 × Int32) => (MW cI cJ M mr (upd (upd (upd mi 0 u.1) 6 u.2.2.2.2.2.2.2.1) 3 u.2.2.2.2.2.2.2.2) (va_up (va_up (va_up (va_up (va_up (va_up mf 7 u.2.1) 8 u.2.2.1) 9 u.2.2.2.1) 10 u.2.2.2.2.1) 11 u.2.2.2.2.2.1) 1 u.2.2.2.2.2.2.1) mg)) u)) A) (by decide) (Nat.le_of_ble_eq_true rfl) ?_
  intro p e s m below meth c A ls E hr hlk hnm hX hw1 hl2
  have hl3 : lv_has ls 5 [(0, .ref M), (1, .int z_place), (2, .int z_people), (3, .int z_oil)] := hl2
  refine lv_aload_n (pc := 0) E.1 E.2.1 dX12_house_0 rfl (lv_at hl3 0 rfl) ?_
  refine lv_iconst (pc := 1) (v := 0) E.1 E.2.1 dX12_house_1 (by decide +kernel) ?_
  refine x_put (pc := 2) (T := TX12) (N := 70) (ci := 12) (ws' := (MW cI cJ M mr (upd mi 0 0) mf mg)) E hw1 inX12 tyX12_ok nmX12 0 0 q_1399 rfl rfl (by decide) rfl rfl rfl rfl (Nat.le_of_ble_eq_true rfl) rfl dX12_house_2 (fun H locs hw4 => ?_)
  refine lv_aload_n (pc := 5) E.1 E.2.1 dX12_house_5 rfl (lv_at hl3 0 rfl) ?_
  refine lv_iload_n (pc := 6) E.1 E.2.1 dX12_house_6 rfl (lv_at hl3 1 rfl) ?_
  refine lv_iconst (pc := 7) (v := 0) E.1 E.2.1 dX12_house_7 (by decide +kernel) ?_
  refine lv_bipush (pc := 8) (v := 63) E.1 E.2.1 dX12_house_8 (by decide +kernel) ?_
  refine cm_i (pc := 10) hw4 (rn_M (As := [.int z_place, .int 0, .int 63]) (rest := []) E hw4 (s_isIn l D cI cJ _ M mr (upd mi 0 0) mf mg z_place 0 63) (gdV q_1622 q_1624 q_46 q_162 q_1625) hdV_X12_isIn ⟨rfl, rfl⟩ ⟨(Nat.le_of_ble_eq_true rfl), (Nat.le_of_ble_eq_true rfl)⟩ ⟨(Nat.le_of_ble_eq_true rfl), (Nat.le_of_ble_eq_true rfl)⟩ 12 rfl rfl rfl rfl hl3.1 rfl (Nat.le_of_ble_eq_true rfl) dX12_house_10) (fun r_6 u_5 H1 locs hp hw7 => ?_)
  generalize H1 = H at hw7 ⊢
  have hw8 : WD D A s.heap (MW cI cJ M mr (upd mi 0 0) mf mg) H locs := hw7
  have hp_9 := hp
  rcases hp_9 with ⟨rfl, ha_10⟩ | ⟨rfl, ha_11⟩ | ⟨rfl, ha_12, ha_13⟩
  · skip
    have ha_10 : z_place.toInt < (0 : Int32).toInt := ha_10
    rw [show (0 : Int32).toInt = 0 from by decide +kernel] at ha_10
    refine lv_if_eq (pc := 13) (tgt := 48) E.1 E.2.1 dX12_house_13 (by decide) (fun _ => ?_) (fun c_14 => absurd (meqE (a := 0) (b := 0) (by decide +kernel) (by decide +kernel) (by omega)) c_14)
    refine lv_iconst (pc := 48) (v := (-1)) E.1 E.2.1 dX12_house_48 (by decide +kernel) ?_
    exact em_i (w1 := (fun (u : Int32 × (Nat → Int32) × (Nat → Int32) × (Nat → Int32) × (Nat → Int32) × (Nat → Int32) × (Nat → Int32) × Int32 × Int32) => (MW cI cJ M mr (upd (upd (upd mi 0 u.1) 6 u.2.2.2.2.2.2.2.1) 3 u.2.2.2.2.2.2.2.2) (va_up (va_up (va_up (va_up (va_up (va_up mf 7 u.2.1) 8 u.2.2.1) 9 u.2.2.2.1) 10 u.2.2.2.2.1) 11 u.2.2.2.2.2.1) 1 u.2.2.2.2.2.2.1) mg))) E hr hlk (0, (mf 7), (mf 8), (mf 9), (mf 10), (mf 11), (mf 1), (mi 6), (mi 3)) hw8 ⟨h0, (by show (mi 6).toInt ≤ (mi 6).toInt; have k_0 : (0 : Int32).toInt = 0 := (by decide +kernel); have k_1 : ((-1) : Int32).toInt = -1 := (by decide +kernel); omega), (by show (mi 6).toInt ≤ (mi 6).toInt + 1; have k_0 : (0 : Int32).toInt = 0 := (by decide +kernel); have k_1 : ((-1) : Int32).toInt = -1 := (by decide +kernel); omega), h1, rfl, rfl, rfl, rfl, rfl, (show rowsOK (mi 3).toInt (mi 6).toInt (mf 2) from lf_rows), (show pplOK (mi 6).toInt (mf 8) from lf_people), (show RKN (mi 3).toInt (((mf 1) 0).toInt) (mf 2) from lf_kept), (show RKD (mi 3).toInt ((mf 1) 1) (mi 12).toInt (mf 2) from lf_keptD), (show HST (mi 6).toInt (mi 6).toInt (mf 7) (mf 7) z_place z_people.toInt z_oil.toInt from (Or.inr ⟨fun h => by obtain ⟨⟨h1, h2⟩, ⟨h3, h4⟩, h5, h6, h7, -⟩ := h; omega, rfl, rfl⟩)), (show (((mi 6).toInt = (mi 6).toInt + 1 ∧ (mi 3).toInt = 0) ∨ ((mi 6).toInt = (mi 6).toInt ∧ (mi 3).toInt = (mi 3).toInt)) from (Or.inr ⟨rfl, rfl⟩))⟩ (Nat.le_of_ble_eq_true rfl) (Nat.le_of_ble_eq_true rfl) dX12_house_49
  · skip
    have ha_11 : (63 : Int32).toInt < z_place.toInt := ha_11
    rw [show (63 : Int32).toInt = 63 from by decide +kernel] at ha_11
    refine lv_if_eq (pc := 13) (tgt := 48) E.1 E.2.1 dX12_house_13 (by decide) (fun _ => ?_) (fun c_15 => absurd (meqE (a := 0) (b := 0) (by decide +kernel) (by decide +kernel) (by omega)) c_15)
    refine lv_iconst (pc := 48) (v := (-1)) E.1 E.2.1 dX12_house_48 (by decide +kernel) ?_
    exact em_i (w1 := (fun (u : Int32 × (Nat → Int32) × (Nat → Int32) × (Nat → Int32) × (Nat → Int32) × (Nat → Int32) × (Nat → Int32) × Int32 × Int32) => (MW cI cJ M mr (upd (upd (upd mi 0 u.1) 6 u.2.2.2.2.2.2.2.1) 3 u.2.2.2.2.2.2.2.2) (va_up (va_up (va_up (va_up (va_up (va_up mf 7 u.2.1) 8 u.2.2.1) 9 u.2.2.2.1) 10 u.2.2.2.2.1) 11 u.2.2.2.2.2.1) 1 u.2.2.2.2.2.2.1) mg))) E hr hlk (0, (mf 7), (mf 8), (mf 9), (mf 10), (mf 11), (mf 1), (mi 6), (mi 3)) hw8 ⟨h0, (by show (mi 6).toInt ≤ (mi 6).toInt; have k_0 : (0 : Int32).toInt = 0 := (by decide +kernel); have k_1 : ((-1) : Int32).toInt = -1 := (by decide +kernel); omega), (by show (mi 6).toInt ≤ (mi 6).toInt + 1; have k_0 : (0 : Int32).toInt = 0 := (by decide +kernel); have k_1 : ((-1) : Int32).toInt = -1 := (by decide +kernel); omega), h1, rfl, rfl, rfl, rfl, rfl, (show rowsOK (mi 3).toInt (mi 6).toInt (mf 2) from lf_rows), (show pplOK (mi 6).toInt (mf 8) from lf_people), (show RKN (mi 3).toInt (((mf 1) 0).toInt) (mf 2) from lf_kept), (show RKD (mi 3).toInt ((mf 1) 1) (mi 12).toInt (mf 2) from lf_keptD), (show HST (mi 6).toInt (mi 6).toInt (mf 7) (mf 7) z_place z_people.toInt z_oil.toInt from (Or.inr ⟨fun h => by obtain ⟨⟨h1, h2⟩, ⟨h3, h4⟩, h5, h6, h7, -⟩ := h; omega, rfl, rfl⟩)), (show (((mi 6).toInt = (mi 6).toInt + 1 ∧ (mi 3).toInt = 0) ∨ ((mi 6).toInt = (mi 6).toInt ∧ (mi 3).toInt = (mi 3).toInt)) from (Or.inr ⟨rfl, rfl⟩))⟩ (Nat.le_of_ble_eq_true rfl) (Nat.le_of_ble_eq_true rfl) dX12_house_49
  · skip
    have ha_12 : (0 : Int32).toInt ≤ z_place.toInt := ha_12
    rw [show (0 : Int32).toInt = 0 from by decide +kernel] at ha_12
    have ha_13 : z_place.toInt ≤ (63 : Int32).toInt := ha_13
    rw [show (63 : Int32).toInt = 63 from by decide +kernel] at ha_13
    refine lv_if_eq (pc := 13) (tgt := 48) E.1 E.2.1 dX12_house_13 (by decide) (fun c_16 => absurd c_16 (mneE (a := 1) (b := 0) (by decide +kernel) (by decide +kernel) (by omega))) (fun _ => ?_)
    refine lv_aload_n (pc := 16) E.1 E.2.1 dX12_house_16 rfl (lv_at hl3 0 rfl) ?_
    refine lv_iload_n (pc := 17) E.1 E.2.1 dX12_house_17 rfl (lv_at hl3 2 rfl) ?_
    refine lv_iconst (pc := 18) (v := 1) E.1 E.2.1 dX12_house_18 (by decide +kernel) ?_
    refine lv_bipush (pc := 19) (v := 20) E.1 E.2.1 dX12_house_19 (by decide +kernel) ?_
    refine cm_i (pc := 21) hw8 (rn_M (As := [.int z_people, .int 1, .int 20]) (rest := []) E hw8 (s_isIn l D cI cJ _ M mr (upd mi 0 0) mf mg z_people 1 20) (gdV q_1622 q_1624 q_46 q_162 q_1625) hdV_X12_isIn ⟨rfl, rfl⟩ ⟨(Nat.le_of_ble_eq_true rfl), (Nat.le_of_ble_eq_true rfl)⟩ ⟨(Nat.le_of_ble_eq_true rfl), (Nat.le_of_ble_eq_true rfl)⟩ 12 rfl rfl rfl rfl hl3.1 rfl (Nat.le_of_ble_eq_true rfl) dX12_house_21) (fun r_18 u_17 H1 locs hp hw19 => ?_)
    generalize H1 = H at hw19 ⊢
    have hw20 : WD D A s.heap (MW cI cJ M mr (upd mi 0 0) mf mg) H locs := hw19
    have hp_21 := hp
    rcases hp_21 with ⟨rfl, ha_22⟩ | ⟨rfl, ha_23⟩ | ⟨rfl, ha_24, ha_25⟩
    · skip
      have ha_22 : z_people.toInt < (1 : Int32).toInt := ha_22
      rw [show (1 : Int32).toInt = 1 from by decide +kernel] at ha_22
      refine lv_if_eq (pc := 24) (tgt := 48) E.1 E.2.1 dX12_house_24 (by decide) (fun _ => ?_) (fun c_26 => absurd (meqE (a := 0) (b := 0) (by decide +kernel) (by decide +kernel) (by omega)) c_26)
      refine lv_iconst (pc := 48) (v := (-1)) E.1 E.2.1 dX12_house_48 (by decide +kernel) ?_
      exact em_i (w1 := (fun (u : Int32 × (Nat → Int32) × (Nat → Int32) × (Nat → Int32) × (Nat → Int32) × (Nat → Int32) × (Nat → Int32) × Int32 × Int32) => (MW cI cJ M mr (upd (upd (upd mi 0 u.1) 6 u.2.2.2.2.2.2.2.1) 3 u.2.2.2.2.2.2.2.2) (va_up (va_up (va_up (va_up (va_up (va_up mf 7 u.2.1) 8 u.2.2.1) 9 u.2.2.2.1) 10 u.2.2.2.2.1) 11 u.2.2.2.2.2.1) 1 u.2.2.2.2.2.2.1) mg))) E hr hlk (0, (mf 7), (mf 8), (mf 9), (mf 10), (mf 11), (mf 1), (mi 6), (mi 3)) hw20 ⟨h0, (by show (mi 6).toInt ≤ (mi 6).toInt; have k_0 : (0 : Int32).toInt = 0 := (by decide +kernel); have k_1 : ((-1) : Int32).toInt = -1 := (by decide +kernel); omega), (by show (mi 6).toInt ≤ (mi 6).toInt + 1; have k_0 : (0 : Int32).toInt = 0 := (by decide +kernel); have k_1 : ((-1) : Int32).toInt = -1 := (by decide +kernel); omega), h1, rfl, rfl, rfl, rfl, rfl, (show rowsOK (mi 3).toInt (mi 6).toInt (mf 2) from lf_rows), (show pplOK (mi 6).toInt (mf 8) from lf_people), (show RKN (mi 3).toInt (((mf 1) 0).toInt) (mf 2) from lf_kept), (show RKD (mi 3).toInt ((mf 1) 1) (mi 12).toInt (mf 2) from lf_keptD), (show HST (mi 6).toInt (mi 6).toInt (mf 7) (mf 7) z_place z_people.toInt z_oil.toInt from (Or.inr ⟨fun h => by obtain ⟨⟨h1, h2⟩, ⟨h3, h4⟩, h5, h6, h7, -⟩ := h; omega, rfl, rfl⟩)), (show (((mi 6).toInt = (mi 6).toInt + 1 ∧ (mi 3).toInt = 0) ∨ ((mi 6).toInt = (mi 6).toInt ∧ (mi 3).toInt = (mi 3).toInt)) from (Or.inr ⟨rfl, rfl⟩))⟩ (Nat.le_of_ble_eq_true rfl) (Nat.le_of_ble_eq_true rfl) dX12_house_49
    · skip
      have ha_23 : (20 : Int32).toInt < z_people.toInt := ha_23
      rw [show (20 : Int32).toInt = 20 from by decide +kernel] at ha_23
      refine lv_if_eq (pc := 24) (tgt := 48) E.1 E.2.1 dX12_house_24 (by decide) (fun _ => ?_) (fun c_27 => absurd (meqE (a := 0) (b := 0) (by decide +kernel) (by decide +kernel) (by omega)) c_27)
      refine lv_iconst (pc := 48) (v := (-1)) E.1 E.2.1 dX12_house_48 (by decide +kernel) ?_
      exact em_i (w1 := (fun (u : Int32 × (Nat → Int32) × (Nat → Int32) × (Nat → Int32) × (Nat → Int32) × (Nat → Int32) × (Nat → Int32) × Int32 × Int32) => (MW cI cJ M mr (upd (upd (upd mi 0 u.1) 6 u.2.2.2.2.2.2.2.1) 3 u.2.2.2.2.2.2.2.2) (va_up (va_up (va_up (va_up (va_up (va_up mf 7 u.2.1) 8 u.2.2.1) 9 u.2.2.2.1) 10 u.2.2.2.2.1) 11 u.2.2.2.2.2.1) 1 u.2.2.2.2.2.2.1) mg))) E hr hlk (0, (mf 7), (mf 8), (mf 9), (mf 10), (mf 11), (mf 1), (mi 6), (mi 3)) hw20 ⟨h0, (by show (mi 6).toInt ≤ (mi 6).toInt; have k_0 : (0 : Int32).toInt = 0 := (by decide +kernel); have k_1 : ((-1) : Int32).toInt = -1 := (by decide +kernel); omega), (by show (mi 6).toInt ≤ (mi 6).toInt + 1; have k_0 : (0 : Int32).toInt = 0 := (by decide +kernel); have k_1 : ((-1) : Int32).toInt = -1 := (by decide +kernel); omega), h1, rfl, rfl, rfl, rfl, rfl, (show rowsOK (mi 3).toInt (mi 6).toInt (mf 2) from lf_rows), (show pplOK (mi 6).toInt (mf 8) from lf_people), (show RKN (mi 3).toInt (((mf 1) 0).toInt) (mf 2) from lf_kept), (show RKD (mi 3).toInt ((mf 1) 1) (mi 12).toInt (mf 2) from lf_keptD), (show HST (mi 6).toInt (mi 6).toInt (mf 7) (mf 7) z_place z_people.toInt z_oil.toInt from (Or.inr ⟨fun h => by obtain ⟨⟨h1, h2⟩, ⟨h3, h4⟩, h5, h6, h7, -⟩ := h; omega, rfl, rfl⟩)), (show (((mi 6).toInt = (mi 6).toInt + 1 ∧ (mi 3).toInt = 0) ∨ ((mi 6).toInt = (mi 6).toInt ∧ (mi 3).toInt = (mi 3).toInt)) from (Or.inr ⟨rfl, rfl⟩))⟩ (Nat.le_of_ble_eq_true rfl) (Nat.le_of_ble_eq_true rfl) dX12_house_49
    · skip
      have ha_24 : (1 : Int32).toInt ≤ z_people.toInt := ha_24
      rw [show (1 : Int32).toInt = 1 from by decide +kernel] at ha_24
      have ha_25 : z_people.toInt ≤ (20 : Int32).toInt := ha_25
      rw [show (20 : Int32).toInt = 20 from by decide +kernel] at ha_25
      refine lv_if_eq (pc := 24) (tgt := 48) E.1 E.2.1 dX12_house_24 (by decide) (fun c_28 => absurd c_28 (mneE (a := 1) (b := 0) (by decide +kernel) (by decide +kernel) (by omega))) (fun _ => ?_)
      refine lv_aload_n (pc := 27) E.1 E.2.1 dX12_house_27 rfl (lv_at hl3 0 rfl) ?_
      refine lv_iload_n (pc := 28) E.1 E.2.1 dX12_house_28 rfl (lv_at hl3 3 rfl) ?_
      refine lv_iconst (pc := 29) (v := 0) E.1 E.2.1 dX12_house_29 (by decide +kernel) ?_
      refine lv_sipush (pc := 30) (v := 999) E.1 E.2.1 dX12_house_30 (by decide +kernel) ?_
      refine cm_i (pc := 33) hw20 (rn_M (As := [.int z_oil, .int 0, .int 999]) (rest := []) E hw20 (s_isIn l D cI cJ _ M mr (upd mi 0 0) mf mg z_oil 0 999) (gdV q_1622 q_1624 q_46 q_162 q_1625) hdV_X12_isIn ⟨rfl, rfl⟩ ⟨(Nat.le_of_ble_eq_true rfl), (Nat.le_of_ble_eq_true rfl)⟩ ⟨(Nat.le_of_ble_eq_true rfl), (Nat.le_of_ble_eq_true rfl)⟩ 12 rfl rfl rfl rfl hl3.1 rfl (Nat.le_of_ble_eq_true rfl) dX12_house_33) (fun r_30 u_29 H1 locs hp hw31 => ?_)
      generalize H1 = H at hw31 ⊢
      have hw32 : WD D A s.heap (MW cI cJ M mr (upd mi 0 0) mf mg) H locs := hw31
      have hp_33 := hp
      rcases hp_33 with ⟨rfl, ha_34⟩ | ⟨rfl, ha_35⟩ | ⟨rfl, ha_36, ha_37⟩
      · skip
        have ha_34 : z_oil.toInt < (0 : Int32).toInt := ha_34
        rw [show (0 : Int32).toInt = 0 from by decide +kernel] at ha_34
        refine lv_if_eq (pc := 36) (tgt := 48) E.1 E.2.1 dX12_house_36 (by decide) (fun _ => ?_) (fun c_38 => absurd (meqE (a := 0) (b := 0) (by decide +kernel) (by decide +kernel) (by omega)) c_38)
        refine lv_iconst (pc := 48) (v := (-1)) E.1 E.2.1 dX12_house_48 (by decide +kernel) ?_
        exact em_i (w1 := (fun (u : Int32 × (Nat → Int32) × (Nat → Int32) × (Nat → Int32) × (Nat → Int32) × (Nat → Int32) × (Nat → Int32) × Int32 × Int32) => (MW cI cJ M mr (upd (upd (upd mi 0 u.1) 6 u.2.2.2.2.2.2.2.1) 3 u.2.2.2.2.2.2.2.2) (va_up (va_up (va_up (va_up (va_up (va_up mf 7 u.2.1) 8 u.2.2.1) 9 u.2.2.2.1) 10 u.2.2.2.2.1) 11 u.2.2.2.2.2.1) 1 u.2.2.2.2.2.2.1) mg))) E hr hlk (0, (mf 7), (mf 8), (mf 9), (mf 10), (mf 11), (mf 1), (mi 6), (mi 3)) hw32 ⟨h0, (by show (mi 6).toInt ≤ (mi 6).toInt; have k_0 : (0 : Int32).toInt = 0 := (by decide +kernel); have k_1 : ((-1) : Int32).toInt = -1 := (by decide +kernel); omega), (by show (mi 6).toInt ≤ (mi 6).toInt + 1; have k_0 : (0 : Int32).toInt = 0 := (by decide +kernel); have k_1 : ((-1) : Int32).toInt = -1 := (by decide +kernel); omega), h1, rfl, rfl, rfl, rfl, rfl, (show rowsOK (mi 3).toInt (mi 6).toInt (mf 2) from lf_rows), (show pplOK (mi 6).toInt (mf 8) from lf_people), (show RKN (mi 3).toInt (((mf 1) 0).toInt) (mf 2) from lf_kept), (show RKD (mi 3).toInt ((mf 1) 1) (mi 12).toInt (mf 2) from lf_keptD), (show HST (mi 6).toInt (mi 6).toInt (mf 7) (mf 7) z_place z_people.toInt z_oil.toInt from (Or.inr ⟨fun h => by obtain ⟨⟨h1, h2⟩, ⟨h3, h4⟩, h5, h6, h7, -⟩ := h; omega, rfl, rfl⟩)), (show (((mi 6).toInt = (mi 6).toInt + 1 ∧ (mi 3).toInt = 0) ∨ ((mi 6).toInt = (mi 6).toInt ∧ (mi 3).toInt = (mi 3).toInt)) from (Or.inr ⟨rfl, rfl⟩))⟩ (Nat.le_of_ble_eq_true rfl) (Nat.le_of_ble_eq_true rfl) dX12_house_49
      · skip
        have ha_35 : (999 : Int32).toInt < z_oil.toInt := ha_35
        rw [show (999 : Int32).toInt = 999 from by decide +kernel] at ha_35
        refine lv_if_eq (pc := 36) (tgt := 48) E.1 E.2.1 dX12_house_36 (by decide) (fun _ => ?_) (fun c_39 => absurd (meqE (a := 0) (b := 0) (by decide +kernel) (by decide +kernel) (by omega)) c_39)
        refine lv_iconst (pc := 48) (v := (-1)) E.1 E.2.1 dX12_house_48 (by decide +kernel) ?_
        exact em_i (w1 := (fun (u : Int32 × (Nat → Int32) × (Nat → Int32) × (Nat → Int32) × (Nat → Int32) × (Nat → Int32) × (Nat → Int32) × Int32 × Int32) => (MW cI cJ M mr (upd (upd (upd mi 0 u.1) 6 u.2.2.2.2.2.2.2.1) 3 u.2.2.2.2.2.2.2.2) (va_up (va_up (va_up (va_up (va_up (va_up mf 7 u.2.1) 8 u.2.2.1) 9 u.2.2.2.1) 10 u.2.2.2.2.1) 11 u.2.2.2.2.2.1) 1 u.2.2.2.2.2.2.1) mg))) E hr hlk (0, (mf 7), (mf 8), (mf 9), (mf 10), (mf 11), (mf 1), (mi 6), (mi 3)) hw32 ⟨h0, (by show (mi 6).toInt ≤ (mi 6).toInt; have k_0 : (0 : Int32).toInt = 0 := (by decide +kernel); have k_1 : ((-1) : Int32).toInt = -1 := (by decide +kernel); omega), (by show (mi 6).toInt ≤ (mi 6).toInt + 1; have k_0 : (0 : Int32).toInt = 0 := (by decide +kernel); have k_1 : ((-1) : Int32).toInt = -1 := (by decide +kernel); omega), h1, rfl, rfl, rfl, rfl, rfl, (show rowsOK (mi 3).toInt (mi 6).toInt (mf 2) from lf_rows), (show pplOK (mi 6).toInt (mf 8) from lf_people), (show RKN (mi 3).toInt (((mf 1) 0).toInt) (mf 2) from lf_kept), (show RKD (mi 3).toInt ((mf 1) 1) (mi 12).toInt (mf 2) from lf_keptD), (show HST (mi 6).toInt (mi 6).toInt (mf 7) (mf 7) z_place z_people.toInt z_oil.toInt from (Or.inr ⟨fun h => by obtain ⟨⟨h1, h2⟩, ⟨h3, h4⟩, h5, h6, h7, -⟩ := h; omega, rfl, rfl⟩)), (show (((mi 6).toInt = (mi 6).toInt + 1 ∧ (mi 3).toInt = 0) ∨ ((mi 6).toInt = (mi 6).toInt ∧ (mi 3).toInt = (mi 3).toInt)) from (Or.inr ⟨rfl, rfl⟩))⟩ (Nat.le_of_ble_eq_true rfl) (Nat.le_of_ble_eq_true rfl) dX12_house_49
      · skip
        have ha_36 : (0 : Int32).toInt ≤ z_oil.toInt := ha_36
        rw [show (0 : Int32).toInt = 0 from by decide +kernel] at ha_36
        have ha_37 : z_oil.toInt ≤ (999 : Int32).toInt := ha_37
        rw [show (999 : Int32).toInt = 999 from by decide +kernel] at ha_37
        refine lv_if_eq (pc := 36) (tgt := 48) E.1 E.2.1 dX12_house_36 (by decide) (fun c_40 => absurd c_40 (mneE (a := 1) (b := 0) (by decide +kernel) (by decide +kernel) (by omega))) (fun _ => ?_)
        refine lv_aload_n (pc := 39) E.1 E.2.1 dX12_house_39 rfl (lv_at hl3 0 rfl) ?_
        refine x_get (pc := 40) (T := TX12) (N := 70) (ci := 12) (v := .int (mi 6)) E hw32 inX12 0 6 q_1405 rfl rfl (by decide) rfl rfl dX12_house_40 ?_
        refine lv_bipush (pc := 43) (v := 10) E.1 E.2.1 dX12_house_43 (by decide +kernel) ?_
        refine lv_icmp_ne (pc := 45) (tgt := 50) E.1 E.2.1 dX12_house_45 (by decide) (fun c_41 => ?_) (fun c_41 => ?_)
        · skip
          have hc_41 := neE (a := (mi 6).toInt) (b := 10) rfl (by decide +kernel) c_41
          refine lv_iconst (pc := 50) (v := 0) E.1 E.2.1 dX12_house_50 (by decide +kernel) ?_
          refine lv_istore (pc := 51) (lv' := [(4, .int 0), (0, .ref M), (1, .int z_place), (2, .int z_people), (3, .int z_oil)]) E.1 E.2.1 dX12_house_51 hl3 (by decide) rfl (fun ls hl42 => ?_)
          have loop_43 : ∀ (k : Nat) (x_44 : Int32) (H : Heap) (locs : List Loc) (ls : Array Slot), (0 ≤ x_44.toInt) ∧ (x_44.toInt ≤ (mi 6).toInt) ∧ (∀ j : Nat, (j : Int) < x_44.toInt → ((mf 7) j).toInt ≠ z_place.toInt) → (mi 6).toInt - x_44.toInt < (k : Int) → WD D A s.heap (MW cI cJ M mr (upd mi 0 0) mf mg) H locs → lv_has ls 5 [(4, .int x_44), (0, .ref M), (1, .int z_place), (2, .int z_people), (3, .int z_oil)] → W p l e ({ frames := 2, cells := 0, slots := 0, locals := 63 } : Room) s m ([.ref M, .int z_place, .int z_people, .int z_oil] : List Value).toArray below meth c H locs 0 0 (MQ below (va_Qi (fun (r : Int32) (u : Int32 × (Nat → Int32) × (Nat → Int32) × (Nat → Int32) × (Nat → Int32) × (Nat → Int32) × (Nat → Int32) × Int32 × Int32) => (0 ≤ u.2.2.2.2.2.2.2.1.toInt ∧ u.2.2.2.2.2.2.2.1.toInt ≤ 10) ∧ ((mi 6).toInt ≤ u.2.2.2.2.2.2.2.1.toInt) ∧ (u.2.2.2.2.2.2.2.1.toInt ≤ (mi 6).toInt + 1) ∧ (0 ≤ u.2.2.2.2.2.2.2.2.toInt ∧ u.2.2.2.2.2.2.2.2.toInt ≤ 6) ∧ ((u.2.2.2.2.2.2.1 2).toInt = ((mf 1) 2).toInt) ∧ ((u.2.2.2.2.2.2.1 3).toInt = ((mf 1) 3).toInt) ∧ ((u.2.2.2.2.2.2.1 5).toInt = ((mf 1) 5).toInt) ∧ ((u.2.2.2.2.2.2.1 0).toInt = ((mf 1) 0).toInt) ∧ ((u.2.2.2.2.2.2.1 1).toInt = ((mf 1) 1).toInt) ∧ (rowsOK u.2.2.2.2.2.2.2.2.toInt u.2.2.2.2.2.2.2.1.toInt (mf 2)) ∧ (pplOK u.2.2.2.2.2.2.2.1.toInt u.2.2.1) ∧ (RKN u.2.2.2.2.2.2.2.2.toInt ((u.2.2.2.2.2.2.1 0).toInt) (mf 2)) ∧ (RKD u.2.2.2.2.2.2.2.2.toInt (u.2.2.2.2.2.2.1 1) (mi 12).toInt (mf 2)) ∧ (HST (mi 6).toInt u.2.2.2.2.2.2.2.1.toInt (mf 7) u.2.1 z_place z_people.toInt z_oil.toInt) ∧ (((u.2.2.2.2.2.2.2.1.toInt = (mi 6).toInt + 1 ∧ u.2.2.2.2.2.2.2.2.toInt = 0) ∨ (u.2.2.2.2.2.2.2.1.toInt = (mi 6).toInt ∧ u.2.2.2.2.2.2.2.2.toInt = (mi 3).toInt)))) (fun u => QW D cI cJ A ((fun (u : Int32 × (Nat → Int32) × (Nat → Int32) × (Nat → Int32) × (Nat → Int32) × (Nat → Int32) × (Nat → Int32) × Int32 × Int32) => (MW cI cJ M mr (upd (upd (upd mi 0 u.1) 6 u.2.2.2.2.2.2.2.1) 3 u.2.2.2.2.2.2.2.2) (va_up (va_up (va_up (va_up (va_up (va_up mf 7 u.2.1) 8 u.2.2.1) 9 u.2.2.2.1) 10 u.2.2.2.2.1) 11 u.2.2.2.2.2.1) 1 u.2.2.2.2.2.2.1) mg)) u)) A) ([.ref M, .int z_place, .int z_people, .int z_oil] : List Value).toArray s 0 0 A) (F0 m 53 ls []) := by
            intro k
            induction k with
            | zero =>
              intro x_44 _ _ _ hinv hm
              obtain ⟨hi_44_0, hi_44_1, hi_44_2⟩ := hinv
              exact absurd hm (by omega)
            | succ k ih_45 =>
              intro x_44 H locs ls hinv hm hw46 hl47
              obtain ⟨hi_44_0, hi_44_1, hi_44_2⟩ := hinv
              refine lv_iload (pc := 53) E.1 E.2.1 dX12_house_53 (lv_at hl47 0 rfl) ?_
              refine lv_aload_n (pc := 55) E.1 E.2.1 dX12_house_55 rfl (lv_at hl47 1 rfl) ?_
              refine x_get (pc := 56) (T := TX12) (N := 70) (ci := 12) (v := .int (mi 6)) E hw46 inX12 0 6 q_1405 rfl rfl (by decide) rfl rfl dX12_house_56 ?_
              refine lv_icmp_ge (pc := 59) (tgt := 81) E.1 E.2.1 dX12_house_59 (by decide) (fun c_48 => ?_) (fun c_48 => ?_)
              · skip
                have hc_48 := leE (a := (mi 6).toInt) (b := x_44.toInt) rfl rfl c_48
                refine lv_aload_n (pc := 81) E.1 E.2.1 dX12_house_81 rfl (lv_at hl47 1 rfl) ?_
                refine x_get (pc := 82) (T := TX12) (N := 70) (ci := 12) (v := .int (mi 6)) E hw46 inX12 0 6 q_1405 rfl rfl (by decide) rfl rfl dX12_house_82 ?_
                refine lv_istore (pc := 85) (lv' := [(4, .int (mi 6)), (0, .ref M), (1, .int z_place), (2, .int z_people), (3, .int z_oil)]) E.1 E.2.1 dX12_house_85 hl47 (by decide) rfl (fun ls hl49 => ?_)
                refine lv_aload_n (pc := 87) E.1 E.2.1 dX12_house_87 rfl (lv_at hl49 1 rfl) ?_
                refine x_get (pc := 88) (T := TX12) (N := 70) (ci := 12) (v := .ref (mr 7)) E hw46 inX12 0 7 q_1406 rfl rfl (by decide) rfl rfl dX12_house_88 ?_
                refine lv_iload (pc := 91) E.1 E.2.1 dX12_house_91 (lv_at hl49 0 rfl) ?_
                refine lv_iload_n (pc := 93) E.1 E.2.1 dX12_house_93 rfl (lv_at hl49 2 rfl) ?_
                refine x_iastG (pc := 94) (f := (mf 7)) (wf := fun g => (MW cI cJ M mr (upd mi 0 0) (va_up mf 7 g) mg)) E hw46 4 rfl (inbE (a := (mi 6).toInt) rfl (by omega)) (fun _ => rfl) dX12_house_94 (fun g_50 H locs eg_50 hw51 => ?_)
                refine lv_aload_n (pc := 95) E.1 E.2.1 dX12_house_95 rfl (lv_at hl49 1 rfl) ?_
                refine x_get (pc := 96) (T := TX12) (N := 70) (ci := 12) (v := .ref (mr 8)) E hw51 inX12 0 8 q_1407 rfl rfl (by decide) rfl rfl dX12_house_96 ?_
                refine lv_iload (pc := 99) E.1 E.2.1 dX12_house_99 (lv_at hl49 0 rfl) ?_
                refine lv_iload_n (pc := 101) E.1 E.2.1 dX12_house_101 rfl (lv_at hl49 3 rfl) ?_
                refine x_iastG (pc := 102) (f := (mf 8)) (wf := fun g => (MW cI cJ M mr (upd mi 0 0) (va_up (va_up mf 7 g_50) 8 g) mg)) E hw51 5 rfl (inbE (a := (mi 6).toInt) rfl (by omega)) (fun _ => rfl) dX12_house_102 (fun g_52 H locs eg_52 hw53 => ?_)
                refine lv_aload_n (pc := 103) E.1 E.2.1 dX12_house_103 rfl (lv_at hl49 1 rfl) ?_
                refine x_get (pc := 104) (T := TX12) (N := 70) (ci := 12) (v := .ref (mr 9)) E hw53 inX12 0 9 q_1408 rfl rfl (by decide) rfl rfl dX12_house_104 ?_
                refine lv_iload (pc := 107) E.1 E.2.1 dX12_house_107 (lv_at hl49 0 rfl) ?_
                refine lv_iconst (pc := 109) (v := 0) E.1 E.2.1 dX12_house_109 (by decide +kernel) ?_
                refine x_iastG (pc := 110) (f := (mf 9)) (wf := fun g => (MW cI cJ M mr (upd mi 0 0) (va_up (va_up (va_up mf 7 g_50) 8 g_52) 9 g) mg)) E hw53 6 rfl (inbE (a := (mi 6).toInt) rfl (by omega)) (fun _ => rfl) dX12_house_110 (fun g_54 H locs eg_54 hw55 => ?_)
                refine lv_aload_n (pc := 111) E.1 E.2.1 dX12_house_111 rfl (lv_at hl49 1 rfl) ?_
                refine x_get (pc := 112) (T := TX12) (N := 70) (ci := 12) (v := .ref (mr 10)) E hw55 inX12 0 10 q_1409 rfl rfl (by decide) rfl rfl dX12_house_112 ?_
                refine lv_iload (pc := 115) E.1 E.2.1 dX12_house_115 (lv_at hl49 0 rfl) ?_
                refine lv_iconst (pc := 117) (v := 0) E.1 E.2.1 dX12_house_117 (by decide +kernel) ?_
                refine x_iastG (pc := 118) (f := (mf 10)) (wf := fun g => (MW cI cJ M mr (upd mi 0 0) (va_up (va_up (va_up (va_up mf 7 g_50) 8 g_52) 9 g_54) 10 g) mg)) E hw55 7 rfl (inbE (a := (mi 6).toInt) rfl (by omega)) (fun _ => rfl) dX12_house_118 (fun g_56 H locs eg_56 hw57 => ?_)
                refine lv_aload_n (pc := 119) E.1 E.2.1 dX12_house_119 rfl (lv_at hl49 1 rfl) ?_
                refine x_get (pc := 120) (T := TX12) (N := 70) (ci := 12) (v := .ref (mr 11)) E hw57 inX12 0 11 q_1410 rfl rfl (by decide) rfl rfl dX12_house_120 ?_
                refine lv_iload (pc := 123) E.1 E.2.1 dX12_house_123 (lv_at hl49 0 rfl) ?_
                refine lv_iconst (pc := 125) (v := 0) E.1 E.2.1 dX12_house_125 (by decide +kernel) ?_
                refine x_iastG (pc := 126) (f := (mf 11)) (wf := fun g => (MW cI cJ M mr (upd mi 0 0) (va_up (va_up (va_up (va_up (va_up mf 7 g_50) 8 g_52) 9 g_54) 10 g_56) 11 g) mg)) E hw57 8 rfl (inbE (a := (mi 6).toInt) rfl (by omega)) (fun _ => rfl) dX12_house_126 (fun g_58 H locs eg_58 hw59 => ?_)
                refine lv_aload_n (pc := 127) E.1 E.2.1 dX12_house_127 rfl (lv_at hl49 1 rfl) ?_
                refine x_get (pc := 128) (T := TX12) (N := 70) (ci := 12) (v := .ref (mr 1)) E hw59 inX12 0 1 q_1400 rfl rfl (by decide) rfl rfl dX12_house_128 ?_
                refine lv_bipush (pc := 131) (v := 6) E.1 E.2.1 dX12_house_131 (by decide +kernel) ?_
                refine lv_iload (pc := 133) E.1 E.2.1 dX12_house_133 (lv_at hl49 0 rfl) ?_
                refine lv_iadd (pc := 135) E.1 E.2.1 dX12_house_135 ?_
                refine lv_topi (fun v_60 ev_60 => ?_)
                have hv_60 : v_60.toInt = 6 + (mi 6).toInt := by rw [ev_60]; exact addE (by decide +kernel) rfl (by omega)
                refine lv_iload_n (pc := 136) E.1 E.2.1 dX12_house_136 rfl (lv_at hl49 4 rfl) ?_
                refine x_iastG (pc := 137) (f := (mf 1)) (wf := fun g => (MW cI cJ M mr (upd mi 0 0) (va_up (va_up (va_up (va_up (va_up (va_up mf 1 g) 7 g_50) 8 g_52) 9 g_54) 10 g_56) 11 g_58) mg)) E hw59 1 rfl (inbE (a := v_60.toInt) rfl (by omega)) (fun _ => rfl) dX12_house_137 (fun g_61 H locs eg_61 hw62 => ?_)
                have ht_63 : (g_61 0).toInt = ((mf 1) 0).toInt := by rw [eg_61, pk_un (by have q9 := idxI (x := v_60) (by omega); omega)]
                have ht_64 : (g_61 1).toInt = ((mf 1) 1).toInt := by rw [eg_61, pk_un (by have q9 := idxI (x := v_60) (by omega); omega)]
                have ht_65 : (g_61 2).toInt = ((mf 1) 2).toInt := by rw [eg_61, pk_un (by have q9 := idxI (x := v_60) (by omega); omega)]
                have ht_66 : (g_61 3).toInt = ((mf 1) 3).toInt := by rw [eg_61, pk_un (by have q9 := idxI (x := v_60) (by omega); omega)]
                have ht_67 : (g_61 5).toInt = ((mf 1) 5).toInt := by rw [eg_61, pk_un (by have q9 := idxI (x := v_60) (by omega); omega)]
                refine lv_aload_n (pc := 138) E.1 E.2.1 dX12_house_138 rfl (lv_at hl49 1 rfl) ?_
                refine x_get (pc := 139) (T := TX12) (N := 70) (ci := 12) (v := .ref (mr 1)) E hw62 inX12 0 1 q_1400 rfl rfl (by decide) rfl rfl dX12_house_139 ?_
                refine lv_bipush (pc := 142) (v := 16) E.1 E.2.1 dX12_house_142 (by decide +kernel) ?_
                refine lv_iload (pc := 144) E.1 E.2.1 dX12_house_144 (lv_at hl49 0 rfl) ?_
                refine lv_iadd (pc := 146) E.1 E.2.1 dX12_house_146 ?_
                refine lv_topi (fun v_68 ev_68 => ?_)
                have hv_68 : v_68.toInt = 16 + (mi 6).toInt := by rw [ev_68]; exact addE (by decide +kernel) rfl (by omega)
                refine lv_iconst (pc := 147) (v := 0) E.1 E.2.1 dX12_house_147 (by decide +kernel) ?_
                refine x_iastG (pc := 148) (f := g_61) (wf := fun g => (MW cI cJ M mr (upd mi 0 0) (va_up (va_up (va_up (va_up (va_up (va_up mf 1 g) 7 g_50) 8 g_52) 9 g_54) 10 g_56) 11 g_58) mg)) E hw62 1 rfl (inbE (a := v_68.toInt) rfl (by omega)) (fun _ => rfl) dX12_house_148 (fun g_69 H locs eg_69 hw70 => ?_)
                have ht_71 : (g_69 0).toInt = (g_61 0).toInt := by rw [eg_69, pk_un (by have q9 := idxI (x := v_68) (by omega); omega)]
                have ht_72 : (g_69 1).toInt = (g_61 1).toInt := by rw [eg_69, pk_un (by have q9 := idxI (x := v_68) (by omega); omega)]
                have ht_73 : (g_69 2).toInt = (g_61 2).toInt := by rw [eg_69, pk_un (by have q9 := idxI (x := v_68) (by omega); omega)]
                have ht_74 : (g_69 3).toInt = (g_61 3).toInt := by rw [eg_69, pk_un (by have q9 := idxI (x := v_68) (by omega); omega)]
                have ht_75 : (g_69 5).toInt = (g_61 5).toInt := by rw [eg_69, pk_un (by have q9 := idxI (x := v_68) (by omega); omega)]
                refine lv_aload_n (pc := 149) E.1 E.2.1 dX12_house_149 rfl (lv_at hl49 1 rfl) ?_
                refine x_get (pc := 150) (T := TX12) (N := 70) (ci := 12) (v := .ref (mr 1)) E hw70 inX12 0 1 q_1400 rfl rfl (by decide) rfl rfl dX12_house_150 ?_
                refine lv_bipush (pc := 153) (v := 26) E.1 E.2.1 dX12_house_153 (by decide +kernel) ?_
                refine lv_iload (pc := 155) E.1 E.2.1 dX12_house_155 (lv_at hl49 0 rfl) ?_
                refine lv_iadd (pc := 157) E.1 E.2.1 dX12_house_157 ?_
                refine lv_topi (fun v_76 ev_76 => ?_)
                have hv_76 : v_76.toInt = 26 + (mi 6).toInt := by rw [ev_76]; exact addE (by decide +kernel) rfl (by omega)
                refine lv_iconst (pc := 158) (v := 0) E.1 E.2.1 dX12_house_158 (by decide +kernel) ?_
                refine x_iastG (pc := 159) (f := g_69) (wf := fun g => (MW cI cJ M mr (upd mi 0 0) (va_up (va_up (va_up (va_up (va_up (va_up mf 1 g) 7 g_50) 8 g_52) 9 g_54) 10 g_56) 11 g_58) mg)) E hw70 1 rfl (inbE (a := v_76.toInt) rfl (by omega)) (fun _ => rfl) dX12_house_159 (fun g_77 H locs eg_77 hw78 => ?_)
                have ht_79 : (g_77 0).toInt = (g_69 0).toInt := by rw [eg_77, pk_un (by have q9 := idxI (x := v_76) (by omega); omega)]
                have ht_80 : (g_77 1).toInt = (g_69 1).toInt := by rw [eg_77, pk_un (by have q9 := idxI (x := v_76) (by omega); omega)]
                have ht_81 : (g_77 2).toInt = (g_69 2).toInt := by rw [eg_77, pk_un (by have q9 := idxI (x := v_76) (by omega); omega)]
                have ht_82 : (g_77 3).toInt = (g_69 3).toInt := by rw [eg_77, pk_un (by have q9 := idxI (x := v_76) (by omega); omega)]
                have ht_83 : (g_77 5).toInt = (g_69 5).toInt := by rw [eg_77, pk_un (by have q9 := idxI (x := v_76) (by omega); omega)]
                refine lv_aload_n (pc := 160) E.1 E.2.1 dX12_house_160 rfl (lv_at hl49 1 rfl) ?_
                refine x_get (pc := 161) (T := TX12) (N := 70) (ci := 12) (v := .ref (mr 1)) E hw78 inX12 0 1 q_1400 rfl rfl (by decide) rfl rfl dX12_house_161 ?_
                refine lv_bipush (pc := 164) (v := 36) E.1 E.2.1 dX12_house_164 (by decide +kernel) ?_
                refine lv_iload (pc := 166) E.1 E.2.1 dX12_house_166 (lv_at hl49 0 rfl) ?_
                refine lv_iadd (pc := 168) E.1 E.2.1 dX12_house_168 ?_
                refine lv_topi (fun v_84 ev_84 => ?_)
                have hv_84 : v_84.toInt = 36 + (mi 6).toInt := by rw [ev_84]; exact addE (by decide +kernel) rfl (by omega)
                refine lv_iconst (pc := 169) (v := 0) E.1 E.2.1 dX12_house_169 (by decide +kernel) ?_
                refine x_iastG (pc := 170) (f := g_77) (wf := fun g => (MW cI cJ M mr (upd mi 0 0) (va_up (va_up (va_up (va_up (va_up (va_up mf 1 g) 7 g_50) 8 g_52) 9 g_54) 10 g_56) 11 g_58) mg)) E hw78 1 rfl (inbE (a := v_84.toInt) rfl (by omega)) (fun _ => rfl) dX12_house_170 (fun g_85 H locs eg_85 hw86 => ?_)
                have ht_87 : (g_85 0).toInt = (g_77 0).toInt := by rw [eg_85, pk_un (by have q9 := idxI (x := v_84) (by omega); omega)]
                have ht_88 : (g_85 1).toInt = (g_77 1).toInt := by rw [eg_85, pk_un (by have q9 := idxI (x := v_84) (by omega); omega)]
                have ht_89 : (g_85 2).toInt = (g_77 2).toInt := by rw [eg_85, pk_un (by have q9 := idxI (x := v_84) (by omega); omega)]
                have ht_90 : (g_85 3).toInt = (g_77 3).toInt := by rw [eg_85, pk_un (by have q9 := idxI (x := v_84) (by omega); omega)]
                have ht_91 : (g_85 5).toInt = (g_77 5).toInt := by rw [eg_85, pk_un (by have q9 := idxI (x := v_84) (by omega); omega)]
                refine lv_aload_n (pc := 171) E.1 E.2.1 dX12_house_171 rfl (lv_at hl49 1 rfl) ?_
                refine lv_aload_n (pc := 172) E.1 E.2.1 dX12_house_172 rfl (lv_at hl49 1 rfl) ?_
                refine x_get (pc := 173) (T := TX12) (N := 70) (ci := 12) (v := .int (mi 6)) E hw86 inX12 0 6 q_1405 rfl rfl (by decide) rfl rfl dX12_house_173 ?_
                refine lv_iconst (pc := 176) (v := 1) E.1 E.2.1 dX12_house_176 (by decide +kernel) ?_
                refine lv_iadd (pc := 177) E.1 E.2.1 dX12_house_177 ?_
                refine lv_topi (fun v_92 ev_92 => ?_)
                have hv_92 : v_92.toInt = (mi 6).toInt + 1 := by rw [ev_92]; exact addE rfl (by decide +kernel) (by omega)
                refine x_put (pc := 178) (T := TX12) (N := 70) (ci := 12) (ws' := (MW cI cJ M mr (upd (upd mi 0 0) 6 v_92) (va_up (va_up (va_up (va_up (va_up (va_up mf 1 g_85) 7 g_50) 8 g_52) 9 g_54) 10 g_56) 11 g_58) mg)) E hw86 inX12 tyX12_ok nmX12 0 6 q_1405 rfl rfl (by decide) rfl rfl rfl rfl (Nat.le_of_ble_eq_true rfl) rfl dX12_house_178 (fun H locs hw93 => ?_)
                refine lv_aload_n (pc := 181) E.1 E.2.1 dX12_house_181 rfl (lv_at hl49 1 rfl) ?_
                refine lv_iconst (pc := 182) (v := 0) E.1 E.2.1 dX12_house_182 (by decide +kernel) ?_
                refine x_put (pc := 183) (T := TX12) (N := 70) (ci := 12) (ws' := (MW cI cJ M mr (upd (upd (upd mi 0 0) 3 0) 6 v_92) (va_up (va_up (va_up (va_up (va_up (va_up mf 1 g_85) 7 g_50) 8 g_52) 9 g_54) 10 g_56) 11 g_58) mg)) E hw93 inX12 tyX12_ok nmX12 0 3 q_1402 rfl rfl (by decide) rfl rfl rfl rfl (Nat.le_of_ble_eq_true rfl) rfl dX12_house_183 (fun H locs hw94 => ?_)
                refine lv_iload (pc := 186) E.1 E.2.1 dX12_house_186 (lv_at hl49 0 rfl) ?_
                exact em_i (w1 := (fun (u : Int32 × (Nat → Int32) × (Nat → Int32) × (Nat → Int32) × (Nat → Int32) × (Nat → Int32) × (Nat → Int32) × Int32 × Int32) => (MW cI cJ M mr (upd (upd (upd mi 0 u.1) 6 u.2.2.2.2.2.2.2.1) 3 u.2.2.2.2.2.2.2.2) (va_up (va_up (va_up (va_up (va_up (va_up mf 7 u.2.1) 8 u.2.2.1) 9 u.2.2.2.1) 10 u.2.2.2.2.1) 11 u.2.2.2.2.2.1) 1 u.2.2.2.2.2.2.1) mg))) E hr hlk (0, g_50, g_52, g_54, g_56, g_58, g_85, v_92, 0) hw94 ⟨(by show 0 ≤ v_92.toInt ∧ v_92.toInt ≤ 10; have k_0 : (0 : Int32).toInt = 0 := (by decide +kernel); have k_1 : (0 : Int32).toInt = 0 := (by decide +kernel); omega), (by show (mi 6).toInt ≤ v_92.toInt; have k_0 : (0 : Int32).toInt = 0 := (by decide +kernel); have k_1 : (0 : Int32).toInt = 0 := (by decide +kernel); omega), (by show v_92.toInt ≤ (mi 6).toInt + 1; have k_0 : (0 : Int32).toInt = 0 := (by decide +kernel); have k_1 : (0 : Int32).toInt = 0 := (by decide +kernel); omega), (by show 0 ≤ (0 : Int32).toInt ∧ (0 : Int32).toInt ≤ 6; have k_0 : (0 : Int32).toInt = 0 := (by decide +kernel); have k_1 : (0 : Int32).toInt = 0 := (by decide +kernel); omega), (by show (g_85 2).toInt = ((mf 1) 2).toInt; have k_0 : (0 : Int32).toInt = 0 := (by decide +kernel); have k_1 : (0 : Int32).toInt = 0 := (by decide +kernel); omega), (by show (g_85 3).toInt = ((mf 1) 3).toInt; have k_0 : (0 : Int32).toInt = 0 := (by decide +kernel); have k_1 : (0 : Int32).toInt = 0 := (by decide +kernel); omega), (by show (g_85 5).toInt = ((mf 1) 5).toInt; have k_0 : (0 : Int32).toInt = 0 := (by decide +kernel); have k_1 : (0 : Int32).toInt = 0 := (by decide +kernel); omega), (by show (g_85 0).toInt = ((mf 1) 0).toInt; have k_0 : (0 : Int32).toInt = 0 := (by decide +kernel); have k_1 : (0 : Int32).toInt = 0 := (by decide +kernel); omega), (by show (g_85 1).toInt = ((mf 1) 1).toInt; have k_0 : (0 : Int32).toInt = 0 := (by decide +kernel); have k_1 : (0 : Int32).toInt = 0 := (by decide +kernel); omega), (show rowsOK (0 : Int32).toInt v_92.toInt (mf 2) from (rowsOK_nil (by decide +kernel))), (show pplOK v_92.toInt g_52 from (pplOK_add lf_people eg_52 (by omega) (by omega) (by omega) (by omega))), (show RKN (0 : Int32).toInt ((g_85 0).toInt) (mf 2) from (RKN_nil (by first | omega | decide +kernel))), (show RKD (0 : Int32).toInt (g_85 1) (mi 12).toInt (mf 2) from (RKD_nil (by first | omega | decide +kernel))), (show HST (mi 6).toInt v_92.toInt (mf 7) g_50 z_place z_people.toInt z_oil.toInt from (Or.inl ⟨⟨⟨by omega, by omega⟩, ⟨by omega, by omega⟩, by omega, by omega, by omega, fun j hj => hi_44_2 j (by omega)⟩, by omega, hst_w eg_50 (by omega) rfl⟩)), (show ((v_92.toInt = (mi 6).toInt + 1 ∧ (0 : Int32).toInt = 0) ∨ (v_92.toInt = (mi 6).toInt ∧ (0 : Int32).toInt = (mi 3).toInt)) from (Or.inl ⟨by omega, by decide +kernel⟩))⟩ (Nat.le_of_ble_eq_true rfl) (Nat.le_of_ble_eq_true rfl) dX12_house_188
              · skip
                have hc_48 := nleE (a := (mi 6).toInt) (b := x_44.toInt) rfl rfl c_48
                refine lv_aload_n (pc := 62) E.1 E.2.1 dX12_house_62 rfl (lv_at hl47 1 rfl) ?_
                refine x_get (pc := 63) (T := TX12) (N := 70) (ci := 12) (v := .ref (mr 7)) E hw46 inX12 0 7 q_1406 rfl rfl (by decide) rfl rfl dX12_house_63 ?_
                refine lv_iload (pc := 66) E.1 E.2.1 dX12_house_66 (lv_at hl47 0 rfl) ?_
                refine x_iald (pc := 68) (f := (mf 7)) E hw46 4 rfl (inbE (a := x_44.toInt) rfl (by omega)) dX12_house_68 ?_
                refine lv_topi (fun v_95 ev_95 => ?_)
                refine lv_iload_n (pc := 69) E.1 E.2.1 dX12_house_69 rfl (lv_at hl47 2 rfl) ?_
                refine lv_icmp_ne (pc := 70) (tgt := 75) E.1 E.2.1 dX12_house_70 (by decide) (fun c_96 => ?_) (fun c_96 => ?_)
                · skip
                  have hc_96 := neE (a := v_95.toInt) (b := z_place.toInt) rfl rfl c_96
                  obtain ⟨v_97, ev_97⟩ : ∃ z : Int32, x_44 + Int32.ofInt (1) = z := ⟨_, rfl⟩
                  have hv_97 : v_97.toInt = x_44.toInt + (1) := by rw [← ev_97]; exact incE rfl (by decide) (by omega)
                  refine lv_iinc (pc := 75) (v := v_97) (lv' := [(4, .int v_97), (0, .ref M), (1, .int z_place), (2, .int z_people), (3, .int z_oil)]) E.1 E.2.1 dX12_house_75 hl47 (k := 0) rfl ev_97 (by decide) rfl (fun ls hl98 => ?_)
                  refine lv_goto (pc := 78) (tgt := 53) E.1 E.2.1 dX12_house_78 (by decide) ?_
                  exact ih_45 v_97 _ _ _ ⟨(by show 0 ≤ v_97.toInt; omega), (by show v_97.toInt ≤ (mi 6).toInt; omega), (free_step hi_44_2 ev_95 (by omega) rfl (by omega) (m := v_97.toInt) (by omega))⟩ (by omega) hw46 (lv_sub hl98 [0, 1, 2, 3, 4] rfl)
                · skip
                  have hc_96 := eqE (a := v_95.toInt) (b := z_place.toInt) rfl rfl c_96
                  refine lv_iconst (pc := 73) (v := (-1)) E.1 E.2.1 dX12_house_73 (by decide +kernel) ?_
                  exact em_i (w1 := (fun (u : Int32 × (Nat → Int32) × (Nat → Int32) × (Nat → Int32) × (Nat → Int32) × (Nat → Int32) × (Nat → Int32) × Int32 × Int32) => (MW cI cJ M mr (upd (upd (upd mi 0 u.1) 6 u.2.2.2.2.2.2.2.1) 3 u.2.2.2.2.2.2.2.2) (va_up (va_up (va_up (va_up (va_up (va_up mf 7 u.2.1) 8 u.2.2.1) 9 u.2.2.2.1) 10 u.2.2.2.2.1) 11 u.2.2.2.2.2.1) 1 u.2.2.2.2.2.2.1) mg))) E hr hlk (0, (mf 7), (mf 8), (mf 9), (mf 10), (mf 11), (mf 1), (mi 6), (mi 3)) hw46 ⟨h0, (by show (mi 6).toInt ≤ (mi 6).toInt; have k_0 : (0 : Int32).toInt = 0 := (by decide +kernel); have k_1 : ((-1) : Int32).toInt = -1 := (by decide +kernel); omega), (by show (mi 6).toInt ≤ (mi 6).toInt + 1; have k_0 : (0 : Int32).toInt = 0 := (by decide +kernel); have k_1 : ((-1) : Int32).toInt = -1 := (by decide +kernel); omega), h1, rfl, rfl, rfl, rfl, rfl, (show rowsOK (mi 3).toInt (mi 6).toInt (mf 2) from lf_rows), (show pplOK (mi 6).toInt (mf 8) from lf_people), (show RKN (mi 3).toInt (((mf 1) 0).toInt) (mf 2) from lf_kept), (show RKD (mi 3).toInt ((mf 1) 1) (mi 12).toInt (mf 2) from lf_keptD), (show HST (mi 6).toInt (mi 6).toInt (mf 7) (mf 7) z_place z_people.toInt z_oil.toInt from (Or.inr ⟨fun h => (free_hit h.2.2.2 ev_95 (by omega) (by omega) (by omega)).elim, rfl, rfl⟩)), (show (((mi 6).toInt = (mi 6).toInt + 1 ∧ (mi 3).toInt = 0) ∨ ((mi 6).toInt = (mi 6).toInt ∧ (mi 3).toInt = (mi 3).toInt)) from (Or.inr ⟨rfl, rfl⟩))⟩ (Nat.le_of_ble_eq_true rfl) (Nat.le_of_ble_eq_true rfl) dX12_house_74
          exact loop_43 (Int.toNat ((mi 6).toInt - 0) + 1) 0 _ _ _ ⟨(by show 0 ≤ (0 : Int32).toInt; have k_0 : (0 : Int32).toInt = 0 := (by decide +kernel); omega), (by show (0 : Int32).toInt ≤ (mi 6).toInt; have k_0 : (0 : Int32).toInt = 0 := (by decide +kernel); omega), (fun j hj => absurd hj (by have k0 : (0 : Int32).toInt = 0 := (by decide +kernel); omega))⟩ (by have k_0 : (0 : Int32).toInt = 0 := (by decide +kernel); omega) hw32 (lv_sub hl42 [0, 1, 2, 3, 4] rfl)
        · skip
          have hc_41 := eqE (a := (mi 6).toInt) (b := 10) rfl (by decide +kernel) c_41
          refine lv_iconst (pc := 48) (v := (-1)) E.1 E.2.1 dX12_house_48 (by decide +kernel) ?_
          exact em_i (w1 := (fun (u : Int32 × (Nat → Int32) × (Nat → Int32) × (Nat → Int32) × (Nat → Int32) × (Nat → Int32) × (Nat → Int32) × Int32 × Int32) => (MW cI cJ M mr (upd (upd (upd mi 0 u.1) 6 u.2.2.2.2.2.2.2.1) 3 u.2.2.2.2.2.2.2.2) (va_up (va_up (va_up (va_up (va_up (va_up mf 7 u.2.1) 8 u.2.2.1) 9 u.2.2.2.1) 10 u.2.2.2.2.1) 11 u.2.2.2.2.2.1) 1 u.2.2.2.2.2.2.1) mg))) E hr hlk (0, (mf 7), (mf 8), (mf 9), (mf 10), (mf 11), (mf 1), (mi 6), (mi 3)) hw32 ⟨h0, (by show (mi 6).toInt ≤ (mi 6).toInt; have k_0 : (0 : Int32).toInt = 0 := (by decide +kernel); have k_1 : ((-1) : Int32).toInt = -1 := (by decide +kernel); omega), (by show (mi 6).toInt ≤ (mi 6).toInt + 1; have k_0 : (0 : Int32).toInt = 0 := (by decide +kernel); have k_1 : ((-1) : Int32).toInt = -1 := (by decide +kernel); omega), h1, rfl, rfl, rfl, rfl, rfl, (show rowsOK (mi 3).toInt (mi 6).toInt (mf 2) from lf_rows), (show pplOK (mi 6).toInt (mf 8) from lf_people), (show RKN (mi 3).toInt (((mf 1) 0).toInt) (mf 2) from lf_kept), (show RKD (mi 3).toInt ((mf 1) 1) (mi 12).toInt (mf 2) from lf_keptD), (show HST (mi 6).toInt (mi 6).toInt (mf 7) (mf 7) z_place z_people.toInt z_oil.toInt from (Or.inr ⟨fun h => by obtain ⟨⟨h1, h2⟩, ⟨h3, h4⟩, h5, h6, h7, -⟩ := h; omega, rfl, rfl⟩)), (show (((mi 6).toInt = (mi 6).toInt + 1 ∧ (mi 3).toInt = 0) ∨ ((mi 6).toInt = (mi 6).toInt ∧ (mi 3).toInt = (mi 3).toInt)) from (Or.inr ⟨rfl, rfl⟩))⟩ (Nat.le_of_ble_eq_true rfl) (Nat.le_of_ble_eq_true rfl) dX12_house_49
