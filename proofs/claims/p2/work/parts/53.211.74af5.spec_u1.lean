set_option maxHeartbeats 4000000 in
set_option maxRecDepth 100000 in
theorem s_setU (l : Launch) (D : va_G) (cI cJ : ClassId) (sz M : Nat) (mr : Nat → Nat) (mi : Nat → Int32) (mf : Nat → Nat → Int32) (mg : Nat → Nat → Int64) (z_what : Int32) (z_who : Int32) (z_v : Int32) (h0 : 0 ≤ (mi 6).toInt ∧ (mi 6).toInt ≤ 10) (h1 : 0 ≤ (mi 3).toInt ∧ (mi 3).toInt ≤ 6) (h2 : (-29) ≤ (mi 15).toInt ∧ (mi 15).toInt ≤ 69) (lf_rows : rowsOK (mi 3).toInt (mi 6).toInt (mf 2)) (lf_people : pplOK (mi 6).toInt (mf 8)) (lf_kept : RKN (mi 3).toInt (((mf 1) 0).toInt) (mf 2)) (lf_keptD : RKD (mi 3).toInt ((mf 1) 1) (mi 12).toInt (mf 2)) : Met l yX12_set (Cond.code yX12_set cX12_set 4 (some .boolean) :: GW) ({ frames := 3, cells := 0, slots := 0, locals := 86 } : Room) (va_Pc [.ref M, .int z_what, .int z_who, .int z_v] (PW D cI cJ sz (MW cI cJ M mr mi mf mg) xT)) (va_Qi (fun (r : Int32) (u : Int32 × (Nat → Int32) × Int32 × Int32 × Int32 × Int32 × (Nat → Int32) × (Nat → Int32) × (Nat → Int32) × Int32) => ((-29) ≤ u.2.2.2.2.2.1.toInt ∧ u.2.2.2.2.2.1.toInt ≤ 69) ∧ (0 ≤ u.2.2.2.2.2.2.2.2.2.toInt ∧ u.2.2.2.2.2.2.2.2.2.toInt ≤ 6) ∧ ((u.2.1 2).toInt = ((mf 1) 2).toInt) ∧ ((u.2.1 5).toInt = ((mf 1) 5).toInt) ∧ ((u.2.1 0).toInt = ((mf 1) 0).toInt) ∧ ((u.2.1 1).toInt = ((mf 1) 1).toInt) ∧ (rowsOK u.2.2.2.2.2.2.2.2.2.toInt (mi 6).toInt (mf 2)) ∧ (pplOK (mi 6).toInt u.2.2.2.2.2.2.1) ∧ (RKN u.2.2.2.2.2.2.2.2.2.toInt ((u.2.1 0).toInt) (mf 2)) ∧ (RKD u.2.2.2.2.2.2.2.2.2.toInt (u.2.1 1) u.2.2.1.toInt (mf 2)) ∧ ((((r : Int32) = 1 ∧ ((z_what.toInt = 1 ∧ u.2.2.1.toInt = z_v.toInt) ∨ (z_what.toInt ≠ 1 ∧ u.2.2.1.toInt = (mi 12).toInt))) ∨ ((r : Int32) = 0 ∧ u.2.2.1.toInt = (mi 12).toInt))) ∧ (((SETC (mi 6).toInt z_what.toInt z_who.toInt z_v.toInt ∧ (r : Int32) = 1 ∧ u.2.2.2.2.2.2.2.2.2.toInt = 0) ∨ (¬ SETC (mi 6).toInt z_what.toInt z_who.toInt z_v.toInt ∧ (r : Int32) = 0 ∧ u.2.2.2.2.2.2.2.2.2.toInt = (mi 3).toInt))) ∧ ((r = 0 ∧ (u.2.1 3).toInt = ((mf 1) 3).toInt) ∨ (r = 1 ∧ (u.2.1 3).toInt = ((mf 1) 3).toInt) ∨ (r = 1 ∧ 0 ≤ (u.2.1 3).toInt ∧ (u.2.1 3).toInt + 1 ≤ (mi 6).toInt))) (fun u => QW D cI cJ (va_A (MW cI cJ M mr mi mf mg) sz) ((fun (u : Int32 × (Nat → Int32) × Int32 × Int32 × Int32 × Int32 × (Nat → Int32) × (Nat → Int32) × (Nat → Int32) × Int32) => (MW cI cJ M mr (upd (upd (upd (upd (upd (upd mi 0 u.1) 12 u.2.2.1) 13 u.2.2.2.1) 14 u.2.2.2.2.1) 15 u.2.2.2.2.2.1) 3 u.2.2.2.2.2.2.2.2.2) (va_up (va_up (va_up (va_up mf 1 u.2.1) 8 u.2.2.2.2.2.2.1) 9 u.2.2.2.2.2.2.2.1) 10 u.2.2.2.2.2.2.2.2.1) mg)) u)) (va_A (MW cI cJ M mr mi mf mg) sz)) 0 0 (va_A (MW cI cJ M mr mi mf mg) sz) := by
  refine mk_met (y := yX12_set) (bytes := cX12_set) (maxL := 4) (avs := [.ref M, .int z_what, .int z_who, .int z_v]) (WS := (MW cI cJ M mr mi mf mg)) (Qf := fun A => va_Qi (fun (r : Int32) (u : Int32 × (Nat → Int32) × Int32 × Int32 × Int32 × Int32 × (Nat → Int32) × (Nat → Int32) × (Nat → Int32) × Int32) => ((-29) ≤ u.2.2.2.2.2.1.toInt ∧ u.2.2.2.2.2.1.toInt ≤ 69) ∧ (0 ≤ u.2.2.2.2.2.2.2.2.2.toInt ∧ u.2.2.2.2.2.2.2.2.2.toInt ≤ 6) ∧ ((u.2.1 2).toInt = ((mf 1) 2).toInt) ∧ ((u.2.1 5).toInt = ((mf 1) 5).toInt) ∧ ((u.2.1 0).toInt = ((mf 1) 0).toInt) ∧ ((u.2.1 1).toInt = ((mf 1) 1).toInt) ∧ (rowsOK u.2.2.2.2.2.2.2.2.2.toInt (mi 6).toInt (mf 2)) ∧ (pplOK (mi 6).toInt u.2.2.2.2.2.2.1) ∧ (RKN u.2.2.2.2.2.2.2.2.2.toInt ((u.2.1 0).toInt) (mf 2)) ∧ (RKD u.2.2.2.2.2.2.2.2.2.toInt (u.2.1 1) u.2.2.1.toInt (mf 2)) ∧ ((((r : Int32) = 1 ∧ ((z_what.toInt = 1 ∧ u.2.2.1.toInt = z_v.toInt) ∨ (z_what.toInt ≠ 1 ∧ u.2.2.1.toInt = (mi 12).toInt))) ∨ ((r : Int32) = 0 ∧ u.2.2.1.toInt = (mi 12).toInt))) ∧ (((SETC (mi 6).toInt z_what.toInt z_who.toInt z_v.toInt ∧ (r : Int32) = 1 ∧ u.2.2.2.2.2.2.2.2.2.toInt = 0) ∨ (¬ SETC (mi 6).toInt z_what.toInt z_who.toInt z_v.toInt ∧ (r : Int32) = 0 ∧ u.2.2.2.2.2.2.2.2.2.toInt = (mi 3).toInt))) ∧ ((r = 0 ∧ (u.2.1 3).toInt = ((mf 1) 3).toInt) ∨ (r = 1 ∧ (u.2.1 3).toInt = ((mf 1) 3).toInt) ∨ (r = 1 ∧ 0 ≤ (u.2.1 3).toInt ∧ (u.2.1 3).toInt + 1 ≤ (mi 6).toInt))) (fun u => QW D cI cJ A ((fun (u : Int32 × (Nat → Int32) × Int32 × Int32 × Int32 × Int32 × (Nat → Int32) × (Nat → Int32) × (Nat → Int32) × Int32) => (MW cI cJ M mr (upd (upd (upd (upd (upd (upd mi 0 u.1) 12 u.2.2.1) 13 u.2.2.2.1) 14 u.2.2.2.2.1) 15 u.2.2.2.2.2.1) 3 u.2.2.2.2.2.2.2.2.2) (va_up (va_up (va_up (va_up mf 1 u.2.1) 8 u.2.2.2.2.2.2.1) 9 u.2.2.2.2.2.2.2.1) 10 u.2.2.2.2.2.2.2.2.1) mg)) u)) A) (by decide) (Nat.le_of_ble_eq_true rfl) ?_
  intro p e s m below meth c A ls E hr hlk hnm hX hw1 hl2
  have hl3 : lv_has ls 4 [(0, .ref M), (1, .int z_what), (2, .int z_who), (3, .int z_v)] := hl2
  refine lv_aload_n (pc := 0) E.1 E.2.1 dX12_set_0 rfl (lv_at hl3 0 rfl) ?_
  refine lv_iconst (pc := 1) (v := 0) E.1 E.2.1 dX12_set_1 (by decide +kernel) ?_
  refine x_put (pc := 2) (T := TX12) (N := 70) (ci := 12) (ws' := (MW cI cJ M mr (upd mi 0 0) mf mg)) E hw1 inX12 tyX12_ok nmX12 0 0 q_1399 rfl rfl (by decide) rfl rfl rfl rfl (Nat.le_of_ble_eq_true rfl) rfl dX12_set_2 (fun H locs hw4 => ?_)
  refine lv_aload_n (pc := 5) E.1 E.2.1 dX12_set_5 rfl (lv_at hl3 0 rfl) ?_
  refine lv_iload_n (pc := 6) E.1 E.2.1 dX12_set_6 rfl (lv_at hl3 1 rfl) ?_
  refine lv_iload_n (pc := 7) E.1 E.2.1 dX12_set_7 rfl (lv_at hl3 2 rfl) ?_
  refine lv_iload_n (pc := 8) E.1 E.2.1 dX12_set_8 rfl (lv_at hl3 3 rfl) ?_
  refine cm_i (pc := 9) hw4 (rn_M (As := [.int z_what, .int z_who, .int z_v]) (rest := []) E hw4 (s_canSetU l D cI cJ _ M mr (upd mi 0 0) mf mg z_what z_who z_v h0) (gdV q_1630 q_1632 q_47 q_162 q_1633) hdV_X12_canSet ⟨rfl, rfl⟩ ⟨(Nat.le_of_ble_eq_true rfl), (Nat.le_of_ble_eq_true rfl)⟩ ⟨(Nat.le_of_ble_eq_true rfl), (Nat.le_of_ble_eq_true rfl)⟩ 12 rfl rfl rfl rfl hl3.1 rfl (Nat.le_of_ble_eq_true rfl) dX12_set_9) (fun r_6 u_5 H1 locs hp hw7 => ?_)
  generalize H1 = H at hw7 ⊢
  have hw8 : WD D A s.heap (MW cI cJ M mr (upd mi 0 0) mf mg) H locs := hw7
  obtain ⟨hp_9, hp_10⟩ := hp
  have hp_9 : ((r_6 : Int32) = 1 ↔ SETC (mi 6).toInt z_what.toInt z_who.toInt z_v.toInt) := hp_9
  rcases hp_10 with rfl | ⟨rfl, ha_11, ha_12, ha_13⟩ | ⟨rfl, ha_14, ha_15, ha_16⟩ | ⟨rfl, ha_17⟩ | ⟨rfl, ha_18, ha_19, ha_20, ha_21, ha_22⟩ | ⟨rfl, ha_23, ha_24⟩ | ⟨rfl, ha_25, ha_26, ha_27, ha_28⟩
  · skip
    refine lv_if_ne (pc := 12) (tgt := 17) E.1 E.2.1 dX12_set_12 (by decide) (fun c_29 => absurd (meqE (a := 0) (b := 0) (by decide +kernel) (by decide +kernel) (by omega)) c_29) (fun _ => ?_)
    refine lv_iconst (pc := 15) (v := 0) E.1 E.2.1 dX12_set_15 (by decide +kernel) ?_
    exact em_z (w1 := (fun (u : Int32 × (Nat → Int32) × Int32 × Int32 × Int32 × Int32 × (Nat → Int32) × (Nat → Int32) × (Nat → Int32) × Int32) => (MW cI cJ M mr (upd (upd (upd (upd (upd (upd mi 0 u.1) 12 u.2.2.1) 13 u.2.2.2.1) 14 u.2.2.2.2.1) 15 u.2.2.2.2.2.1) 3 u.2.2.2.2.2.2.2.2.2) (va_up (va_up (va_up (va_up mf 1 u.2.1) 8 u.2.2.2.2.2.2.1) 9 u.2.2.2.2.2.2.2.1) 10 u.2.2.2.2.2.2.2.2.1) mg))) E hr hlk (0, (mf 1), (mi 12), (mi 13), (mi 14), (mi 15), (mf 8), (mf 9), (mf 10), (mi 3)) hw8 ⟨h2, h1, rfl, rfl, rfl, rfl, (show rowsOK (mi 3).toInt (mi 6).toInt (mf 2) from lf_rows), (show pplOK (mi 6).toInt (mf 8) from lf_people), (show RKN (mi 3).toInt (((mf 1) 0).toInt) (mf 2) from lf_kept), (show RKD (mi 3).toInt ((mf 1) 1) (mi 12).toInt (mf 2) from lf_keptD), (show (((0 : Int32) = 1 ∧ ((z_what.toInt = 1 ∧ (mi 12).toInt = z_v.toInt) ∨ (z_what.toInt ≠ 1 ∧ (mi 12).toInt = (mi 12).toInt))) ∨ ((0 : Int32) = 0 ∧ (mi 12).toInt = (mi 12).toInt)) from (Or.inr ⟨rfl, by omega⟩)), (show ((SETC (mi 6).toInt z_what.toInt z_who.toInt z_v.toInt ∧ (0 : Int32) = 1 ∧ (mi 3).toInt = 0) ∨ (¬ SETC (mi 6).toInt z_what.toInt z_who.toInt z_v.toInt ∧ (0 : Int32) = 0 ∧ (mi 3).toInt = (mi 3).toInt)) from (Or.inr ⟨fun h => absurd (hp_9.mpr h) (by decide +kernel), rfl, by omega⟩)), (Or.inl ⟨rfl, rfl⟩)⟩ (by decide +kernel) (Nat.le_of_ble_eq_true rfl) (Nat.le_of_ble_eq_true rfl) dX12_set_16
  · skip
    have ha_11 : z_what.toInt = 5 := ha_11
    have ha_12 : 0 ≤ z_v.toInt := ha_12
    have ha_13 : z_v.toInt + 1 ≤ (mi 6).toInt := ha_13
    refine lv_if_ne (pc := 12) (tgt := 17) E.1 E.2.1 dX12_set_12 (by decide) (fun _ => ?_) (fun c_30 => absurd c_30 (mneE (a := 1) (b := 0) (by decide +kernel) (by decide +kernel) (by omega)))
    refine lv_iload_n (pc := 17) E.1 E.2.1 dX12_set_17 rfl (lv_at hl3 1 rfl) ?_
    refine lv_if_ne (pc := 18) (tgt := 28) E.1 E.2.1 dX12_set_18 (by decide) (fun _ => ?_) (fun c_31 => absurd c_31 (mneE (a := z_what.toInt) (b := 0) rfl (by decide +kernel) (by omega)))
    refine lv_iload_n (pc := 28) E.1 E.2.1 dX12_set_28 rfl (lv_at hl3 1 rfl) ?_
    refine lv_iconst (pc := 29) (v := 1) E.1 E.2.1 dX12_set_29 (by decide +kernel) ?_
    refine lv_icmp_ne (pc := 30) (tgt := 38) E.1 E.2.1 dX12_set_30 (by decide) (fun _ => ?_) (fun c_32 => absurd c_32 (mneE (a := z_what.toInt) (b := 1) rfl (by decide +kernel) (by omega)))
    refine lv_iload_n (pc := 38) E.1 E.2.1 dX12_set_38 rfl (lv_at hl3 1 rfl) ?_
    refine lv_iconst (pc := 39) (v := 2) E.1 E.2.1 dX12_set_39 (by decide +kernel) ?_
    refine lv_icmp_ne (pc := 40) (tgt := 48) E.1 E.2.1 dX12_set_40 (by decide) (fun _ => ?_) (fun c_33 => absurd c_33 (mneE (a := z_what.toInt) (b := 2) rfl (by decide +kernel) (by omega)))
    refine lv_iload_n (pc := 48) E.1 E.2.1 dX12_set_48 rfl (lv_at hl3 1 rfl) ?_
    refine lv_iconst (pc := 49) (v := 3) E.1 E.2.1 dX12_set_49 (by decide +kernel) ?_
    refine lv_icmp_ne (pc := 50) (tgt := 61) E.1 E.2.1 dX12_set_50 (by decide) (fun _ => ?_) (fun c_34 => absurd c_34 (mneE (a := z_what.toInt) (b := 3) rfl (by decide +kernel) (by omega)))
    refine lv_iload_n (pc := 61) E.1 E.2.1 dX12_set_61 rfl (lv_at hl3 1 rfl) ?_
    refine lv_iconst (pc := 62) (v := 4) E.1 E.2.1 dX12_set_62 (by decide +kernel) ?_
    refine lv_icmp_ne (pc := 63) (tgt := 74) E.1 E.2.1 dX12_set_63 (by decide) (fun _ => ?_) (fun c_35 => absurd c_35 (mneE (a := z_what.toInt) (b := 4) rfl (by decide +kernel) (by omega)))
    refine lv_iload_n (pc := 74) E.1 E.2.1 dX12_set_74 rfl (lv_at hl3 1 rfl) ?_
    refine lv_iconst (pc := 75) (v := 5) E.1 E.2.1 dX12_set_75 (by decide +kernel) ?_
    refine lv_icmp_ne (pc := 76) (tgt := 86) E.1 E.2.1 dX12_set_76 (by decide) (fun c_36 => absurd (meqE (a := z_what.toInt) (b := 5) rfl (by decide +kernel) (by omega)) c_36) (fun _ => ?_)
    refine lv_aload_n (pc := 79) E.1 E.2.1 dX12_set_79 rfl (lv_at hl3 0 rfl) ?_
    refine x_get (pc := 80) (T := TX12) (N := 70) (ci := 12) (v := .ref (mr 1)) E hw8 inX12 0 1 q_1400 rfl rfl (by decide) rfl rfl dX12_set_80 ?_
    refine lv_iconst (pc := 83) (v := 3) E.1 E.2.1 dX12_set_83 (by decide +kernel) ?_
    refine lv_iload_n (pc := 84) E.1 E.2.1 dX12_set_84 rfl (lv_at hl3 3 rfl) ?_
    refine x_iastG (pc := 85) (f := (mf 1)) (wf := fun g => (MW cI cJ M mr (upd mi 0 0) (va_up mf 1 g) mg)) E hw8 1 rfl (inbE (a := 3) (by decide +kernel) (by omega)) (fun _ => rfl) dX12_set_85 (fun g_37 H locs eg_37 hw38 => ?_)
    have ht_39 : (g_37 0).toInt = ((mf 1) 0).toInt := by rw [eg_37]; rfl
    have ht_40 : (g_37 1).toInt = ((mf 1) 1).toInt := by rw [eg_37]; rfl
    have ht_41 : (g_37 2).toInt = ((mf 1) 2).toInt := by rw [eg_37]; rfl
    have ht_42 : (g_37 3).toInt = (z_v : Int32).toInt := by rw [eg_37]; rfl
    have ht_43 : (g_37 5).toInt = ((mf 1) 5).toInt := by rw [eg_37]; rfl
    refine lv_iload_n (pc := 86) E.1 E.2.1 dX12_set_86 rfl (lv_at hl3 1 rfl) ?_
    refine lv_bipush (pc := 87) (v := 6) E.1 E.2.1 dX12_set_87 (by decide +kernel) ?_
    refine lv_icmp_ne (pc := 89) (tgt := 99) E.1 E.2.1 dX12_set_89 (by decide) (fun _ => ?_) (fun c_44 => absurd c_44 (mneE (a := z_what.toInt) (b := 6) rfl (by decide +kernel) (by omega)))
    refine lv_iload_n (pc := 99) E.1 E.2.1 dX12_set_99 rfl (lv_at hl3 1 rfl) ?_
    refine lv_bipush (pc := 100) (v := 7) E.1 E.2.1 dX12_set_100 (by decide +kernel) ?_
    refine lv_icmp_ne (pc := 102) (tgt := 115) E.1 E.2.1 dX12_set_102 (by decide) (fun _ => ?_) (fun c_45 => absurd c_45 (mneE (a := z_what.toInt) (b := 7) rfl (by decide +kernel) (by omega)))
    refine lv_iload_n (pc := 115) E.1 E.2.1 dX12_set_115 rfl (lv_at hl3 1 rfl) ?_
    refine lv_bipush (pc := 116) (v := 8) E.1 E.2.1 dX12_set_116 (by decide +kernel) ?_
    refine lv_icmp_ne (pc := 118) (tgt := 131) E.1 E.2.1 dX12_set_118 (by decide) (fun _ => ?_) (fun c_46 => absurd c_46 (mneE (a := z_what.toInt) (b := 8) rfl (by decide +kernel) (by omega)))
    refine lv_iload_n (pc := 131) E.1 E.2.1 dX12_set_131 rfl (lv_at hl3 1 rfl) ?_
    refine lv_bipush (pc := 132) (v := 9) E.1 E.2.1 dX12_set_132 (by decide +kernel) ?_
    refine lv_icmp_ne (pc := 134) (tgt := 144) E.1 E.2.1 dX12_set_134 (by decide) (fun _ => ?_) (fun c_47 => absurd c_47 (mneE (a := z_what.toInt) (b := 9) rfl (by decide +kernel) (by omega)))
    refine lv_iload_n (pc := 144) E.1 E.2.1 dX12_set_144 rfl (lv_at hl3 1 rfl) ?_
    refine lv_bipush (pc := 145) (v := 10) E.1 E.2.1 dX12_set_145 (by decide +kernel) ?_
    refine lv_icmp_ne (pc := 147) (tgt := 157) E.1 E.2.1 dX12_set_147 (by decide) (fun _ => ?_) (fun c_48 => absurd c_48 (mneE (a := z_what.toInt) (b := 10) rfl (by decide +kernel) (by omega)))
    refine lv_aload_n (pc := 157) E.1 E.2.1 dX12_set_157 rfl (lv_at hl3 0 rfl) ?_
    refine lv_iconst (pc := 158) (v := 0) E.1 E.2.1 dX12_set_158 (by decide +kernel) ?_
    refine x_put (pc := 159) (T := TX12) (N := 70) (ci := 12) (ws' := (MW cI cJ M mr (upd (upd mi 0 0) 3 0) (va_up mf 1 g_37) mg)) E hw38 inX12 tyX12_ok nmX12 0 3 q_1402 rfl rfl (by decide) rfl rfl rfl rfl (Nat.le_of_ble_eq_true rfl) rfl dX12_set_159 (fun H locs hw49 => ?_)
    refine lv_iconst (pc := 162) (v := 1) E.1 E.2.1 dX12_set_162 (by decide +kernel) ?_
    exact em_z (w1 := (fun (u : Int32 × (Nat → Int32) × Int32 × Int32 × Int32 × Int32 × (Nat → Int32) × (Nat → Int32) × (Nat → Int32) × Int32) => (MW cI cJ M mr (upd (upd (upd (upd (upd (upd mi 0 u.1) 12 u.2.2.1) 13 u.2.2.2.1) 14 u.2.2.2.2.1) 15 u.2.2.2.2.2.1) 3 u.2.2.2.2.2.2.2.2.2) (va_up (va_up (va_up (va_up mf 1 u.2.1) 8 u.2.2.2.2.2.2.1) 9 u.2.2.2.2.2.2.2.1) 10 u.2.2.2.2.2.2.2.2.1) mg))) E hr hlk (0, g_37, (mi 12), (mi 13), (mi 14), (mi 15), (mf 8), (mf 9), (mf 10), 0) hw49 ⟨h2, (by show 0 ≤ (0 : Int32).toInt ∧ (0 : Int32).toInt ≤ 6; have k_0 : (0 : Int32).toInt = 0 := (by decide +kernel); have k_1 : (0 : Int32).toInt = 0 := (by decide +kernel); have k_2 : (1 : Int32).toInt = 1 := (by decide +kernel); omega), (by show (g_37 2).toInt = ((mf 1) 2).toInt; have k_0 : (0 : Int32).toInt = 0 := (by decide +kernel); have k_1 : (0 : Int32).toInt = 0 := (by decide +kernel); have k_2 : (1 : Int32).toInt = 1 := (by decide +kernel); omega), (by show (g_37 5).toInt = ((mf 1) 5).toInt; have k_0 : (0 : Int32).toInt = 0 := (by decide +kernel); have k_1 : (0 : Int32).toInt = 0 := (by decide +kernel); have k_2 : (1 : Int32).toInt = 1 := (by decide +kernel); omega), (by show (g_37 0).toInt = ((mf 1) 0).toInt; have k_0 : (0 : Int32).toInt = 0 := (by decide +kernel); have k_1 : (0 : Int32).toInt = 0 := (by decide +kernel); have k_2 : (1 : Int32).toInt = 1 := (by decide +kernel); omega), (by show (g_37 1).toInt = ((mf 1) 1).toInt; have k_0 : (0 : Int32).toInt = 0 := (by decide +kernel); have k_1 : (0 : Int32).toInt = 0 := (by decide +kernel); have k_2 : (1 : Int32).toInt = 1 := (by decide +kernel); omega), (show rowsOK (0 : Int32).toInt (mi 6).toInt (mf 2) from (rowsOK_nil (by decide +kernel))), (show pplOK (mi 6).toInt (mf 8) from lf_people), (show RKN (0 : Int32).toInt ((g_37 0).toInt) (mf 2) from (RKN_nil (by first | omega | decide +kernel))), (show RKD (0 : Int32).toInt (g_37 1) (mi 12).toInt (mf 2) from (RKD_nil (by first | omega | decide +kernel))), (show (((1 : Int32) = 1 ∧ ((z_what.toInt = 1 ∧ (mi 12).toInt = z_v.toInt) ∨ (z_what.toInt ≠ 1 ∧ (mi 12).toInt = (mi 12).toInt))) ∨ ((1 : Int32) = 0 ∧ (mi 12).toInt = (mi 12).toInt)) from (Or.inl ⟨rfl, by omega⟩)), (show ((SETC (mi 6).toInt z_what.toInt z_who.toInt z_v.toInt ∧ (1 : Int32) = 1 ∧ (0 : Int32).toInt = 0) ∨ (¬ SETC (mi 6).toInt z_what.toInt z_who.toInt z_v.toInt ∧ (1 : Int32) = 0 ∧ (0 : Int32).toInt = (mi 3).toInt)) from (Or.inl ⟨hp_9.mp rfl, rfl, by decide +kernel⟩)), (Or.inr (Or.inr (⟨rfl, (by show 0 ≤ (g_37 3).toInt; omega), (by show (g_37 3).toInt + 1 ≤ (mi 6).toInt; omega)⟩)))⟩ (by decide +kernel) (Nat.le_of_ble_eq_true rfl) (Nat.le_of_ble_eq_true rfl) dX12_set_163
  · skip
    have ha_14 : z_what.toInt = 4 := ha_14
    have ha_15 : 1 ≤ z_v.toInt := ha_15
    have ha_16 : z_v.toInt ≤ 99 := ha_16
    refine lv_if_ne (pc := 12) (tgt := 17) E.1 E.2.1 dX12_set_12 (by decide) (fun _ => ?_) (fun c_50 => absurd c_50 (mneE (a := 1) (b := 0) (by decide +kernel) (by decide +kernel) (by omega)))
    refine lv_iload_n (pc := 17) E.1 E.2.1 dX12_set_17 rfl (lv_at hl3 1 rfl) ?_
    refine lv_if_ne (pc := 18) (tgt := 28) E.1 E.2.1 dX12_set_18 (by decide) (fun _ => ?_) (fun c_51 => absurd c_51 (mneE (a := z_what.toInt) (b := 0) rfl (by decide +kernel) (by omega)))
    refine lv_iload_n (pc := 28) E.1 E.2.1 dX12_set_28 rfl (lv_at hl3 1 rfl) ?_
    refine lv_iconst (pc := 29) (v := 1) E.1 E.2.1 dX12_set_29 (by decide +kernel) ?_
    refine lv_icmp_ne (pc := 30) (tgt := 38) E.1 E.2.1 dX12_set_30 (by decide) (fun _ => ?_) (fun c_52 => absurd c_52 (mneE (a := z_what.toInt) (b := 1) rfl (by decide +kernel) (by omega)))
    refine lv_iload_n (pc := 38) E.1 E.2.1 dX12_set_38 rfl (lv_at hl3 1 rfl) ?_
    refine lv_iconst (pc := 39) (v := 2) E.1 E.2.1 dX12_set_39 (by decide +kernel) ?_
    refine lv_icmp_ne (pc := 40) (tgt := 48) E.1 E.2.1 dX12_set_40 (by decide) (fun _ => ?_) (fun c_53 => absurd c_53 (mneE (a := z_what.toInt) (b := 2) rfl (by decide +kernel) (by omega)))
    refine lv_iload_n (pc := 48) E.1 E.2.1 dX12_set_48 rfl (lv_at hl3 1 rfl) ?_
    refine lv_iconst (pc := 49) (v := 3) E.1 E.2.1 dX12_set_49 (by decide +kernel) ?_
    refine lv_icmp_ne (pc := 50) (tgt := 61) E.1 E.2.1 dX12_set_50 (by decide) (fun _ => ?_) (fun c_54 => absurd c_54 (mneE (a := z_what.toInt) (b := 3) rfl (by decide +kernel) (by omega)))
    refine lv_iload_n (pc := 61) E.1 E.2.1 dX12_set_61 rfl (lv_at hl3 1 rfl) ?_
    refine lv_iconst (pc := 62) (v := 4) E.1 E.2.1 dX12_set_62 (by decide +kernel) ?_
    refine lv_icmp_ne (pc := 63) (tgt := 74) E.1 E.2.1 dX12_set_63 (by decide) (fun c_55 => absurd (meqE (a := z_what.toInt) (b := 4) rfl (by decide +kernel) (by omega)) c_55) (fun _ => ?_)
    refine lv_aload_n (pc := 66) E.1 E.2.1 dX12_set_66 rfl (lv_at hl3 0 rfl) ?_
    refine lv_iload_n (pc := 67) E.1 E.2.1 dX12_set_67 rfl (lv_at hl3 3 rfl) ?_
    refine lv_bipush (pc := 68) (v := 30) E.1 E.2.1 dX12_set_68 (by decide +kernel) ?_
    refine lv_isub (pc := 70) E.1 E.2.1 dX12_set_70 ?_
    refine lv_topi (fun v_56 ev_56 => ?_)
    have hv_56 : v_56.toInt = z_v.toInt - 30 := by rw [ev_56]; exact subE rfl (by decide +kernel) (by omega)
    refine x_put (pc := 71) (T := TX12) (N := 70) (ci := 12) (ws' := (MW cI cJ M mr (upd (upd mi 0 0) 15 v_56) mf mg)) E hw8 inX12 tyX12_ok nmX12 0 15 q_1414 rfl rfl (by decide) rfl rfl rfl rfl (Nat.le_of_ble_eq_true rfl) rfl dX12_set_71 (fun H locs hw57 => ?_)
    refine lv_iload_n (pc := 74) E.1 E.2.1 dX12_set_74 rfl (lv_at hl3 1 rfl) ?_
    refine lv_iconst (pc := 75) (v := 5) E.1 E.2.1 dX12_set_75 (by decide +kernel) ?_
    refine lv_icmp_ne (pc := 76) (tgt := 86) E.1 E.2.1 dX12_set_76 (by decide) (fun _ => ?_) (fun c_58 => absurd c_58 (mneE (a := z_what.toInt) (b := 5) rfl (by decide +kernel) (by omega)))
    refine lv_iload_n (pc := 86) E.1 E.2.1 dX12_set_86 rfl (lv_at hl3 1 rfl) ?_
    refine lv_bipush (pc := 87) (v := 6) E.1 E.2.1 dX12_set_87 (by decide +kernel) ?_
    refine lv_icmp_ne (pc := 89) (tgt := 99) E.1 E.2.1 dX12_set_89 (by decide) (fun _ => ?_) (fun c_59 => absurd c_59 (mneE (a := z_what.toInt) (b := 6) rfl (by decide +kernel) (by omega)))
    refine lv_iload_n (pc := 99) E.1 E.2.1 dX12_set_99 rfl (lv_at hl3 1 rfl) ?_
    refine lv_bipush (pc := 100) (v := 7) E.1 E.2.1 dX12_set_100 (by decide +kernel) ?_
    refine lv_icmp_ne (pc := 102) (tgt := 115) E.1 E.2.1 dX12_set_102 (by decide) (fun _ => ?_) (fun c_60 => absurd c_60 (mneE (a := z_what.toInt) (b := 7) rfl (by decide +kernel) (by omega)))
    refine lv_iload_n (pc := 115) E.1 E.2.1 dX12_set_115 rfl (lv_at hl3 1 rfl) ?_
    refine lv_bipush (pc := 116) (v := 8) E.1 E.2.1 dX12_set_116 (by decide +kernel) ?_
    refine lv_icmp_ne (pc := 118) (tgt := 131) E.1 E.2.1 dX12_set_118 (by decide) (fun _ => ?_) (fun c_61 => absurd c_61 (mneE (a := z_what.toInt) (b := 8) rfl (by decide +kernel) (by omega)))
    refine lv_iload_n (pc := 131) E.1 E.2.1 dX12_set_131 rfl (lv_at hl3 1 rfl) ?_
    refine lv_bipush (pc := 132) (v := 9) E.1 E.2.1 dX12_set_132 (by decide +kernel) ?_
    refine lv_icmp_ne (pc := 134) (tgt := 144) E.1 E.2.1 dX12_set_134 (by decide) (fun _ => ?_) (fun c_62 => absurd c_62 (mneE (a := z_what.toInt) (b := 9) rfl (by decide +kernel) (by omega)))
    refine lv_iload_n (pc := 144) E.1 E.2.1 dX12_set_144 rfl (lv_at hl3 1 rfl) ?_
    refine lv_bipush (pc := 145) (v := 10) E.1 E.2.1 dX12_set_145 (by decide +kernel) ?_
    refine lv_icmp_ne (pc := 147) (tgt := 157) E.1 E.2.1 dX12_set_147 (by decide) (fun _ => ?_) (fun c_63 => absurd c_63 (mneE (a := z_what.toInt) (b := 10) rfl (by decide +kernel) (by omega)))
    refine lv_aload_n (pc := 157) E.1 E.2.1 dX12_set_157 rfl (lv_at hl3 0 rfl) ?_
    refine lv_iconst (pc := 158) (v := 0) E.1 E.2.1 dX12_set_158 (by decide +kernel) ?_
    refine x_put (pc := 159) (T := TX12) (N := 70) (ci := 12) (ws' := (MW cI cJ M mr (upd (upd (upd mi 0 0) 3 0) 15 v_56) mf mg)) E hw57 inX12 tyX12_ok nmX12 0 3 q_1402 rfl rfl (by decide) rfl rfl rfl rfl (Nat.le_of_ble_eq_true rfl) rfl dX12_set_159 (fun H locs hw64 => ?_)
    refine lv_iconst (pc := 162) (v := 1) E.1 E.2.1 dX12_set_162 (by decide +kernel) ?_
    exact em_z (w1 := (fun (u : Int32 × (Nat → Int32) × Int32 × Int32 × Int32 × Int32 × (Nat → Int32) × (Nat → Int32) × (Nat → Int32) × Int32) => (MW cI cJ M mr (upd (upd (upd (upd (upd (upd mi 0 u.1) 12 u.2.2.1) 13 u.2.2.2.1) 14 u.2.2.2.2.1) 15 u.2.2.2.2.2.1) 3 u.2.2.2.2.2.2.2.2.2) (va_up (va_up (va_up (va_up mf 1 u.2.1) 8 u.2.2.2.2.2.2.1) 9 u.2.2.2.2.2.2.2.1) 10 u.2.2.2.2.2.2.2.2.1) mg))) E hr hlk (0, (mf 1), (mi 12), (mi 13), (mi 14), v_56, (mf 8), (mf 9), (mf 10), 0) hw64 ⟨(by show (-29) ≤ v_56.toInt ∧ v_56.toInt ≤ 69; have k_0 : (0 : Int32).toInt = 0 := (by decide +kernel); have k_1 : (0 : Int32).toInt = 0 := (by decide +kernel); have k_2 : (1 : Int32).toInt = 1 := (by decide +kernel); omega), (by show 0 ≤ (0 : Int32).toInt ∧ (0 : Int32).toInt ≤ 6; have k_0 : (0 : Int32).toInt = 0 := (by decide +kernel); have k_1 : (0 : Int32).toInt = 0 := (by decide +kernel); have k_2 : (1 : Int32).toInt = 1 := (by decide +kernel); omega), rfl, rfl, rfl, rfl, (show rowsOK (0 : Int32).toInt (mi 6).toInt (mf 2) from (rowsOK_nil (by decide +kernel))), (show pplOK (mi 6).toInt (mf 8) from lf_people), (show RKN (0 : Int32).toInt (((mf 1) 0).toInt) (mf 2) from (RKN_nil (by first | omega | decide +kernel))), (show RKD (0 : Int32).toInt ((mf 1) 1) (mi 12).toInt (mf 2) from (RKD_nil (by first | omega | decide +kernel))), (show (((1 : Int32) = 1 ∧ ((z_what.toInt = 1 ∧ (mi 12).toInt = z_v.toInt) ∨ (z_what.toInt ≠ 1 ∧ (mi 12).toInt = (mi 12).toInt))) ∨ ((1 : Int32) = 0 ∧ (mi 12).toInt = (mi 12).toInt)) from (Or.inl ⟨rfl, by omega⟩)), (show ((SETC (mi 6).toInt z_what.toInt z_who.toInt z_v.toInt ∧ (1 : Int32) = 1 ∧ (0 : Int32).toInt = 0) ∨ (¬ SETC (mi 6).toInt z_what.toInt z_who.toInt z_v.toInt ∧ (1 : Int32) = 0 ∧ (0 : Int32).toInt = (mi 3).toInt)) from (Or.inl ⟨hp_9.mp rfl, rfl, by decide +kernel⟩)), (Or.inr (Or.inl ⟨rfl, rfl⟩))⟩ (by decide +kernel) (Nat.le_of_ble_eq_true rfl) (Nat.le_of_ble_eq_true rfl) dX12_set_163
  · skip
    have ha_17 : z_what.toInt = 3 := ha_17
    refine lv_if_ne (pc := 12) (tgt := 17) E.1 E.2.1 dX12_set_12 (by decide) (fun _ => ?_) (fun c_65 => absurd c_65 (mneE (a := 1) (b := 0) (by decide +kernel) (by decide +kernel) (by omega)))
    refine lv_iload_n (pc := 17) E.1 E.2.1 dX12_set_17 rfl (lv_at hl3 1 rfl) ?_
    refine lv_if_ne (pc := 18) (tgt := 28) E.1 E.2.1 dX12_set_18 (by decide) (fun _ => ?_) (fun c_66 => absurd c_66 (mneE (a := z_what.toInt) (b := 0) rfl (by decide +kernel) (by omega)))
    refine lv_iload_n (pc := 28) E.1 E.2.1 dX12_set_28 rfl (lv_at hl3 1 rfl) ?_
    refine lv_iconst (pc := 29) (v := 1) E.1 E.2.1 dX12_set_29 (by decide +kernel) ?_
    refine lv_icmp_ne (pc := 30) (tgt := 38) E.1 E.2.1 dX12_set_30 (by decide) (fun _ => ?_) (fun c_67 => absurd c_67 (mneE (a := z_what.toInt) (b := 1) rfl (by decide +kernel) (by omega)))
    refine lv_iload_n (pc := 38) E.1 E.2.1 dX12_set_38 rfl (lv_at hl3 1 rfl) ?_
    refine lv_iconst (pc := 39) (v := 2) E.1 E.2.1 dX12_set_39 (by decide +kernel) ?_
    refine lv_icmp_ne (pc := 40) (tgt := 48) E.1 E.2.1 dX12_set_40 (by decide) (fun _ => ?_) (fun c_68 => absurd c_68 (mneE (a := z_what.toInt) (b := 2) rfl (by decide +kernel) (by omega)))
    refine lv_iload_n (pc := 48) E.1 E.2.1 dX12_set_48 rfl (lv_at hl3 1 rfl) ?_
    refine lv_iconst (pc := 49) (v := 3) E.1 E.2.1 dX12_set_49 (by decide +kernel) ?_
    refine lv_icmp_ne (pc := 50) (tgt := 61) E.1 E.2.1 dX12_set_50 (by decide) (fun c_69 => absurd (meqE (a := z_what.toInt) (b := 3) rfl (by decide +kernel) (by omega)) c_69) (fun _ => ?_)
    refine lv_aload_n (pc := 53) E.1 E.2.1 dX12_set_53 rfl (lv_at hl3 0 rfl) ?_
    refine lv_iload_n (pc := 54) E.1 E.2.1 dX12_set_54 rfl (lv_at hl3 3 rfl) ?_
    refine lv_bipush (pc := 55) (v := 20) E.1 E.2.1 dX12_set_55 (by decide +kernel) ?_
    refine lv_isub (pc := 57) E.1 E.2.1 dX12_set_57 ?_
    refine lv_topi (fun v_70 ev_70 => ?_)
    refine x_put (pc := 58) (T := TX12) (N := 70) (ci := 12) (ws' := (MW cI cJ M mr (upd (upd mi 0 0) 14 v_70) mf mg)) E hw8 inX12 tyX12_ok nmX12 0 14 q_1413 rfl rfl (by decide) rfl rfl rfl rfl (Nat.le_of_ble_eq_true rfl) rfl dX12_set_58 (fun H locs hw71 => ?_)
    refine lv_iload_n (pc := 61) E.1 E.2.1 dX12_set_61 rfl (lv_at hl3 1 rfl) ?_
    refine lv_iconst (pc := 62) (v := 4) E.1 E.2.1 dX12_set_62 (by decide +kernel) ?_
    refine lv_icmp_ne (pc := 63) (tgt := 74) E.1 E.2.1 dX12_set_63 (by decide) (fun _ => ?_) (fun c_72 => absurd c_72 (mneE (a := z_what.toInt) (b := 4) rfl (by decide +kernel) (by omega)))
    refine lv_iload_n (pc := 74) E.1 E.2.1 dX12_set_74 rfl (lv_at hl3 1 rfl) ?_
    refine lv_iconst (pc := 75) (v := 5) E.1 E.2.1 dX12_set_75 (by decide +kernel) ?_
    refine lv_icmp_ne (pc := 76) (tgt := 86) E.1 E.2.1 dX12_set_76 (by decide) (fun _ => ?_) (fun c_73 => absurd c_73 (mneE (a := z_what.toInt) (b := 5) rfl (by decide +kernel) (by omega)))
    refine lv_iload_n (pc := 86) E.1 E.2.1 dX12_set_86 rfl (lv_at hl3 1 rfl) ?_
    refine lv_bipush (pc := 87) (v := 6) E.1 E.2.1 dX12_set_87 (by decide +kernel) ?_
    refine lv_icmp_ne (pc := 89) (tgt := 99) E.1 E.2.1 dX12_set_89 (by decide) (fun _ => ?_) (fun c_74 => absurd c_74 (mneE (a := z_what.toInt) (b := 6) rfl (by decide +kernel) (by omega)))
    refine lv_iload_n (pc := 99) E.1 E.2.1 dX12_set_99 rfl (lv_at hl3 1 rfl) ?_
    refine lv_bipush (pc := 100) (v := 7) E.1 E.2.1 dX12_set_100 (by decide +kernel) ?_
    refine lv_icmp_ne (pc := 102) (tgt := 115) E.1 E.2.1 dX12_set_102 (by decide) (fun _ => ?_) (fun c_75 => absurd c_75 (mneE (a := z_what.toInt) (b := 7) rfl (by decide +kernel) (by omega)))
    refine lv_iload_n (pc := 115) E.1 E.2.1 dX12_set_115 rfl (lv_at hl3 1 rfl) ?_
    refine lv_bipush (pc := 116) (v := 8) E.1 E.2.1 dX12_set_116 (by decide +kernel) ?_
    refine lv_icmp_ne (pc := 118) (tgt := 131) E.1 E.2.1 dX12_set_118 (by decide) (fun _ => ?_) (fun c_76 => absurd c_76 (mneE (a := z_what.toInt) (b := 8) rfl (by decide +kernel) (by omega)))
    refine lv_iload_n (pc := 131) E.1 E.2.1 dX12_set_131 rfl (lv_at hl3 1 rfl) ?_
    refine lv_bipush (pc := 132) (v := 9) E.1 E.2.1 dX12_set_132 (by decide +kernel) ?_
    refine lv_icmp_ne (pc := 134) (tgt := 144) E.1 E.2.1 dX12_set_134 (by decide) (fun _ => ?_) (fun c_77 => absurd c_77 (mneE (a := z_what.toInt) (b := 9) rfl (by decide +kernel) (by omega)))
    refine lv_iload_n (pc := 144) E.1 E.2.1 dX12_set_144 rfl (lv_at hl3 1 rfl) ?_
    refine lv_bipush (pc := 145) (v := 10) E.1 E.2.1 dX12_set_145 (by decide +kernel) ?_
    refine lv_icmp_ne (pc := 147) (tgt := 157) E.1 E.2.1 dX12_set_147 (by decide) (fun _ => ?_) (fun c_78 => absurd c_78 (mneE (a := z_what.toInt) (b := 10) rfl (by decide +kernel) (by omega)))
    refine lv_aload_n (pc := 157) E.1 E.2.1 dX12_set_157 rfl (lv_at hl3 0 rfl) ?_
    refine lv_iconst (pc := 158) (v := 0) E.1 E.2.1 dX12_set_158 (by decide +kernel) ?_
    refine x_put (pc := 159) (T := TX12) (N := 70) (ci := 12) (ws' := (MW cI cJ M mr (upd (upd (upd mi 0 0) 3 0) 14 v_70) mf mg)) E hw71 inX12 tyX12_ok nmX12 0 3 q_1402 rfl rfl (by decide) rfl rfl rfl rfl (Nat.le_of_ble_eq_true rfl) rfl dX12_set_159 (fun H locs hw79 => ?_)
    refine lv_iconst (pc := 162) (v := 1) E.1 E.2.1 dX12_set_162 (by decide +kernel) ?_
    exact em_z (w1 := (fun (u : Int32 × (Nat → Int32) × Int32 × Int32 × Int32 × Int32 × (Nat → Int32) × (Nat → Int32) × (Nat → Int32) × Int32) => (MW cI cJ M mr (upd (upd (upd (upd (upd (upd mi 0 u.1) 12 u.2.2.1) 13 u.2.2.2.1) 14 u.2.2.2.2.1) 15 u.2.2.2.2.2.1) 3 u.2.2.2.2.2.2.2.2.2) (va_up (va_up (va_up (va_up mf 1 u.2.1) 8 u.2.2.2.2.2.2.1) 9 u.2.2.2.2.2.2.2.1) 10 u.2.2.2.2.2.2.2.2.1) mg))) E hr hlk (0, (mf 1), (mi 12), (mi 13), v_70, (mi 15), (mf 8), (mf 9), (mf 10), 0) hw79 ⟨h2, (by show 0 ≤ (0 : Int32).toInt ∧ (0 : Int32).toInt ≤ 6; have k_0 : (0 : Int32).toInt = 0 := (by decide +kernel); have k_1 : (0 : Int32).toInt = 0 := (by decide +kernel); have k_2 : (1 : Int32).toInt = 1 := (by decide +kernel); omega), rfl, rfl, rfl, rfl, (show rowsOK (0 : Int32).toInt (mi 6).toInt (mf 2) from (rowsOK_nil (by decide +kernel))), (show pplOK (mi 6).toInt (mf 8) from lf_people), (show RKN (0 : Int32).toInt (((mf 1) 0).toInt) (mf 2) from (RKN_nil (by first | omega | decide +kernel))), (show RKD (0 : Int32).toInt ((mf 1) 1) (mi 12).toInt (mf 2) from (RKD_nil (by first | omega | decide +kernel))), (show (((1 : Int32) = 1 ∧ ((z_what.toInt = 1 ∧ (mi 12).toInt = z_v.toInt) ∨ (z_what.toInt ≠ 1 ∧ (mi 12).toInt = (mi 12).toInt))) ∨ ((1 : Int32) = 0 ∧ (mi 12).toInt = (mi 12).toInt)) from (Or.inl ⟨rfl, by omega⟩)), (show ((SETC (mi 6).toInt z_what.toInt z_who.toInt z_v.toInt ∧ (1 : Int32) = 1 ∧ (0 : Int32).toInt = 0) ∨ (¬ SETC (mi 6).toInt z_what.toInt z_who.toInt z_v.toInt ∧ (1 : Int32) = 0 ∧ (0 : Int32).toInt = (mi 3).toInt)) from (Or.inl ⟨hp_9.mp rfl, rfl, by decide +kernel⟩)), (Or.inr (Or.inl ⟨rfl, rfl⟩))⟩ (by decide +kernel) (Nat.le_of_ble_eq_true rfl) (Nat.le_of_ble_eq_true rfl) dX12_set_163
  · skip
    have ha_18 : z_what.toInt = 6 := ha_18
    have ha_19 : 1 ≤ z_v.toInt := ha_19
    have ha_20 : z_v.toInt ≤ 20 := ha_20
    have ha_21 : 0 ≤ z_who.toInt := ha_21
    have ha_22 : z_who.toInt + 1 ≤ (mi 6).toInt := ha_22
    refine lv_if_ne (pc := 12) (tgt := 17) E.1 E.2.1 dX12_set_12 (by decide) (fun _ => ?_) (fun c_80 => absurd c_80 (mneE (a := 1) (b := 0) (by decide +kernel) (by decide +kernel) (by omega)))
    refine lv_iload_n (pc := 17) E.1 E.2.1 dX12_set_17 rfl (lv_at hl3 1 rfl) ?_
    refine lv_if_ne (pc := 18) (tgt := 28) E.1 E.2.1 dX12_set_18 (by decide) (fun _ => ?_) (fun c_81 => absurd c_81 (mneE (a := z_what.toInt) (b := 0) rfl (by decide +kernel) (by omega)))
    refine lv_iload_n (pc := 28) E.1 E.2.1 dX12_set_28 rfl (lv_at hl3 1 rfl) ?_
    refine lv_iconst (pc := 29) (v := 1) E.1 E.2.1 dX12_set_29 (by decide +kernel) ?_
    refine lv_icmp_ne (pc := 30) (tgt := 38) E.1 E.2.1 dX12_set_30 (by decide) (fun _ => ?_) (fun c_82 => absurd c_82 (mneE (a := z_what.toInt) (b := 1) rfl (by decide +kernel) (by omega)))
    refine lv_iload_n (pc := 38) E.1 E.2.1 dX12_set_38 rfl (lv_at hl3 1 rfl) ?_
    refine lv_iconst (pc := 39) (v := 2) E.1 E.2.1 dX12_set_39 (by decide +kernel) ?_
    refine lv_icmp_ne (pc := 40) (tgt := 48) E.1 E.2.1 dX12_set_40 (by decide) (fun _ => ?_) (fun c_83 => absurd c_83 (mneE (a := z_what.toInt) (b := 2) rfl (by decide +kernel) (by omega)))
    refine lv_iload_n (pc := 48) E.1 E.2.1 dX12_set_48 rfl (lv_at hl3 1 rfl) ?_
    refine lv_iconst (pc := 49) (v := 3) E.1 E.2.1 dX12_set_49 (by decide +kernel) ?_
    refine lv_icmp_ne (pc := 50) (tgt := 61) E.1 E.2.1 dX12_set_50 (by decide) (fun _ => ?_) (fun c_84 => absurd c_84 (mneE (a := z_what.toInt) (b := 3) rfl (by decide +kernel) (by omega)))
    refine lv_iload_n (pc := 61) E.1 E.2.1 dX12_set_61 rfl (lv_at hl3 1 rfl) ?_
    refine lv_iconst (pc := 62) (v := 4) E.1 E.2.1 dX12_set_62 (by decide +kernel) ?_
    refine lv_icmp_ne (pc := 63) (tgt := 74) E.1 E.2.1 dX12_set_63 (by decide) (fun _ => ?_) (fun c_85 => absurd c_85 (mneE (a := z_what.toInt) (b := 4) rfl (by decide +kernel) (by omega)))
    refine lv_iload_n (pc := 74) E.1 E.2.1 dX12_set_74 rfl (lv_at hl3 1 rfl) ?_
    refine lv_iconst (pc := 75) (v := 5) E.1 E.2.1 dX12_set_75 (by decide +kernel) ?_
    refine lv_icmp_ne (pc := 76) (tgt := 86) E.1 E.2.1 dX12_set_76 (by decide) (fun _ => ?_) (fun c_86 => absurd c_86 (mneE (a := z_what.toInt) (b := 5) rfl (by decide +kernel) (by omega)))
    refine lv_iload_n (pc := 86) E.1 E.2.1 dX12_set_86 rfl (lv_at hl3 1 rfl) ?_
    refine lv_bipush (pc := 87) (v := 6) E.1 E.2.1 dX12_set_87 (by decide +kernel) ?_
    refine lv_icmp_ne (pc := 89) (tgt := 99) E.1 E.2.1 dX12_set_89 (by decide) (fun c_87 => absurd (meqE (a := z_what.toInt) (b := 6) rfl (by decide +kernel) (by omega)) c_87) (fun _ => ?_)
    refine lv_aload_n (pc := 92) E.1 E.2.1 dX12_set_92 rfl (lv_at hl3 0 rfl) ?_
    refine x_get (pc := 93) (T := TX12) (N := 70) (ci := 12) (v := .ref (mr 8)) E hw8 inX12 0 8 q_1407 rfl rfl (by decide) rfl rfl dX12_set_93 ?_
    refine lv_iload_n (pc := 96) E.1 E.2.1 dX12_set_96 rfl (lv_at hl3 2 rfl) ?_
    refine lv_iload_n (pc := 97) E.1 E.2.1 dX12_set_97 rfl (lv_at hl3 3 rfl) ?_
    refine x_iastG (pc := 98) (f := (mf 8)) (wf := fun g => (MW cI cJ M mr (upd mi 0 0) (va_up mf 8 g) mg)) E hw8 5 rfl (inbE (a := z_who.toInt) rfl (by omega)) (fun _ => rfl) dX12_set_98 (fun g_88 H locs eg_88 hw89 => ?_)
    refine lv_iload_n (pc := 99) E.1 E.2.1 dX12_set_99 rfl (lv_at hl3 1 rfl) ?_
    refine lv_bipush (pc := 100) (v := 7) E.1 E.2.1 dX12_set_100 (by decide +kernel) ?_
    refine lv_icmp_ne (pc := 102) (tgt := 115) E.1 E.2.1 dX12_set_102 (by decide) (fun _ => ?_) (fun c_90 => absurd c_90 (mneE (a := z_what.toInt) (b := 7) rfl (by decide +kernel) (by omega)))
    refine lv_iload_n (pc := 115) E.1 E.2.1 dX12_set_115 rfl (lv_at hl3 1 rfl) ?_
    refine lv_bipush (pc := 116) (v := 8) E.1 E.2.1 dX12_set_116 (by decide +kernel) ?_
    refine lv_icmp_ne (pc := 118) (tgt := 131) E.1 E.2.1 dX12_set_118 (by decide) (fun _ => ?_) (fun c_91 => absurd c_91 (mneE (a := z_what.toInt) (b := 8) rfl (by decide +kernel) (by omega)))
    refine lv_iload_n (pc := 131) E.1 E.2.1 dX12_set_131 rfl (lv_at hl3 1 rfl) ?_
    refine lv_bipush (pc := 132) (v := 9) E.1 E.2.1 dX12_set_132 (by decide +kernel) ?_
    refine lv_icmp_ne (pc := 134) (tgt := 144) E.1 E.2.1 dX12_set_134 (by decide) (fun _ => ?_) (fun c_92 => absurd c_92 (mneE (a := z_what.toInt) (b := 9) rfl (by decide +kernel) (by omega)))
    refine lv_iload_n (pc := 144) E.1 E.2.1 dX12_set_144 rfl (lv_at hl3 1 rfl) ?_
    refine lv_bipush (pc := 145) (v := 10) E.1 E.2.1 dX12_set_145 (by decide +kernel) ?_
    refine lv_icmp_ne (pc := 147) (tgt := 157) E.1 E.2.1 dX12_set_147 (by decide) (fun _ => ?_) (fun c_93 => absurd c_93 (mneE (a := z_what.toInt) (b := 10) rfl (by decide +kernel) (by omega)))
    refine lv_aload_n (pc := 157) E.1 E.2.1 dX12_set_157 rfl (lv_at hl3 0 rfl) ?_
    refine lv_iconst (pc := 158) (v := 0) E.1 E.2.1 dX12_set_158 (by decide +kernel) ?_
    refine x_put (pc := 159) (T := TX12) (N := 70) (ci := 12) (ws' := (MW cI cJ M mr (upd (upd mi 0 0) 3 0) (va_up mf 8 g_88) mg)) E hw89 inX12 tyX12_ok nmX12 0 3 q_1402 rfl rfl (by decide) rfl rfl rfl rfl (Nat.le_of_ble_eq_true rfl) rfl dX12_set_159 (fun H locs hw94 => ?_)
    refine lv_iconst (pc := 162) (v := 1) E.1 E.2.1 dX12_set_162 (by decide +kernel) ?_
    exact em_z (w1 := (fun (u : Int32 × (Nat → Int32) × Int32 × Int32 × Int32 × Int32 × (Nat → Int32) × (Nat → Int32) × (Nat → Int32) × Int32) => (MW cI cJ M mr (upd (upd (upd (upd (upd (upd mi 0 u.1) 12 u.2.2.1) 13 u.2.2.2.1) 14 u.2.2.2.2.1) 15 u.2.2.2.2.2.1) 3 u.2.2.2.2.2.2.2.2.2) (va_up (va_up (va_up (va_up mf 1 u.2.1) 8 u.2.2.2.2.2.2.1) 9 u.2.2.2.2.2.2.2.1) 10 u.2.2.2.2.2.2.2.2.1) mg))) E hr hlk (0, (mf 1), (mi 12), (mi 13), (mi 14), (mi 15), g_88, (mf 9), (mf 10), 0) hw94 ⟨h2, (by show 0 ≤ (0 : Int32).toInt ∧ (0 : Int32).toInt ≤ 6; have k_0 : (0 : Int32).toInt = 0 := (by decide +kernel); have k_1 : (0 : Int32).toInt = 0 := (by decide +kernel); have k_2 : (1 : Int32).toInt = 1 := (by decide +kernel); omega), rfl, rfl, rfl, rfl, (show rowsOK (0 : Int32).toInt (mi 6).toInt (mf 2) from (rowsOK_nil (by decide +kernel))), (show pplOK (mi 6).toInt g_88 from (pplOK_upd lf_people eg_88 (by omega))), (show RKN (0 : Int32).toInt (((mf 1) 0).toInt) (mf 2) from (RKN_nil (by first | omega | decide +kernel))), (show RKD (0 : Int32).toInt ((mf 1) 1) (mi 12).toInt (mf 2) from (RKD_nil (by first | omega | decide +kernel))), (show (((1 : Int32) = 1 ∧ ((z_what.toInt = 1 ∧ (mi 12).toInt = z_v.toInt) ∨ (z_what.toInt ≠ 1 ∧ (mi 12).toInt = (mi 12).toInt))) ∨ ((1 : Int32) = 0 ∧ (mi 12).toInt = (mi 12).toInt)) from (Or.inl ⟨rfl, by omega⟩)), (show ((SETC (mi 6).toInt z_what.toInt z_who.toInt z_v.toInt ∧ (1 : Int32) = 1 ∧ (0 : Int32).toInt = 0) ∨ (¬ SETC (mi 6).toInt z_what.toInt z_who.toInt z_v.toInt ∧ (1 : Int32) = 0 ∧ (0 : Int32).toInt = (mi 3).toInt)) from (Or.inl ⟨hp_9.mp rfl, rfl, by decide +kernel⟩)), (Or.inr (Or.inl ⟨rfl, rfl⟩))⟩ (by decide +kernel) (Nat.le_of_ble_eq_true rfl) (Nat.le_of_ble_eq_true rfl) dX12_set_163
  · skip
    have ha_23 : 0 ≤ z_what.toInt := ha_23
    have ha_24 : z_what.toInt ≤ 2 := ha_24
    refine lv_if_ne (pc := 12) (tgt := 17) E.1 E.2.1 dX12_set_12 (by decide) (fun _ => ?_) (fun c_95 => absurd c_95 (mneE (a := 1) (b := 0) (by decide +kernel) (by decide +kernel) (by omega)))
    refine lv_iload_n (pc := 17) E.1 E.2.1 dX12_set_17 rfl (lv_at hl3 1 rfl) ?_
    refine lv_if_ne (pc := 18) (tgt := 28) E.1 E.2.1 dX12_set_18 (by decide) (fun c_96 => ?_) (fun c_96 => ?_)
    · skip
      have hc_96 := neE (a := z_what.toInt) (b := 0) rfl (by decide +kernel) c_96
      refine lv_iload_n (pc := 28) E.1 E.2.1 dX12_set_28 rfl (lv_at hl3 1 rfl) ?_
      refine lv_iconst (pc := 29) (v := 1) E.1 E.2.1 dX12_set_29 (by decide +kernel) ?_
      refine lv_icmp_ne (pc := 30) (tgt := 38) E.1 E.2.1 dX12_set_30 (by decide) (fun c_97 => ?_) (fun c_97 => ?_)
      · skip
        have hc_97 := neE (a := z_what.toInt) (b := 1) rfl (by decide +kernel) c_97
        refine lv_iload_n (pc := 38) E.1 E.2.1 dX12_set_38 rfl (lv_at hl3 1 rfl) ?_
        refine lv_iconst (pc := 39) (v := 2) E.1 E.2.1 dX12_set_39 (by decide +kernel) ?_
        refine lv_icmp_ne (pc := 40) (tgt := 48) E.1 E.2.1 dX12_set_40 (by decide) (fun c_98 => absurd (meqE (a := z_what.toInt) (b := 2) rfl (by decide +kernel) (by omega)) c_98) (fun _ => ?_)
        refine lv_aload_n (pc := 43) E.1 E.2.1 dX12_set_43 rfl (lv_at hl3 0 rfl) ?_
        refine lv_iload_n (pc := 44) E.1 E.2.1 dX12_set_44 rfl (lv_at hl3 3 rfl) ?_
        refine x_put (pc := 45) (T := TX12) (N := 70) (ci := 12) (ws' := (MW cI cJ M mr (upd (upd mi 0 0) 13 z_v) mf mg)) E hw8 inX12 tyX12_ok nmX12 0 13 q_1412 rfl rfl (by decide) rfl rfl rfl rfl (Nat.le_of_ble_eq_true rfl) rfl dX12_set_45 (fun H locs hw99 => ?_)
        refine lv_iload_n (pc := 48) E.1 E.2.1 dX12_set_48 rfl (lv_at hl3 1 rfl) ?_
        refine lv_iconst (pc := 49) (v := 3) E.1 E.2.1 dX12_set_49 (by decide +kernel) ?_
        refine lv_icmp_ne (pc := 50) (tgt := 61) E.1 E.2.1 dX12_set_50 (by decide) (fun _ => ?_) (fun c_100 => absurd c_100 (mneE (a := z_what.toInt) (b := 3) rfl (by decide +kernel) (by omega)))
        refine lv_iload_n (pc := 61) E.1 E.2.1 dX12_set_61 rfl (lv_at hl3 1 rfl) ?_
        refine lv_iconst (pc := 62) (v := 4) E.1 E.2.1 dX12_set_62 (by decide +kernel) ?_
        refine lv_icmp_ne (pc := 63) (tgt := 74) E.1 E.2.1 dX12_set_63 (by decide) (fun _ => ?_) (fun c_101 => absurd c_101 (mneE (a := z_what.toInt) (b := 4) rfl (by decide +kernel) (by omega)))
        refine lv_iload_n (pc := 74) E.1 E.2.1 dX12_set_74 rfl (lv_at hl3 1 rfl) ?_
        refine lv_iconst (pc := 75) (v := 5) E.1 E.2.1 dX12_set_75 (by decide +kernel) ?_
        refine lv_icmp_ne (pc := 76) (tgt := 86) E.1 E.2.1 dX12_set_76 (by decide) (fun _ => ?_) (fun c_102 => absurd c_102 (mneE (a := z_what.toInt) (b := 5) rfl (by decide +kernel) (by omega)))
        refine lv_iload_n (pc := 86) E.1 E.2.1 dX12_set_86 rfl (lv_at hl3 1 rfl) ?_
        refine lv_bipush (pc := 87) (v := 6) E.1 E.2.1 dX12_set_87 (by decide +kernel) ?_
        refine lv_icmp_ne (pc := 89) (tgt := 99) E.1 E.2.1 dX12_set_89 (by decide) (fun _ => ?_) (fun c_103 => absurd c_103 (mneE (a := z_what.toInt) (b := 6) rfl (by decide +kernel) (by omega)))
        refine lv_iload_n (pc := 99) E.1 E.2.1 dX12_set_99 rfl (lv_at hl3 1 rfl) ?_
        refine lv_bipush (pc := 100) (v := 7) E.1 E.2.1 dX12_set_100 (by decide +kernel) ?_
        refine lv_icmp_ne (pc := 102) (tgt := 115) E.1 E.2.1 dX12_set_102 (by decide) (fun _ => ?_) (fun c_104 => absurd c_104 (mneE (a := z_what.toInt) (b := 7) rfl (by decide +kernel) (by omega)))
        refine lv_iload_n (pc := 115) E.1 E.2.1 dX12_set_115 rfl (lv_at hl3 1 rfl) ?_
        refine lv_bipush (pc := 116) (v := 8) E.1 E.2.1 dX12_set_116 (by decide +kernel) ?_
        refine lv_icmp_ne (pc := 118) (tgt := 131) E.1 E.2.1 dX12_set_118 (by decide) (fun _ => ?_) (fun c_105 => absurd c_105 (mneE (a := z_what.toInt) (b := 8) rfl (by decide +kernel) (by omega)))
        refine lv_iload_n (pc := 131) E.1 E.2.1 dX12_set_131 rfl (lv_at hl3 1 rfl) ?_
        refine lv_bipush (pc := 132) (v := 9) E.1 E.2.1 dX12_set_132 (by decide +kernel) ?_
        refine lv_icmp_ne (pc := 134) (tgt := 144) E.1 E.2.1 dX12_set_134 (by decide) (fun _ => ?_) (fun c_106 => absurd c_106 (mneE (a := z_what.toInt) (b := 9) rfl (by decide +kernel) (by omega)))
        refine lv_iload_n (pc := 144) E.1 E.2.1 dX12_set_144 rfl (lv_at hl3 1 rfl) ?_
        refine lv_bipush (pc := 145) (v := 10) E.1 E.2.1 dX12_set_145 (by decide +kernel) ?_
        refine lv_icmp_ne (pc := 147) (tgt := 157) E.1 E.2.1 dX12_set_147 (by decide) (fun _ => ?_) (fun c_107 => absurd c_107 (mneE (a := z_what.toInt) (b := 10) rfl (by decide +kernel) (by omega)))
        refine lv_aload_n (pc := 157) E.1 E.2.1 dX12_set_157 rfl (lv_at hl3 0 rfl) ?_
        refine lv_iconst (pc := 158) (v := 0) E.1 E.2.1 dX12_set_158 (by decide +kernel) ?_
        refine x_put (pc := 159) (T := TX12) (N := 70) (ci := 12) (ws' := (MW cI cJ M mr (upd (upd (upd mi 0 0) 3 0) 13 z_v) mf mg)) E hw99 inX12 tyX12_ok nmX12 0 3 q_1402 rfl rfl (by decide) rfl rfl rfl rfl (Nat.le_of_ble_eq_true rfl) rfl dX12_set_159 (fun H locs hw108 => ?_)
        refine lv_iconst (pc := 162) (v := 1) E.1 E.2.1 dX12_set_162 (by decide +kernel) ?_
        exact em_z (w1 := (fun (u : Int32 × (Nat → Int32) × Int32 × Int32 × Int32 × Int32 × (Nat → Int32) × (Nat → Int32) × (Nat → Int32) × Int32) => (MW cI cJ M mr (upd (upd (upd (upd (upd (upd mi 0 u.1) 12 u.2.2.1) 13 u.2.2.2.1) 14 u.2.2.2.2.1) 15 u.2.2.2.2.2.1) 3 u.2.2.2.2.2.2.2.2.2) (va_up (va_up (va_up (va_up mf 1 u.2.1) 8 u.2.2.2.2.2.2.1) 9 u.2.2.2.2.2.2.2.1) 10 u.2.2.2.2.2.2.2.2.1) mg))) E hr hlk (0, (mf 1), (mi 12), z_v, (mi 14), (mi 15), (mf 8), (mf 9), (mf 10), 0) hw108 ⟨h2, (by show 0 ≤ (0 : Int32).toInt ∧ (0 : Int32).toInt ≤ 6; have k_0 : (0 : Int32).toInt = 0 := (by decide +kernel); have k_1 : (0 : Int32).toInt = 0 := (by decide +kernel); have k_2 : (1 : Int32).toInt = 1 := (by decide +kernel); omega), rfl, rfl, rfl, rfl, (show rowsOK (0 : Int32).toInt (mi 6).toInt (mf 2) from (rowsOK_nil (by decide +kernel))), (show pplOK (mi 6).toInt (mf 8) from lf_people), (show RKN (0 : Int32).toInt (((mf 1) 0).toInt) (mf 2) from (RKN_nil (by first | omega | decide +kernel))), (show RKD (0 : Int32).toInt ((mf 1) 1) (mi 12).toInt (mf 2) from (RKD_nil (by first | omega | decide +kernel))), (show (((1 : Int32) = 1 ∧ ((z_what.toInt = 1 ∧ (mi 12).toInt = z_v.toInt) ∨ (z_what.toInt ≠ 1 ∧ (mi 12).toInt = (mi 12).toInt))) ∨ ((1 : Int32) = 0 ∧ (mi 12).toInt = (mi 12).toInt)) from (Or.inl ⟨rfl, by omega⟩)), (show ((SETC (mi 6).toInt z_what.toInt z_who.toInt z_v.toInt ∧ (1 : Int32) = 1 ∧ (0 : Int32).toInt = 0) ∨ (¬ SETC (mi 6).toInt z_what.toInt z_who.toInt z_v.toInt ∧ (1 : Int32) = 0 ∧ (0 : Int32).toInt = (mi 3).toInt)) from (Or.inl ⟨hp_9.mp rfl, rfl, by decide +kernel⟩)), (Or.inr (Or.inl ⟨rfl, rfl⟩))⟩ (by decide +kernel) (Nat.le_of_ble_eq_true rfl) (Nat.le_of_ble_eq_true rfl) dX12_set_163
      · skip
        have hc_97 := eqE (a := z_what.toInt) (b := 1) rfl (by decide +kernel) c_97
        refine lv_aload_n (pc := 33) E.1 E.2.1 dX12_set_33 rfl (lv_at hl3 0 rfl) ?_
        refine lv_iload_n (pc := 34) E.1 E.2.1 dX12_set_34 rfl (lv_at hl3 3 rfl) ?_
        refine x_put (pc := 35) (T := TX12) (N := 70) (ci := 12) (ws' := (MW cI cJ M mr (upd (upd mi 0 0) 12 z_v) mf mg)) E hw8 inX12 tyX12_ok nmX12 0 12 q_1411 rfl rfl (by decide) rfl rfl rfl rfl (Nat.le_of_ble_eq_true rfl) rfl dX12_set_35 (fun H locs hw109 => ?_)
        refine lv_iload_n (pc := 38) E.1 E.2.1 dX12_set_38 rfl (lv_at hl3 1 rfl) ?_
        refine lv_iconst (pc := 39) (v := 2) E.1 E.2.1 dX12_set_39 (by decide +kernel) ?_
        refine lv_icmp_ne (pc := 40) (tgt := 48) E.1 E.2.1 dX12_set_40 (by decide) (fun _ => ?_) (fun c_110 => absurd c_110 (mneE (a := z_what.toInt) (b := 2) rfl (by decide +kernel) (by omega)))
        refine lv_iload_n (pc := 48) E.1 E.2.1 dX12_set_48 rfl (lv_at hl3 1 rfl) ?_
        refine lv_iconst (pc := 49) (v := 3) E.1 E.2.1 dX12_set_49 (by decide +kernel) ?_
        refine lv_icmp_ne (pc := 50) (tgt := 61) E.1 E.2.1 dX12_set_50 (by decide) (fun _ => ?_) (fun c_111 => absurd c_111 (mneE (a := z_what.toInt) (b := 3) rfl (by decide +kernel) (by omega)))
        refine lv_iload_n (pc := 61) E.1 E.2.1 dX12_set_61 rfl (lv_at hl3 1 rfl) ?_
        refine lv_iconst (pc := 62) (v := 4) E.1 E.2.1 dX12_set_62 (by decide +kernel) ?_
        refine lv_icmp_ne (pc := 63) (tgt := 74) E.1 E.2.1 dX12_set_63 (by decide) (fun _ => ?_) (fun c_112 => absurd c_112 (mneE (a := z_what.toInt) (b := 4) rfl (by decide +kernel) (by omega)))
        refine lv_iload_n (pc := 74) E.1 E.2.1 dX12_set_74 rfl (lv_at hl3 1 rfl) ?_
        refine lv_iconst (pc := 75) (v := 5) E.1 E.2.1 dX12_set_75 (by decide +kernel) ?_
        refine lv_icmp_ne (pc := 76) (tgt := 86) E.1 E.2.1 dX12_set_76 (by decide) (fun _ => ?_) (fun c_113 => absurd c_113 (mneE (a := z_what.toInt) (b := 5) rfl (by decide +kernel) (by omega)))
        refine lv_iload_n (pc := 86) E.1 E.2.1 dX12_set_86 rfl (lv_at hl3 1 rfl) ?_
        refine lv_bipush (pc := 87) (v := 6) E.1 E.2.1 dX12_set_87 (by decide +kernel) ?_
        refine lv_icmp_ne (pc := 89) (tgt := 99) E.1 E.2.1 dX12_set_89 (by decide) (fun _ => ?_) (fun c_114 => absurd c_114 (mneE (a := z_what.toInt) (b := 6) rfl (by decide +kernel) (by omega)))
        refine lv_iload_n (pc := 99) E.1 E.2.1 dX12_set_99 rfl (lv_at hl3 1 rfl) ?_
        refine lv_bipush (pc := 100) (v := 7) E.1 E.2.1 dX12_set_100 (by decide +kernel) ?_
        refine lv_icmp_ne (pc := 102) (tgt := 115) E.1 E.2.1 dX12_set_102 (by decide) (fun _ => ?_) (fun c_115 => absurd c_115 (mneE (a := z_what.toInt) (b := 7) rfl (by decide +kernel) (by omega)))
        refine lv_iload_n (pc := 115) E.1 E.2.1 dX12_set_115 rfl (lv_at hl3 1 rfl) ?_
        refine lv_bipush (pc := 116) (v := 8) E.1 E.2.1 dX12_set_116 (by decide +kernel) ?_
        refine lv_icmp_ne (pc := 118) (tgt := 131) E.1 E.2.1 dX12_set_118 (by decide) (fun _ => ?_) (fun c_116 => absurd c_116 (mneE (a := z_what.toInt) (b := 8) rfl (by decide +kernel) (by omega)))
        refine lv_iload_n (pc := 131) E.1 E.2.1 dX12_set_131 rfl (lv_at hl3 1 rfl) ?_
        refine lv_bipush (pc := 132) (v := 9) E.1 E.2.1 dX12_set_132 (by decide +kernel) ?_
        refine lv_icmp_ne (pc := 134) (tgt := 144) E.1 E.2.1 dX12_set_134 (by decide) (fun _ => ?_) (fun c_117 => absurd c_117 (mneE (a := z_what.toInt) (b := 9) rfl (by decide +kernel) (by omega)))
        refine lv_iload_n (pc := 144) E.1 E.2.1 dX12_set_144 rfl (lv_at hl3 1 rfl) ?_
        refine lv_bipush (pc := 145) (v := 10) E.1 E.2.1 dX12_set_145 (by decide +kernel) ?_
        refine lv_icmp_ne (pc := 147) (tgt := 157) E.1 E.2.1 dX12_set_147 (by decide) (fun _ => ?_) (fun c_118 => absurd c_118 (mneE (a := z_what.toInt) (b := 10) rfl (by decide +kernel) (by omega)))
        refine lv_aload_n (pc := 157) E.1 E.2.1 dX12_set_157 rfl (lv_at hl3 0 rfl) ?_
        refine lv_iconst (pc := 158) (v := 0) E.1 E.2.1 dX12_set_158 (by decide +kernel) ?_
        refine x_put (pc := 159) (T := TX12) (N := 70) (ci := 12) (ws' := (MW cI cJ M mr (upd (upd (upd mi 0 0) 3 0) 12 z_v) mf mg)) E hw109 inX12 tyX12_ok nmX12 0 3 q_1402 rfl rfl (by decide) rfl rfl rfl rfl (Nat.le_of_ble_eq_true rfl) rfl dX12_set_159 (fun H locs hw119 => ?_)
        refine lv_iconst (pc := 162) (v := 1) E.1 E.2.1 dX12_set_162 (by decide +kernel) ?_
        exact em_z (w1 := (fun (u : Int32 × (Nat → Int32) × Int32 × Int32 × Int32 × Int32 × (Nat → Int32) × (Nat → Int32) × (Nat → Int32) × Int32) => (MW cI cJ M mr (upd (upd (upd (upd (upd (upd mi 0 u.1) 12 u.2.2.1) 13 u.2.2.2.1) 14 u.2.2.2.2.1) 15 u.2.2.2.2.2.1) 3 u.2.2.2.2.2.2.2.2.2) (va_up (va_up (va_up (va_up mf 1 u.2.1) 8 u.2.2.2.2.2.2.1) 9 u.2.2.2.2.2.2.2.1) 10 u.2.2.2.2.2.2.2.2.1) mg))) E hr hlk (0, (mf 1), z_v, (mi 13), (mi 14), (mi 15), (mf 8), (mf 9), (mf 10), 0) hw119 ⟨h2, (by show 0 ≤ (0 : Int32).toInt ∧ (0 : Int32).toInt ≤ 6; have k_0 : (0 : Int32).toInt = 0 := (by decide +kernel); have k_1 : (0 : Int32).toInt = 0 := (by decide +kernel); have k_2 : (1 : Int32).toInt = 1 := (by decide +kernel); omega), rfl, rfl, rfl, rfl, (show rowsOK (0 : Int32).toInt (mi 6).toInt (mf 2) from (rowsOK_nil (by decide +kernel))), (show pplOK (mi 6).toInt (mf 8) from lf_people), (show RKN (0 : Int32).toInt (((mf 1) 0).toInt) (mf 2) from (RKN_nil (by first | omega | decide +kernel))), (show RKD (0 : Int32).toInt ((mf 1) 1) z_v.toInt (mf 2) from (RKD_nil (by first | omega | decide +kernel))), (show (((1 : Int32) = 1 ∧ ((z_what.toInt = 1 ∧ z_v.toInt = z_v.toInt) ∨ (z_what.toInt ≠ 1 ∧ z_v.toInt = (mi 12).toInt))) ∨ ((1 : Int32) = 0 ∧ z_v.toInt = (mi 12).toInt)) from (Or.inl ⟨rfl, by omega⟩)), (show ((SETC (mi 6).toInt z_what.toInt z_who.toInt z_v.toInt ∧ (1 : Int32) = 1 ∧ (0 : Int32).toInt = 0) ∨ (¬ SETC (mi 6).toInt z_what.toInt z_who.toInt z_v.toInt ∧ (1 : Int32) = 0 ∧ (0 : Int32).toInt = (mi 3).toInt)) from (Or.inl ⟨hp_9.mp rfl, rfl, by decide +kernel⟩)), (Or.inr (Or.inl ⟨rfl, rfl⟩))⟩ (by decide +kernel) (Nat.le_of_ble_eq_true rfl) (Nat.le_of_ble_eq_true rfl) dX12_set_163
    · skip
      have hc_96 := eqE (a := z_what.toInt) (b := 0) rfl (by decide +kernel) c_96
      refine lv_aload_n (pc := 21) E.1 E.2.1 dX12_set_21 rfl (lv_at hl3 0 rfl) ?_
      refine x_get (pc := 22) (T := TX12) (N := 70) (ci := 12) (v := .ref (mr 1)) E hw8 inX12 0 1 q_1400 rfl rfl (by decide) rfl rfl dX12_set_22 ?_
      refine lv_iconst (pc := 25) (v := 4) E.1 E.2.1 dX12_set_25 (by decide +kernel) ?_
      refine lv_iload_n (pc := 26) E.1 E.2.1 dX12_set_26 rfl (lv_at hl3 3 rfl) ?_
      refine x_iastG (pc := 27) (f := (mf 1)) (wf := fun g => (MW cI cJ M mr (upd mi 0 0) (va_up mf 1 g) mg)) E hw8 1 rfl (inbE (a := 4) (by decide +kernel) (by omega)) (fun _ => rfl) dX12_set_27 (fun g_120 H locs eg_120 hw121 => ?_)
      have ht_122 : (g_120 0).toInt = ((mf 1) 0).toInt := by rw [eg_120]; rfl
      have ht_123 : (g_120 1).toInt = ((mf 1) 1).toInt := by rw [eg_120]; rfl
      have ht_124 : (g_120 2).toInt = ((mf 1) 2).toInt := by rw [eg_120]; rfl
      have ht_125 : (g_120 3).toInt = ((mf 1) 3).toInt := by rw [eg_120]; rfl
      have ht_126 : (g_120 5).toInt = ((mf 1) 5).toInt := by rw [eg_120]; rfl
      refine lv_iload_n (pc := 28) E.1 E.2.1 dX12_set_28 rfl (lv_at hl3 1 rfl) ?_
      refine lv_iconst (pc := 29) (v := 1) E.1 E.2.1 dX12_set_29 (by decide +kernel) ?_
      refine lv_icmp_ne (pc := 30) (tgt := 38) E.1 E.2.1 dX12_set_30 (by decide) (fun _ => ?_) (fun c_127 => absurd c_127 (mneE (a := z_what.toInt) (b := 1) rfl (by decide +kernel) (by omega)))
      refine lv_iload_n (pc := 38) E.1 E.2.1 dX12_set_38 rfl (lv_at hl3 1 rfl) ?_
      refine lv_iconst (pc := 39) (v := 2) E.1 E.2.1 dX12_set_39 (by decide +kernel) ?_
      refine lv_icmp_ne (pc := 40) (tgt := 48) E.1 E.2.1 dX12_set_40 (by decide) (fun _ => ?_) (fun c_128 => absurd c_128 (mneE (a := z_what.toInt) (b := 2) rfl (by decide +kernel) (by omega)))
      refine lv_iload_n (pc := 48) E.1 E.2.1 dX12_set_48 rfl (lv_at hl3 1 rfl) ?_
      refine lv_iconst (pc := 49) (v := 3) E.1 E.2.1 dX12_set_49 (by decide +kernel) ?_
      refine lv_icmp_ne (pc := 50) (tgt := 61) E.1 E.2.1 dX12_set_50 (by decide) (fun _ => ?_) (fun c_129 => absurd c_129 (mneE (a := z_what.toInt) (b := 3) rfl (by decide +kernel) (by omega)))
      refine lv_iload_n (pc := 61) E.1 E.2.1 dX12_set_61 rfl (lv_at hl3 1 rfl) ?_
      refine lv_iconst (pc := 62) (v := 4) E.1 E.2.1 dX12_set_62 (by decide +kernel) ?_
      refine lv_icmp_ne (pc := 63) (tgt := 74) E.1 E.2.1 dX12_set_63 (by decide) (fun _ => ?_) (fun c_130 => absurd c_130 (mneE (a := z_what.toInt) (b := 4) rfl (by decide +kernel) (by omega)))
      refine lv_iload_n (pc := 74) E.1 E.2.1 dX12_set_74 rfl (lv_at hl3 1 rfl) ?_
      refine lv_iconst (pc := 75) (v := 5) E.1 E.2.1 dX12_set_75 (by decide +kernel) ?_
      refine lv_icmp_ne (pc := 76) (tgt := 86) E.1 E.2.1 dX12_set_76 (by decide) (fun _ => ?_) (fun c_131 => absurd c_131 (mneE (a := z_what.toInt) (b := 5) rfl (by decide +kernel) (by omega)))
      refine lv_iload_n (pc := 86) E.1 E.2.1 dX12_set_86 rfl (lv_at hl3 1 rfl) ?_
      refine lv_bipush (pc := 87) (v := 6) E.1 E.2.1 dX12_set_87 (by decide +kernel) ?_
      refine lv_icmp_ne (pc := 89) (tgt := 99) E.1 E.2.1 dX12_set_89 (by decide) (fun _ => ?_) (fun c_132 => absurd c_132 (mneE (a := z_what.toInt) (b := 6) rfl (by decide +kernel) (by omega)))
      refine lv_iload_n (pc := 99) E.1 E.2.1 dX12_set_99 rfl (lv_at hl3 1 rfl) ?_
      refine lv_bipush (pc := 100) (v := 7) E.1 E.2.1 dX12_set_100 (by decide +kernel) ?_
      refine lv_icmp_ne (pc := 102) (tgt := 115) E.1 E.2.1 dX12_set_102 (by decide) (fun _ => ?_) (fun c_133 => absurd c_133 (mneE (a := z_what.toInt) (b := 7) rfl (by decide +kernel) (by omega)))
      refine lv_iload_n (pc := 115) E.1 E.2.1 dX12_set_115 rfl (lv_at hl3 1 rfl) ?_
      refine lv_bipush (pc := 116) (v := 8) E.1 E.2.1 dX12_set_116 (by decide +kernel) ?_
      refine lv_icmp_ne (pc := 118) (tgt := 131) E.1 E.2.1 dX12_set_118 (by decide) (fun _ => ?_) (fun c_134 => absurd c_134 (mneE (a := z_what.toInt) (b := 8) rfl (by decide +kernel) (by omega)))
      refine lv_iload_n (pc := 131) E.1 E.2.1 dX12_set_131 rfl (lv_at hl3 1 rfl) ?_
      refine lv_bipush (pc := 132) (v := 9) E.1 E.2.1 dX12_set_132 (by decide +kernel) ?_
      refine lv_icmp_ne (pc := 134) (tgt := 144) E.1 E.2.1 dX12_set_134 (by decide) (fun _ => ?_) (fun c_135 => absurd c_135 (mneE (a := z_what.toInt) (b := 9) rfl (by decide +kernel) (by omega)))
      refine lv_iload_n (pc := 144) E.1 E.2.1 dX12_set_144 rfl (lv_at hl3 1 rfl) ?_
      refine lv_bipush (pc := 145) (v := 10) E.1 E.2.1 dX12_set_145 (by decide +kernel) ?_
      refine lv_icmp_ne (pc := 147) (tgt := 157) E.1 E.2.1 dX12_set_147 (by decide) (fun _ => ?_) (fun c_136 => absurd c_136 (mneE (a := z_what.toInt) (b := 10) rfl (by decide +kernel) (by omega)))
      refine lv_aload_n (pc := 157) E.1 E.2.1 dX12_set_157 rfl (lv_at hl3 0 rfl) ?_
      refine lv_iconst (pc := 158) (v := 0) E.1 E.2.1 dX12_set_158 (by decide +kernel) ?_
      refine x_put (pc := 159) (T := TX12) (N := 70) (ci := 12) (ws' := (MW cI cJ M mr (upd (upd mi 0 0) 3 0) (va_up mf 1 g_120) mg)) E hw121 inX12 tyX12_ok nmX12 0 3 q_1402 rfl rfl (by decide) rfl rfl rfl rfl (Nat.le_of_ble_eq_true rfl) rfl dX12_set_159 (fun H locs hw137 => ?_)
      refine lv_iconst (pc := 162) (v := 1) E.1 E.2.1 dX12_set_162 (by decide +kernel) ?_
      exact em_z (w1 := (fun (u : Int32 × (Nat → Int32) × Int32 × Int32 × Int32 × Int32 × (Nat → Int32) × (Nat → Int32) × (Nat → Int32) × Int32) => (MW cI cJ M mr (upd (upd (upd (upd (upd (upd mi 0 u.1) 12 u.2.2.1) 13 u.2.2.2.1) 14 u.2.2.2.2.1) 15 u.2.2.2.2.2.1) 3 u.2.2.2.2.2.2.2.2.2) (va_up (va_up (va_up (va_up mf 1 u.2.1) 8 u.2.2.2.2.2.2.1) 9 u.2.2.2.2.2.2.2.1) 10 u.2.2.2.2.2.2.2.2.1) mg))) E hr hlk (0, g_120, (mi 12), (mi 13), (mi 14), (mi 15), (mf 8), (mf 9), (mf 10), 0) hw137 ⟨h2, (by show 0 ≤ (0 : Int32).toInt ∧ (0 : Int32).toInt ≤ 6; have k_0 : (0 : Int32).toInt = 0 := (by decide +kernel); have k_1 : (0 : Int32).toInt = 0 := (by decide +kernel); have k_2 : (1 : Int32).toInt = 1 := (by decide +kernel); omega), (by show (g_120 2).toInt = ((mf 1) 2).toInt; have k_0 : (0 : Int32).toInt = 0 := (by decide +kernel); have k_1 : (0 : Int32).toInt = 0 := (by decide +kernel); have k_2 : (1 : Int32).toInt = 1 := (by decide +kernel); omega), (by show (g_120 5).toInt = ((mf 1) 5).toInt; have k_0 : (0 : Int32).toInt = 0 := (by decide +kernel); have k_1 : (0 : Int32).toInt = 0 := (by decide +kernel); have k_2 : (1 : Int32).toInt = 1 := (by decide +kernel); omega), (by show (g_120 0).toInt = ((mf 1) 0).toInt; have k_0 : (0 : Int32).toInt = 0 := (by decide +kernel); have k_1 : (0 : Int32).toInt = 0 := (by decide +kernel); have k_2 : (1 : Int32).toInt = 1 := (by decide +kernel); omega), (by show (g_120 1).toInt = ((mf 1) 1).toInt; have k_0 : (0 : Int32).toInt = 0 := (by decide +kernel); have k_1 : (0 : Int32).toInt = 0 := (by decide +kernel); have k_2 : (1 : Int32).toInt = 1 := (by decide +kernel); omega), (show rowsOK (0 : Int32).toInt (mi 6).toInt (mf 2) from (rowsOK_nil (by decide +kernel))), (show pplOK (mi 6).toInt (mf 8) from lf_people), (show RKN (0 : Int32).toInt ((g_120 0).toInt) (mf 2) from (RKN_nil (by first | omega | decide +kernel))), (show RKD (0 : Int32).toInt (g_120 1) (mi 12).toInt (mf 2) from (RKD_nil (by first | omega | decide +kernel))), (show (((1 : Int32) = 1 ∧ ((z_what.toInt = 1 ∧ (mi 12).toInt = z_v.toInt) ∨ (z_what.toInt ≠ 1 ∧ (mi 12).toInt = (mi 12).toInt))) ∨ ((1 : Int32) = 0 ∧ (mi 12).toInt = (mi 12).toInt)) from (Or.inl ⟨rfl, by omega⟩)), (show ((SETC (mi 6).toInt z_what.toInt z_who.toInt z_v.toInt ∧ (1 : Int32) = 1 ∧ (0 : Int32).toInt = 0) ∨ (¬ SETC (mi 6).toInt z_what.toInt z_who.toInt z_v.toInt ∧ (1 : Int32) = 0 ∧ (0 : Int32).toInt = (mi 3).toInt)) from (Or.inl ⟨hp_9.mp rfl, rfl, by decide +kernel⟩)), (Or.inr (Or.inl ⟨rfl, (by show (g_120 3).toInt = ((mf 1) 3).toInt; omega)⟩))⟩ (by decide +kernel) (Nat.le_of_ble_eq_true rfl) (Nat.le_of_ble_eq_true rfl) dX12_set_163
  · skip
    have ha_25 : 7 ≤ z_what.toInt := ha_25
    have ha_26 : z_what.toInt ≤ 10 := ha_26
    have ha_27 : 0 ≤ z_who.toInt := ha_27
    have ha_28 : z_who.toInt + 1 ≤ (mi 6).toInt := ha_28
    refine lv_if_ne (pc := 12) (tgt := 17) E.1 E.2.1 dX12_set_12 (by decide) (fun _ => ?_) (fun c_138 => absurd c_138 (mneE (a := 1) (b := 0) (by decide +kernel) (by decide +kernel) (by omega)))
    refine lv_iload_n (pc := 17) E.1 E.2.1 dX12_set_17 rfl (lv_at hl3 1 rfl) ?_
    refine lv_if_ne (pc := 18) (tgt := 28) E.1 E.2.1 dX12_set_18 (by decide) (fun _ => ?_) (fun c_139 => absurd c_139 (mneE (a := z_what.toInt) (b := 0) rfl (by decide +kernel) (by omega)))
    refine lv_iload_n (pc := 28) E.1 E.2.1 dX12_set_28 rfl (lv_at hl3 1 rfl) ?_
    refine lv_iconst (pc := 29) (v := 1) E.1 E.2.1 dX12_set_29 (by decide +kernel) ?_
    refine lv_icmp_ne (pc := 30) (tgt := 38) E.1 E.2.1 dX12_set_30 (by decide) (fun _ => ?_) (fun c_140 => absurd c_140 (mneE (a := z_what.toInt) (b := 1) rfl (by decide +kernel) (by omega)))
    refine lv_iload_n (pc := 38) E.1 E.2.1 dX12_set_38 rfl (lv_at hl3 1 rfl) ?_
    refine lv_iconst (pc := 39) (v := 2) E.1 E.2.1 dX12_set_39 (by decide +kernel) ?_
    refine lv_icmp_ne (pc := 40) (tgt := 48) E.1 E.2.1 dX12_set_40 (by decide) (fun _ => ?_) (fun c_141 => absurd c_141 (mneE (a := z_what.toInt) (b := 2) rfl (by decide +kernel) (by omega)))
    refine lv_iload_n (pc := 48) E.1 E.2.1 dX12_set_48 rfl (lv_at hl3 1 rfl) ?_
    refine lv_iconst (pc := 49) (v := 3) E.1 E.2.1 dX12_set_49 (by decide +kernel) ?_
    refine lv_icmp_ne (pc := 50) (tgt := 61) E.1 E.2.1 dX12_set_50 (by decide) (fun _ => ?_) (fun c_142 => absurd c_142 (mneE (a := z_what.toInt) (b := 3) rfl (by decide +kernel) (by omega)))
    refine lv_iload_n (pc := 61) E.1 E.2.1 dX12_set_61 rfl (lv_at hl3 1 rfl) ?_
    refine lv_iconst (pc := 62) (v := 4) E.1 E.2.1 dX12_set_62 (by decide +kernel) ?_
    refine lv_icmp_ne (pc := 63) (tgt := 74) E.1 E.2.1 dX12_set_63 (by decide) (fun _ => ?_) (fun c_143 => absurd c_143 (mneE (a := z_what.toInt) (b := 4) rfl (by decide +kernel) (by omega)))
    refine lv_iload_n (pc := 74) E.1 E.2.1 dX12_set_74 rfl (lv_at hl3 1 rfl) ?_
    refine lv_iconst (pc := 75) (v := 5) E.1 E.2.1 dX12_set_75 (by decide +kernel) ?_
    refine lv_icmp_ne (pc := 76) (tgt := 86) E.1 E.2.1 dX12_set_76 (by decide) (fun _ => ?_) (fun c_144 => absurd c_144 (mneE (a := z_what.toInt) (b := 5) rfl (by decide +kernel) (by omega)))
    refine lv_iload_n (pc := 86) E.1 E.2.1 dX12_set_86 rfl (lv_at hl3 1 rfl) ?_
    refine lv_bipush (pc := 87) (v := 6) E.1 E.2.1 dX12_set_87 (by decide +kernel) ?_
    refine lv_icmp_ne (pc := 89) (tgt := 99) E.1 E.2.1 dX12_set_89 (by decide) (fun _ => ?_) (fun c_145 => absurd c_145 (mneE (a := z_what.toInt) (b := 6) rfl (by decide +kernel) (by omega)))
    refine lv_iload_n (pc := 99) E.1 E.2.1 dX12_set_99 rfl (lv_at hl3 1 rfl) ?_
    refine lv_bipush (pc := 100) (v := 7) E.1 E.2.1 dX12_set_100 (by decide +kernel) ?_
    refine lv_icmp_ne (pc := 102) (tgt := 115) E.1 E.2.1 dX12_set_102 (by decide) (fun c_146 => ?_) (fun c_146 => ?_)
    · skip
      have hc_146 := neE (a := z_what.toInt) (b := 7) rfl (by decide +kernel) c_146
      refine lv_iload_n (pc := 115) E.1 E.2.1 dX12_set_115 rfl (lv_at hl3 1 rfl) ?_
      refine lv_bipush (pc := 116) (v := 8) E.1 E.2.1 dX12_set_116 (by decide +kernel) ?_
      refine lv_icmp_ne (pc := 118) (tgt := 131) E.1 E.2.1 dX12_set_118 (by decide) (fun c_147 => ?_) (fun c_147 => ?_)
      · skip
        have hc_147 := neE (a := z_what.toInt) (b := 8) rfl (by decide +kernel) c_147
        refine lv_iload_n (pc := 131) E.1 E.2.1 dX12_set_131 rfl (lv_at hl3 1 rfl) ?_
        refine lv_bipush (pc := 132) (v := 9) E.1 E.2.1 dX12_set_132 (by decide +kernel) ?_
        refine lv_icmp_ne (pc := 134) (tgt := 144) E.1 E.2.1 dX12_set_134 (by decide) (fun c_148 => ?_) (fun c_148 => ?_)
        · skip
          have hc_148 := neE (a := z_what.toInt) (b := 9) rfl (by decide +kernel) c_148
          refine lv_iload_n (pc := 144) E.1 E.2.1 dX12_set_144 rfl (lv_at hl3 1 rfl) ?_
          refine lv_bipush (pc := 145) (v := 10) E.1 E.2.1 dX12_set_145 (by decide +kernel) ?_
          refine lv_icmp_ne (pc := 147) (tgt := 157) E.1 E.2.1 dX12_set_147 (by decide) (fun c_149 => absurd (meqE (a := z_what.toInt) (b := 10) rfl (by decide +kernel) (by omega)) c_149) (fun _ => ?_)
          refine lv_aload_n (pc := 150) E.1 E.2.1 dX12_set_150 rfl (lv_at hl3 0 rfl) ?_
          refine x_get (pc := 151) (T := TX12) (N := 70) (ci := 12) (v := .ref (mr 10)) E hw8 inX12 0 10 q_1409 rfl rfl (by decide) rfl rfl dX12_set_151 ?_
          refine lv_iload_n (pc := 154) E.1 E.2.1 dX12_set_154 rfl (lv_at hl3 2 rfl) ?_
          refine lv_iload_n (pc := 155) E.1 E.2.1 dX12_set_155 rfl (lv_at hl3 3 rfl) ?_
          refine x_iastG (pc := 156) (f := (mf 10)) (wf := fun g => (MW cI cJ M mr (upd mi 0 0) (va_up mf 10 g) mg)) E hw8 7 rfl (inbE (a := z_who.toInt) rfl (by omega)) (fun _ => rfl) dX12_set_156 (fun g_150 H locs eg_150 hw151 => ?_)
          refine lv_aload_n (pc := 157) E.1 E.2.1 dX12_set_157 rfl (lv_at hl3 0 rfl) ?_
          refine lv_iconst (pc := 158) (v := 0) E.1 E.2.1 dX12_set_158 (by decide +kernel) ?_
          refine x_put (pc := 159) (T := TX12) (N := 70) (ci := 12) (ws' := (MW cI cJ M mr (upd (upd mi 0 0) 3 0) (va_up mf 10 g_150) mg)) E hw151 inX12 tyX12_ok nmX12 0 3 q_1402 rfl rfl (by decide) rfl rfl rfl rfl (Nat.le_of_ble_eq_true rfl) rfl dX12_set_159 (fun H locs hw152 => ?_)
          refine lv_iconst (pc := 162) (v := 1) E.1 E.2.1 dX12_set_162 (by decide +kernel) ?_
          exact em_z (w1 := (fun (u : Int32 × (Nat → Int32) × Int32 × Int32 × Int32 × Int32 × (Nat → Int32) × (Nat → Int32) × (Nat → Int32) × Int32) => (MW cI cJ M mr (upd (upd (upd (upd (upd (upd mi 0 u.1) 12 u.2.2.1) 13 u.2.2.2.1) 14 u.2.2.2.2.1) 15 u.2.2.2.2.2.1) 3 u.2.2.2.2.2.2.2.2.2) (va_up (va_up (va_up (va_up mf 1 u.2.1) 8 u.2.2.2.2.2.2.1) 9 u.2.2.2.2.2.2.2.1) 10 u.2.2.2.2.2.2.2.2.1) mg))) E hr hlk (0, (mf 1), (mi 12), (mi 13), (mi 14), (mi 15), (mf 8), (mf 9), g_150, 0) hw152 ⟨h2, (by show 0 ≤ (0 : Int32).toInt ∧ (0 : Int32).toInt ≤ 6; have k_0 : (0 : Int32).toInt = 0 := (by decide +kernel); have k_1 : (0 : Int32).toInt = 0 := (by decide +kernel); have k_2 : (1 : Int32).toInt = 1 := (by decide +kernel); omega), rfl, rfl, rfl, rfl, (show rowsOK (0 : Int32).toInt (mi 6).toInt (mf 2) from (rowsOK_nil (by decide +kernel))), (show pplOK (mi 6).toInt (mf 8) from lf_people), (show RKN (0 : Int32).toInt (((mf 1) 0).toInt) (mf 2) from (RKN_nil (by first | omega | decide +kernel))), (show RKD (0 : Int32).toInt ((mf 1) 1) (mi 12).toInt (mf 2) from (RKD_nil (by first | omega | decide +kernel))), (show (((1 : Int32) = 1 ∧ ((z_what.toInt = 1 ∧ (mi 12).toInt = z_v.toInt) ∨ (z_what.toInt ≠ 1 ∧ (mi 12).toInt = (mi 12).toInt))) ∨ ((1 : Int32) = 0 ∧ (mi 12).toInt = (mi 12).toInt)) from (Or.inl ⟨rfl, by omega⟩)), (show ((SETC (mi 6).toInt z_what.toInt z_who.toInt z_v.toInt ∧ (1 : Int32) = 1 ∧ (0 : Int32).toInt = 0) ∨ (¬ SETC (mi 6).toInt z_what.toInt z_who.toInt z_v.toInt ∧ (1 : Int32) = 0 ∧ (0 : Int32).toInt = (mi 3).toInt)) from (Or.inl ⟨hp_9.mp rfl, rfl, by decide +kernel⟩)), (Or.inr (Or.inl ⟨rfl, rfl⟩))⟩ (by decide +kernel) (Nat.le_of_ble_eq_true rfl) (Nat.le_of_ble_eq_true rfl) dX12_set_163
        · skip
          have hc_148 := eqE (a := z_what.toInt) (b := 9) rfl (by decide +kernel) c_148
          refine lv_aload_n (pc := 137) E.1 E.2.1 dX12_set_137 rfl (lv_at hl3 0 rfl) ?_
          refine x_get (pc := 138) (T := TX12) (N := 70) (ci := 12) (v := .ref (mr 9)) E hw8 inX12 0 9 q_1408 rfl rfl (by decide) rfl rfl dX12_set_138 ?_
          refine lv_iload_n (pc := 141) E.1 E.2.1 dX12_set_141 rfl (lv_at hl3 2 rfl) ?_
          refine lv_iload_n (pc := 142) E.1 E.2.1 dX12_set_142 rfl (lv_at hl3 3 rfl) ?_
          refine x_iastG (pc := 143) (f := (mf 9)) (wf := fun g => (MW cI cJ M mr (upd mi 0 0) (va_up mf 9 g) mg)) E hw8 6 rfl (inbE (a := z_who.toInt) rfl (by omega)) (fun _ => rfl) dX12_set_143 (fun g_153 H locs eg_153 hw154 => ?_)
          refine lv_iload_n (pc := 144) E.1 E.2.1 dX12_set_144 rfl (lv_at hl3 1 rfl) ?_
          refine lv_bipush (pc := 145) (v := 10) E.1 E.2.1 dX12_set_145 (by decide +kernel) ?_
          refine lv_icmp_ne (pc := 147) (tgt := 157) E.1 E.2.1 dX12_set_147 (by decide) (fun _ => ?_) (fun c_155 => absurd c_155 (mneE (a := z_what.toInt) (b := 10) rfl (by decide +kernel) (by omega)))
          refine lv_aload_n (pc := 157) E.1 E.2.1 dX12_set_157 rfl (lv_at hl3 0 rfl) ?_
          refine lv_iconst (pc := 158) (v := 0) E.1 E.2.1 dX12_set_158 (by decide +kernel) ?_
          refine x_put (pc := 159) (T := TX12) (N := 70) (ci := 12) (ws' := (MW cI cJ M mr (upd (upd mi 0 0) 3 0) (va_up mf 9 g_153) mg)) E hw154 inX12 tyX12_ok nmX12 0 3 q_1402 rfl rfl (by decide) rfl rfl rfl rfl (Nat.le_of_ble_eq_true rfl) rfl dX12_set_159 (fun H locs hw156 => ?_)
          refine lv_iconst (pc := 162) (v := 1) E.1 E.2.1 dX12_set_162 (by decide +kernel) ?_
          exact em_z (w1 := (fun (u : Int32 × (Nat → Int32) × Int32 × Int32 × Int32 × Int32 × (Nat → Int32) × (Nat → Int32) × (Nat → Int32) × Int32) => (MW cI cJ M mr (upd (upd (upd (upd (upd (upd mi 0 u.1) 12 u.2.2.1) 13 u.2.2.2.1) 14 u.2.2.2.2.1) 15 u.2.2.2.2.2.1) 3 u.2.2.2.2.2.2.2.2.2) (va_up (va_up (va_up (va_up mf 1 u.2.1) 8 u.2.2.2.2.2.2.1) 9 u.2.2.2.2.2.2.2.1) 10 u.2.2.2.2.2.2.2.2.1) mg))) E hr hlk (0, (mf 1), (mi 12), (mi 13), (mi 14), (mi 15), (mf 8), g_153, (mf 10), 0) hw156 ⟨h2, (by show 0 ≤ (0 : Int32).toInt ∧ (0 : Int32).toInt ≤ 6; have k_0 : (0 : Int32).toInt = 0 := (by decide +kernel); have k_1 : (0 : Int32).toInt = 0 := (by decide +kernel); have k_2 : (1 : Int32).toInt = 1 := (by decide +kernel); omega), rfl, rfl, rfl, rfl, (show rowsOK (0 : Int32).toInt (mi 6).toInt (mf 2) from (rowsOK_nil (by decide +kernel))), (show pplOK (mi 6).toInt (mf 8) from lf_people), (show RKN (0 : Int32).toInt (((mf 1) 0).toInt) (mf 2) from (RKN_nil (by first | omega | decide +kernel))), (show RKD (0 : Int32).toInt ((mf 1) 1) (mi 12).toInt (mf 2) from (RKD_nil (by first | omega | decide +kernel))), (show (((1 : Int32) = 1 ∧ ((z_what.toInt = 1 ∧ (mi 12).toInt = z_v.toInt) ∨ (z_what.toInt ≠ 1 ∧ (mi 12).toInt = (mi 12).toInt))) ∨ ((1 : Int32) = 0 ∧ (mi 12).toInt = (mi 12).toInt)) from (Or.inl ⟨rfl, by omega⟩)), (show ((SETC (mi 6).toInt z_what.toInt z_who.toInt z_v.toInt ∧ (1 : Int32) = 1 ∧ (0 : Int32).toInt = 0) ∨ (¬ SETC (mi 6).toInt z_what.toInt z_who.toInt z_v.toInt ∧ (1 : Int32) = 0 ∧ (0 : Int32).toInt = (mi 3).toInt)) from (Or.inl ⟨hp_9.mp rfl, rfl, by decide +kernel⟩)), (Or.inr (Or.inl ⟨rfl, rfl⟩))⟩ (by decide +kernel) (Nat.le_of_ble_eq_true rfl) (Nat.le_of_ble_eq_true rfl) dX12_set_163
      · skip
        have hc_147 := eqE (a := z_what.toInt) (b := 8) rfl (by decide +kernel) c_147
        refine lv_aload_n (pc := 121) E.1 E.2.1 dX12_set_121 rfl (lv_at hl3 0 rfl) ?_
        refine x_get (pc := 122) (T := TX12) (N := 70) (ci := 12) (v := .ref (mr 1)) E hw8 inX12 0 1 q_1400 rfl rfl (by decide) rfl rfl dX12_set_122 ?_
        refine lv_bipush (pc := 125) (v := 16) E.1 E.2.1 dX12_set_125 (by decide +kernel) ?_
        refine lv_iload_n (pc := 127) E.1 E.2.1 dX12_set_127 rfl (lv_at hl3 2 rfl) ?_
        refine lv_iadd (pc := 128) E.1 E.2.1 dX12_set_128 ?_
        refine lv_topi (fun v_157 ev_157 => ?_)
        have hv_157 : v_157.toInt = 16 + z_who.toInt := by rw [ev_157]; exact addE (by decide +kernel) rfl (by omega)
        refine lv_iload_n (pc := 129) E.1 E.2.1 dX12_set_129 rfl (lv_at hl3 3 rfl) ?_
        refine x_iastG (pc := 130) (f := (mf 1)) (wf := fun g => (MW cI cJ M mr (upd mi 0 0) (va_up mf 1 g) mg)) E hw8 1 rfl (inbE (a := v_157.toInt) rfl (by omega)) (fun _ => rfl) dX12_set_130 (fun g_158 H locs eg_158 hw159 => ?_)
        have ht_160 : (g_158 0).toInt = ((mf 1) 0).toInt := by rw [eg_158, pk_un (by have q9 := idxI (x := v_157) (by omega); omega)]
        have ht_161 : (g_158 1).toInt = ((mf 1) 1).toInt := by rw [eg_158, pk_un (by have q9 := idxI (x := v_157) (by omega); omega)]
        have ht_162 : (g_158 2).toInt = ((mf 1) 2).toInt := by rw [eg_158, pk_un (by have q9 := idxI (x := v_157) (by omega); omega)]
        have ht_163 : (g_158 3).toInt = ((mf 1) 3).toInt := by rw [eg_158, pk_un (by have q9 := idxI (x := v_157) (by omega); omega)]
        have ht_164 : (g_158 5).toInt = ((mf 1) 5).toInt := by rw [eg_158, pk_un (by have q9 := idxI (x := v_157) (by omega); omega)]
        refine lv_iload_n (pc := 131) E.1 E.2.1 dX12_set_131 rfl (lv_at hl3 1 rfl) ?_
        refine lv_bipush (pc := 132) (v := 9) E.1 E.2.1 dX12_set_132 (by decide +kernel) ?_
        refine lv_icmp_ne (pc := 134) (tgt := 144) E.1 E.2.1 dX12_set_134 (by decide) (fun _ => ?_) (fun c_165 => absurd c_165 (mneE (a := z_what.toInt) (b := 9) rfl (by decide +kernel) (by omega)))
        refine lv_iload_n (pc := 144) E.1 E.2.1 dX12_set_144 rfl (lv_at hl3 1 rfl) ?_
        refine lv_bipush (pc := 145) (v := 10) E.1 E.2.1 dX12_set_145 (by decide +kernel) ?_
        refine lv_icmp_ne (pc := 147) (tgt := 157) E.1 E.2.1 dX12_set_147 (by decide) (fun _ => ?_) (fun c_166 => absurd c_166 (mneE (a := z_what.toInt) (b := 10) rfl (by decide +kernel) (by omega)))
        refine lv_aload_n (pc := 157) E.1 E.2.1 dX12_set_157 rfl (lv_at hl3 0 rfl) ?_
        refine lv_iconst (pc := 158) (v := 0) E.1 E.2.1 dX12_set_158 (by decide +kernel) ?_
        refine x_put (pc := 159) (T := TX12) (N := 70) (ci := 12) (ws' := (MW cI cJ M mr (upd (upd mi 0 0) 3 0) (va_up mf 1 g_158) mg)) E hw159 inX12 tyX12_ok nmX12 0 3 q_1402 rfl rfl (by decide) rfl rfl rfl rfl (Nat.le_of_ble_eq_true rfl) rfl dX12_set_159 (fun H locs hw167 => ?_)
        refine lv_iconst (pc := 162) (v := 1) E.1 E.2.1 dX12_set_162 (by decide +kernel) ?_
        exact em_z (w1 := (fun (u : Int32 × (Nat → Int32) × Int32 × Int32 × Int32 × Int32 × (Nat → Int32) × (Nat → Int32) × (Nat → Int32) × Int32) => (MW cI cJ M mr (upd (upd (upd (upd (upd (upd mi 0 u.1) 12 u.2.2.1) 13 u.2.2.2.1) 14 u.2.2.2.2.1) 15 u.2.2.2.2.2.1) 3 u.2.2.2.2.2.2.2.2.2) (va_up (va_up (va_up (va_up mf 1 u.2.1) 8 u.2.2.2.2.2.2.1) 9 u.2.2.2.2.2.2.2.1) 10 u.2.2.2.2.2.2.2.2.1) mg))) E hr hlk (0, g_158, (mi 12), (mi 13), (mi 14), (mi 15), (mf 8), (mf 9), (mf 10), 0) hw167 ⟨h2, (by show 0 ≤ (0 : Int32).toInt ∧ (0 : Int32).toInt ≤ 6; have k_0 : (0 : Int32).toInt = 0 := (by decide +kernel); have k_1 : (0 : Int32).toInt = 0 := (by decide +kernel); have k_2 : (1 : Int32).toInt = 1 := (by decide +kernel); omega), (by show (g_158 2).toInt = ((mf 1) 2).toInt; have k_0 : (0 : Int32).toInt = 0 := (by decide +kernel); have k_1 : (0 : Int32).toInt = 0 := (by decide +kernel); have k_2 : (1 : Int32).toInt = 1 := (by decide +kernel); omega), (by show (g_158 5).toInt = ((mf 1) 5).toInt; have k_0 : (0 : Int32).toInt = 0 := (by decide +kernel); have k_1 : (0 : Int32).toInt = 0 := (by decide +kernel); have k_2 : (1 : Int32).toInt = 1 := (by decide +kernel); omega), (by show (g_158 0).toInt = ((mf 1) 0).toInt; have k_0 : (0 : Int32).toInt = 0 := (by decide +kernel); have k_1 : (0 : Int32).toInt = 0 := (by decide +kernel); have k_2 : (1 : Int32).toInt = 1 := (by decide +kernel); omega), (by show (g_158 1).toInt = ((mf 1) 1).toInt; have k_0 : (0 : Int32).toInt = 0 := (by decide +kernel); have k_1 : (0 : Int32).toInt = 0 := (by decide +kernel); have k_2 : (1 : Int32).toInt = 1 := (by decide +kernel); omega), (show rowsOK (0 : Int32).toInt (mi 6).toInt (mf 2) from (rowsOK_nil (by decide +kernel))), (show pplOK (mi 6).toInt (mf 8) from lf_people), (show RKN (0 : Int32).toInt ((g_158 0).toInt) (mf 2) from (RKN_nil (by first | omega | decide +kernel))), (show RKD (0 : Int32).toInt (g_158 1) (mi 12).toInt (mf 2) from (RKD_nil (by first | omega | decide +kernel))), (show (((1 : Int32) = 1 ∧ ((z_what.toInt = 1 ∧ (mi 12).toInt = z_v.toInt) ∨ (z_what.toInt ≠ 1 ∧ (mi 12).toInt = (mi 12).toInt))) ∨ ((1 : Int32) = 0 ∧ (mi 12).toInt = (mi 12).toInt)) from (Or.inl ⟨rfl, by omega⟩)), (show ((SETC (mi 6).toInt z_what.toInt z_who.toInt z_v.toInt ∧ (1 : Int32) = 1 ∧ (0 : Int32).toInt = 0) ∨ (¬ SETC (mi 6).toInt z_what.toInt z_who.toInt z_v.toInt ∧ (1 : Int32) = 0 ∧ (0 : Int32).toInt = (mi 3).toInt)) from (Or.inl ⟨hp_9.mp rfl, rfl, by decide +kernel⟩)), (Or.inr (Or.inl ⟨rfl, (by show (g_158 3).toInt = ((mf 1) 3).toInt; omega)⟩))⟩ (by decide +kernel) (Nat.le_of_ble_eq_true rfl) (Nat.le_of_ble_eq_true rfl) dX12_set_163
    · skip
      have hc_146 := eqE (a := z_what.toInt) (b := 7) rfl (by decide +kernel) c_146
      refine lv_aload_n (pc := 105) E.1 E.2.1 dX12_set_105 rfl (lv_at hl3 0 rfl) ?_
      refine x_get (pc := 106) (T := TX12) (N := 70) (ci := 12) (v := .ref (mr 1)) E hw8 inX12 0 1 q_1400 rfl rfl (by decide) rfl rfl dX12_set_106 ?_
      refine lv_bipush (pc := 109) (v := 6) E.1 E.2.1 dX12_set_109 (by decide +kernel) ?_
      refine lv_iload_n (pc := 111) E.1 E.2.1 dX12_set_111 rfl (lv_at hl3 2 rfl) ?_
      refine lv_iadd (pc := 112) E.1 E.2.1 dX12_set_112 ?_
      refine lv_topi (fun v_168 ev_168 => ?_)
      have hv_168 : v_168.toInt = 6 + z_who.toInt := by rw [ev_168]; exact addE (by decide +kernel) rfl (by omega)
      refine lv_iload_n (pc := 113) E.1 E.2.1 dX12_set_113 rfl (lv_at hl3 3 rfl) ?_
      refine x_iastG (pc := 114) (f := (mf 1)) (wf := fun g => (MW cI cJ M mr (upd mi 0 0) (va_up mf 1 g) mg)) E hw8 1 rfl (inbE (a := v_168.toInt) rfl (by omega)) (fun _ => rfl) dX12_set_114 (fun g_169 H locs eg_169 hw170 => ?_)
      have ht_171 : (g_169 0).toInt = ((mf 1) 0).toInt := by rw [eg_169, pk_un (by have q9 := idxI (x := v_168) (by omega); omega)]
      have ht_172 : (g_169 1).toInt = ((mf 1) 1).toInt := by rw [eg_169, pk_un (by have q9 := idxI (x := v_168) (by omega); omega)]
      have ht_173 : (g_169 2).toInt = ((mf 1) 2).toInt := by rw [eg_169, pk_un (by have q9 := idxI (x := v_168) (by omega); omega)]
      have ht_174 : (g_169 3).toInt = ((mf 1) 3).toInt := by rw [eg_169, pk_un (by have q9 := idxI (x := v_168) (by omega); omega)]
      have ht_175 : (g_169 5).toInt = ((mf 1) 5).toInt := by rw [eg_169, pk_un (by have q9 := idxI (x := v_168) (by omega); omega)]
      refine lv_iload_n (pc := 115) E.1 E.2.1 dX12_set_115 rfl (lv_at hl3 1 rfl) ?_
      refine lv_bipush (pc := 116) (v := 8) E.1 E.2.1 dX12_set_116 (by decide +kernel) ?_
      refine lv_icmp_ne (pc := 118) (tgt := 131) E.1 E.2.1 dX12_set_118 (by decide) (fun _ => ?_) (fun c_176 => absurd c_176 (mneE (a := z_what.toInt) (b := 8) rfl (by decide +kernel) (by omega)))
      refine lv_iload_n (pc := 131) E.1 E.2.1 dX12_set_131 rfl (lv_at hl3 1 rfl) ?_
      refine lv_bipush (pc := 132) (v := 9) E.1 E.2.1 dX12_set_132 (by decide +kernel) ?_
      refine lv_icmp_ne (pc := 134) (tgt := 144) E.1 E.2.1 dX12_set_134 (by decide) (fun _ => ?_) (fun c_177 => absurd c_177 (mneE (a := z_what.toInt) (b := 9) rfl (by decide +kernel) (by omega)))
      refine lv_iload_n (pc := 144) E.1 E.2.1 dX12_set_144 rfl (lv_at hl3 1 rfl) ?_
      refine lv_bipush (pc := 145) (v := 10) E.1 E.2.1 dX12_set_145 (by decide +kernel) ?_
      refine lv_icmp_ne (pc := 147) (tgt := 157) E.1 E.2.1 dX12_set_147 (by decide) (fun _ => ?_) (fun c_178 => absurd c_178 (mneE (a := z_what.toInt) (b := 10) rfl (by decide +kernel) (by omega)))
      refine lv_aload_n (pc := 157) E.1 E.2.1 dX12_set_157 rfl (lv_at hl3 0 rfl) ?_
      refine lv_iconst (pc := 158) (v := 0) E.1 E.2.1 dX12_set_158 (by decide +kernel) ?_
      refine x_put (pc := 159) (T := TX12) (N := 70) (ci := 12) (ws' := (MW cI cJ M mr (upd (upd mi 0 0) 3 0) (va_up mf 1 g_169) mg)) E hw170 inX12 tyX12_ok nmX12 0 3 q_1402 rfl rfl (by decide) rfl rfl rfl rfl (Nat.le_of_ble_eq_true rfl) rfl dX12_set_159 (fun H locs hw179 => ?_)
      refine lv_iconst (pc := 162) (v := 1) E.1 E.2.1 dX12_set_162 (by decide +kernel) ?_
      exact em_z (w1 := (fun (u : Int32 × (Nat → Int32) × Int32 × Int32 × Int32 × Int32 × (Nat → Int32) × (Nat → Int32) × (Nat → Int32) × Int32) => (MW cI cJ M mr (upd (upd (upd (upd (upd (upd mi 0 u.1) 12 u.2.2.1) 13 u.2.2.2.1) 14 u.2.2.2.2.1) 15 u.2.2.2.2.2.1) 3 u.2.2.2.2.2.2.2.2.2) (va_up (va_up (va_up (va_up mf 1 u.2.1) 8 u.2.2.2.2.2.2.1) 9 u.2.2.2.2.2.2.2.1) 10 u.2.2.2.2.2.2.2.2.1) mg))) E hr hlk (0, g_169, (mi 12), (mi 13), (mi 14), (mi 15), (mf 8), (mf 9), (mf 10), 0) hw179 ⟨h2, (by show 0 ≤ (0 : Int32).toInt ∧ (0 : Int32).toInt ≤ 6; have k_0 : (0 : Int32).toInt = 0 := (by decide +kernel); have k_1 : (0 : Int32).toInt = 0 := (by decide +kernel); have k_2 : (1 : Int32).toInt = 1 := (by decide +kernel); omega), (by show (g_169 2).toInt = ((mf 1) 2).toInt; have k_0 : (0 : Int32).toInt = 0 := (by decide +kernel); have k_1 : (0 : Int32).toInt = 0 := (by decide +kernel); have k_2 : (1 : Int32).toInt = 1 := (by decide +kernel); omega), (by show (g_169 5).toInt = ((mf 1) 5).toInt; have k_0 : (0 : Int32).toInt = 0 := (by decide +kernel); have k_1 : (0 : Int32).toInt = 0 := (by decide +kernel); have k_2 : (1 : Int32).toInt = 1 := (by decide +kernel); omega), (by show (g_169 0).toInt = ((mf 1) 0).toInt; have k_0 : (0 : Int32).toInt = 0 := (by decide +kernel); have k_1 : (0 : Int32).toInt = 0 := (by decide +kernel); have k_2 : (1 : Int32).toInt = 1 := (by decide +kernel); omega), (by show (g_169 1).toInt = ((mf 1) 1).toInt; have k_0 : (0 : Int32).toInt = 0 := (by decide +kernel); have k_1 : (0 : Int32).toInt = 0 := (by decide +kernel); have k_2 : (1 : Int32).toInt = 1 := (by decide +kernel); omega), (show rowsOK (0 : Int32).toInt (mi 6).toInt (mf 2) from (rowsOK_nil (by decide +kernel))), (show pplOK (mi 6).toInt (mf 8) from lf_people), (show RKN (0 : Int32).toInt ((g_169 0).toInt) (mf 2) from (RKN_nil (by first | omega | decide +kernel))), (show RKD (0 : Int32).toInt (g_169 1) (mi 12).toInt (mf 2) from (RKD_nil (by first | omega | decide +kernel))), (show (((1 : Int32) = 1 ∧ ((z_what.toInt = 1 ∧ (mi 12).toInt = z_v.toInt) ∨ (z_what.toInt ≠ 1 ∧ (mi 12).toInt = (mi 12).toInt))) ∨ ((1 : Int32) = 0 ∧ (mi 12).toInt = (mi 12).toInt)) from (Or.inl ⟨rfl, by omega⟩)), (show ((SETC (mi 6).toInt z_what.toInt z_who.toInt z_v.toInt ∧ (1 : Int32) = 1 ∧ (0 : Int32).toInt = 0) ∨ (¬ SETC (mi 6).toInt z_what.toInt z_who.toInt z_v.toInt ∧ (1 : Int32) = 0 ∧ (0 : Int32).toInt = (mi 3).toInt)) from (Or.inl ⟨hp_9.mp rfl, rfl, by decide +kernel⟩)), (Or.inr (Or.inl ⟨rfl, (by show (g_169 3).toInt = ((mf 1) 3).toInt; omega)⟩))⟩ (by decide +kernel) (Nat.le_of_ble_eq_true rfl) (Nat.le_of_ble_eq_true rfl) dX12_set_163
