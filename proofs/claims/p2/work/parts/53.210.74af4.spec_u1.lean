set_option maxHeartbeats 4000000 in
set_option maxRecDepth 100000 in
theorem s_canSetU (l : Launch) (D : va_G) (cI cJ : ClassId) (sz M : Nat) (mr : Nat → Nat) (mi : Nat → Int32) (mf : Nat → Nat → Int32) (mg : Nat → Nat → Int64) (z_what : Int32) (z_who : Int32) (z_v : Int32) (h0 : 0 ≤ (mi 6).toInt ∧ (mi 6).toInt ≤ 10) : Met l yX12_canSet (Cond.code yX12_canSet cX12_canSet 4 (some .boolean) :: GW) ({ frames := 2, cells := 0, slots := 0, locals := 63 } : Room) (va_Pc [.ref M, .int z_what, .int z_who, .int z_v] (PW D cI cJ sz (MW cI cJ M mr mi mf mg) xT)) (va_Qi (fun (r : Int32) (u : Unit) => (((r : Int32) = 1 ↔ SETC (mi 6).toInt z_what.toInt z_who.toInt z_v.toInt)) ∧ ((r = 0) ∨ (r = 1 ∧ z_what.toInt = 5 ∧ 0 ≤ z_v.toInt ∧ z_v.toInt + 1 ≤ (mi 6).toInt) ∨ (r = 1 ∧ z_what.toInt = 4 ∧ 1 ≤ z_v.toInt ∧ z_v.toInt ≤ 99) ∨ (r = 1 ∧ z_what.toInt = 3) ∨ (r = 1 ∧ z_what.toInt = 6 ∧ 1 ≤ z_v.toInt ∧ z_v.toInt ≤ 20 ∧ 0 ≤ z_who.toInt ∧ z_who.toInt + 1 ≤ (mi 6).toInt) ∨ (r = 1 ∧ 0 ≤ z_what.toInt ∧ z_what.toInt ≤ 2) ∨ (r = 1 ∧ 7 ≤ z_what.toInt ∧ z_what.toInt ≤ 10 ∧ 0 ≤ z_who.toInt ∧ z_who.toInt + 1 ≤ (mi 6).toInt))) (fun u => QW D cI cJ (va_A (MW cI cJ M mr mi mf mg) sz) ((fun (u : Unit) => (MW cI cJ M mr mi mf mg)) u)) (va_A (MW cI cJ M mr mi mf mg) sz)) 0 0 (va_A (MW cI cJ M mr mi mf mg) sz) := by
  refine mk_met (y := yX12_canSet) (bytes := cX12_canSet) (maxL := 4) (avs := [.ref M, .int z_what, .int z_who, .int z_v]) (WS := (MW cI cJ M mr mi mf mg)) (Qf := fun A => va_Qi (fun (r : Int32) (u : Unit) => (((r : Int32) = 1 ↔ SETC (mi 6).toInt z_what.toInt z_who.toInt z_v.toInt)) ∧ ((r = 0) ∨ (r = 1 ∧ z_what.toInt = 5 ∧ 0 ≤ z_v.toInt ∧ z_v.toInt + 1 ≤ (mi 6).toInt) ∨ (r = 1 ∧ z_what.toInt = 4 ∧ 1 ≤ z_v.toInt ∧ z_v.toInt ≤ 99) ∨ (r = 1 ∧ z_what.toInt = 3) ∨ (r = 1 ∧ z_what.toInt = 6 ∧ 1 ≤ z_v.toInt ∧ z_v.toInt ≤ 20 ∧ 0 ≤ z_who.toInt ∧ z_who.toInt + 1 ≤ (mi 6).toInt) ∨ (r = 1 ∧ 0 ≤ z_what.toInt ∧ z_what.toInt ≤ 2) ∨ (r = 1 ∧ 7 ≤ z_what.toInt ∧ z_what.toInt ≤ 10 ∧ 0 ≤ z_who.toInt ∧ z_who.toInt + 1 ≤ (mi 6).toInt))) (fun u => QW D cI cJ A ((fun (u : Unit) => (MW cI cJ M mr mi mf mg)) u)) A) (by decide) (Nat.le_of_ble_eq_true rfl) ?_
  intro p e s m below meth c A ls E hr hlk hnm hX hw1 hl2
  have hl3 : lv_has ls 4 [(0, .ref M), (1, .int z_what), (2, .int z_who), (3, .int z_v)] := hl2
  refine lv_aload_n (pc := 0) E.1 E.2.1 dX12_canSet_0 rfl (lv_at hl3 0 rfl) ?_
  refine lv_iload_n (pc := 1) E.1 E.2.1 dX12_canSet_1 rfl (lv_at hl3 1 rfl) ?_
  refine lv_iconst (pc := 2) (v := 0) E.1 E.2.1 dX12_canSet_2 (by decide +kernel) ?_
  refine lv_bipush (pc := 3) (v := 10) E.1 E.2.1 dX12_canSet_3 (by decide +kernel) ?_
  refine cm_i (pc := 5) hw1 (rn_M (As := [.int z_what, .int 0, .int 10]) (rest := []) E hw1 (s_isIn l D cI cJ _ M mr mi mf mg z_what 0 10) (gdV q_1622 q_1624 q_46 q_162 q_1625) hdV_X12_isIn ⟨rfl, rfl⟩ ⟨(Nat.le_of_ble_eq_true rfl), (Nat.le_of_ble_eq_true rfl)⟩ ⟨(Nat.le_of_ble_eq_true rfl), (Nat.le_of_ble_eq_true rfl)⟩ 12 rfl rfl rfl rfl hl3.1 rfl (Nat.le_of_ble_eq_true rfl) dX12_canSet_5) (fun r_5 u_4 H1 locs hp hw6 => ?_)
  generalize H1 = H at hw6 ⊢
  have hw7 : WD D A s.heap (MW cI cJ M mr mi mf mg) H locs := hw6
  have hp_8 := hp
  rcases hp_8 with ⟨rfl, ha_9⟩ | ⟨rfl, ha_10⟩ | ⟨rfl, ha_11, ha_12⟩
  · skip
    have ha_9 : z_what.toInt < (0 : Int32).toInt := ha_9
    rw [show (0 : Int32).toInt = 0 from by decide +kernel] at ha_9
    refine lv_if_eq (pc := 8) (tgt := 24) E.1 E.2.1 dX12_canSet_8 (by decide) (fun _ => ?_) (fun c_13 => absurd (meqE (a := 0) (b := 0) (by decide +kernel) (by decide +kernel) (by omega)) c_13)
    refine lv_iconst (pc := 24) (v := 0) E.1 E.2.1 dX12_canSet_24 (by decide +kernel) ?_
    exact em_z (w1 := (fun (u : Unit) => (MW cI cJ M mr mi mf mg))) E hr hlk () hw7 ⟨(show ((0 : Int32) = 1 ↔ SETC (mi 6).toInt z_what.toInt z_who.toInt z_v.toInt) from ⟨fun h => absurd h (by decide +kernel), fun h => by unfold SETC at h; omega⟩), (Or.inl rfl)⟩ (by decide +kernel) (Nat.le_of_ble_eq_true rfl) (Nat.le_of_ble_eq_true rfl) dX12_canSet_25
  · skip
    have ha_10 : (10 : Int32).toInt < z_what.toInt := ha_10
    rw [show (10 : Int32).toInt = 10 from by decide +kernel] at ha_10
    refine lv_if_eq (pc := 8) (tgt := 24) E.1 E.2.1 dX12_canSet_8 (by decide) (fun _ => ?_) (fun c_14 => absurd (meqE (a := 0) (b := 0) (by decide +kernel) (by decide +kernel) (by omega)) c_14)
    refine lv_iconst (pc := 24) (v := 0) E.1 E.2.1 dX12_canSet_24 (by decide +kernel) ?_
    exact em_z (w1 := (fun (u : Unit) => (MW cI cJ M mr mi mf mg))) E hr hlk () hw7 ⟨(show ((0 : Int32) = 1 ↔ SETC (mi 6).toInt z_what.toInt z_who.toInt z_v.toInt) from ⟨fun h => absurd h (by decide +kernel), fun h => by unfold SETC at h; omega⟩), (Or.inl rfl)⟩ (by decide +kernel) (Nat.le_of_ble_eq_true rfl) (Nat.le_of_ble_eq_true rfl) dX12_canSet_25
  · skip
    have ha_11 : (0 : Int32).toInt ≤ z_what.toInt := ha_11
    rw [show (0 : Int32).toInt = 0 from by decide +kernel] at ha_11
    have ha_12 : z_what.toInt ≤ (10 : Int32).toInt := ha_12
    rw [show (10 : Int32).toInt = 10 from by decide +kernel] at ha_12
    refine lv_if_eq (pc := 8) (tgt := 24) E.1 E.2.1 dX12_canSet_8 (by decide) (fun c_15 => absurd c_15 (mneE (a := 1) (b := 0) (by decide +kernel) (by decide +kernel) (by omega))) (fun _ => ?_)
    refine lv_iload_n (pc := 11) E.1 E.2.1 dX12_canSet_11 rfl (lv_at hl3 1 rfl) ?_
    refine lv_iconst (pc := 12) (v := 5) E.1 E.2.1 dX12_canSet_12 (by decide +kernel) ?_
    refine lv_icmp_le (pc := 13) (tgt := 26) E.1 E.2.1 dX12_canSet_13 (by decide) (fun c_16 => ?_) (fun c_16 => ?_)
    · skip
      have hc_16 := leE (a := z_what.toInt) (b := 5) rfl (by decide +kernel) c_16
      refine lv_aload_n (pc := 26) E.1 E.2.1 dX12_canSet_26 rfl (lv_at hl3 0 rfl) ?_
      refine lv_iload_n (pc := 27) E.1 E.2.1 dX12_canSet_27 rfl (lv_at hl3 3 rfl) ?_
      refine lv_iload_n (pc := 28) E.1 E.2.1 dX12_canSet_28 rfl (lv_at hl3 1 rfl) ?_
      refine lv_iconst (pc := 29) (v := 3) E.1 E.2.1 dX12_canSet_29 (by decide +kernel) ?_
      refine lv_icmp_eq (pc := 30) (tgt := 44) E.1 E.2.1 dX12_canSet_30 (by decide) (fun c_17 => ?_) (fun c_17 => ?_)
      · skip
        have hc_17 := eqE (a := z_what.toInt) (b := 3) rfl (by decide +kernel) c_17
        refine lv_iconst (pc := 44) (v := 1) E.1 E.2.1 dX12_canSet_44 (by decide +kernel) ?_
        refine lv_goto (pc := 45) (tgt := 49) E.1 E.2.1 dX12_canSet_45 (by decide) ?_
        refine lv_aload_n (pc := 49) E.1 E.2.1 dX12_canSet_49 rfl (lv_at hl3 0 rfl) ?_
        refine lv_iload_n (pc := 50) E.1 E.2.1 dX12_canSet_50 rfl (lv_at hl3 1 rfl) ?_
        refine cm_i (pc := 51) hw7 (rn_M (As := [.int z_what]) (rest := [.int 1, .int z_v, .ref M]) E hw7 (s_mostOf2 l D cI cJ _ M mr mi mf mg z_what h0) (gdV q_1638 q_1640 q_49 q_162 q_1641) hdV_X12_mostOf ⟨rfl, rfl⟩ ⟨(Nat.le_of_ble_eq_true rfl), (Nat.le_of_ble_eq_true rfl)⟩ ⟨(Nat.le_of_ble_eq_true rfl), (Nat.le_of_ble_eq_true rfl)⟩ 12 rfl rfl rfl rfl hl3.1 rfl (Nat.le_of_ble_eq_true rfl) dX12_canSet_51) (fun r_19 u_18 H1 locs hp hw20 => ?_)
        generalize H1 = H at hw20 ⊢
        have hw21 : WD D A s.heap (MW cI cJ M mr mi mf mg) H locs := hw20
        have hp_22 := hp
        rcases hp_22 with ⟨rfl, ha_23⟩ | ⟨rfl, ha_24⟩ | ⟨ha_25, ha_26⟩ | ⟨rfl, ha_27⟩ | ⟨rfl, ha_28⟩ | ⟨rfl, ha_29⟩ | ⟨rfl, ha_30, ha_31, ha_32, ha_33, ha_34, ha_35⟩
        · skip
          have ha_23 : z_what.toInt = 0 := ha_23
          exfalso; omega
        · skip
          have ha_24 : z_what.toInt = 1 := ha_24
          exfalso; omega
        · skip
          have ha_25 : z_what.toInt = 5 := ha_25
          have ha_26 : r_19.toInt = (mi 6).toInt - 1 := ha_26
          exfalso; omega
        · skip
          have ha_27 : z_what.toInt = 6 := ha_27
          exfalso; omega
        · skip
          have ha_28 : z_what.toInt = 7 := ha_28
          exfalso; omega
        · skip
          have ha_29 : z_what.toInt = 10 := ha_29
          exfalso; omega
        · skip
          have ha_30 : ¬ z_what.toInt = 0 := ha_30
          have ha_31 : ¬ z_what.toInt = 1 := ha_31
          have ha_32 : ¬ z_what.toInt = 5 := ha_32
          have ha_33 : ¬ z_what.toInt = 6 := ha_33
          have ha_34 : ¬ z_what.toInt = 7 := ha_34
          have ha_35 : ¬ z_what.toInt = 10 := ha_35
          refine cm_i (pc := 54) hw21 (rn_M (As := [.int z_v, .int 1, .int 99]) (rest := []) E hw21 (s_isIn l D cI cJ _ M mr mi mf mg z_v 1 99) (gdV q_1622 q_1624 q_46 q_162 q_1625) hdV_X12_isIn ⟨rfl, rfl⟩ ⟨(Nat.le_of_ble_eq_true rfl), (Nat.le_of_ble_eq_true rfl)⟩ ⟨(Nat.le_of_ble_eq_true rfl), (Nat.le_of_ble_eq_true rfl)⟩ 12 rfl rfl rfl rfl hl3.1 rfl (Nat.le_of_ble_eq_true rfl) dX12_canSet_54) (fun r_37 u_36 H1 locs hp hw38 => ?_)
          generalize H1 = H at hw38 ⊢
          have hw39 : WD D A s.heap (MW cI cJ M mr mi mf mg) H locs := hw38
          have hp_40 := hp
          rcases hp_40 with ⟨rfl, ha_41⟩ | ⟨rfl, ha_42⟩ | ⟨rfl, ha_43, ha_44⟩
          · skip
            have ha_41 : z_v.toInt < (1 : Int32).toInt := ha_41
            rw [show (1 : Int32).toInt = 1 from by decide +kernel] at ha_41
            exact em_z (w1 := (fun (u : Unit) => (MW cI cJ M mr mi mf mg))) E hr hlk () hw39 ⟨(show ((0 : Int32) = 1 ↔ SETC (mi 6).toInt z_what.toInt z_who.toInt z_v.toInt) from ⟨fun h => absurd h (by decide +kernel), fun h => by unfold SETC at h; omega⟩), (Or.inl rfl)⟩ (by decide +kernel) (Nat.le_of_ble_eq_true rfl) (Nat.le_of_ble_eq_true rfl) dX12_canSet_57
          · skip
            have ha_42 : (99 : Int32).toInt < z_v.toInt := ha_42
            rw [show (99 : Int32).toInt = 99 from by decide +kernel] at ha_42
            exact em_z (w1 := (fun (u : Unit) => (MW cI cJ M mr mi mf mg))) E hr hlk () hw39 ⟨(show ((0 : Int32) = 1 ↔ SETC (mi 6).toInt z_what.toInt z_who.toInt z_v.toInt) from ⟨fun h => absurd h (by decide +kernel), fun h => by unfold SETC at h; omega⟩), (Or.inl rfl)⟩ (by decide +kernel) (Nat.le_of_ble_eq_true rfl) (Nat.le_of_ble_eq_true rfl) dX12_canSet_57
          · skip
            have ha_43 : (1 : Int32).toInt ≤ z_v.toInt := ha_43
            rw [show (1 : Int32).toInt = 1 from by decide +kernel] at ha_43
            have ha_44 : z_v.toInt ≤ (99 : Int32).toInt := ha_44
            rw [show (99 : Int32).toInt = 99 from by decide +kernel] at ha_44
            exact em_z (w1 := (fun (u : Unit) => (MW cI cJ M mr mi mf mg))) E hr hlk () hw39 ⟨(show ((1 : Int32) = 1 ↔ SETC (mi 6).toInt z_what.toInt z_who.toInt z_v.toInt) from ⟨fun _ => by unfold SETC; omega, fun _ => rfl⟩), (Or.inr (Or.inr (Or.inr (Or.inl ⟨rfl, (by show z_what.toInt = 3; omega)⟩))))⟩ (by decide +kernel) (Nat.le_of_ble_eq_true rfl) (Nat.le_of_ble_eq_true rfl) dX12_canSet_57
      · skip
        have hc_17 := neE (a := z_what.toInt) (b := 3) rfl (by decide +kernel) c_17
        refine lv_iload_n (pc := 33) E.1 E.2.1 dX12_canSet_33 rfl (lv_at hl3 1 rfl) ?_
        refine lv_iconst (pc := 34) (v := 4) E.1 E.2.1 dX12_canSet_34 (by decide +kernel) ?_
        refine lv_icmp_eq (pc := 35) (tgt := 44) E.1 E.2.1 dX12_canSet_35 (by decide) (fun c_45 => ?_) (fun c_45 => ?_)
        · skip
          have hc_45 := eqE (a := z_what.toInt) (b := 4) rfl (by decide +kernel) c_45
          refine lv_iconst (pc := 44) (v := 1) E.1 E.2.1 dX12_canSet_44 (by decide +kernel) ?_
          refine lv_goto (pc := 45) (tgt := 49) E.1 E.2.1 dX12_canSet_45 (by decide) ?_
          refine lv_aload_n (pc := 49) E.1 E.2.1 dX12_canSet_49 rfl (lv_at hl3 0 rfl) ?_
          refine lv_iload_n (pc := 50) E.1 E.2.1 dX12_canSet_50 rfl (lv_at hl3 1 rfl) ?_
          refine cm_i (pc := 51) hw7 (rn_M (As := [.int z_what]) (rest := [.int 1, .int z_v, .ref M]) E hw7 (s_mostOf2 l D cI cJ _ M mr mi mf mg z_what h0) (gdV q_1638 q_1640 q_49 q_162 q_1641) hdV_X12_mostOf ⟨rfl, rfl⟩ ⟨(Nat.le_of_ble_eq_true rfl), (Nat.le_of_ble_eq_true rfl)⟩ ⟨(Nat.le_of_ble_eq_true rfl), (Nat.le_of_ble_eq_true rfl)⟩ 12 rfl rfl rfl rfl hl3.1 rfl (Nat.le_of_ble_eq_true rfl) dX12_canSet_51) (fun r_47 u_46 H1 locs hp hw48 => ?_)
          generalize H1 = H at hw48 ⊢
          have hw49 : WD D A s.heap (MW cI cJ M mr mi mf mg) H locs := hw48
          have hp_50 := hp
          rcases hp_50 with ⟨rfl, ha_51⟩ | ⟨rfl, ha_52⟩ | ⟨ha_53, ha_54⟩ | ⟨rfl, ha_55⟩ | ⟨rfl, ha_56⟩ | ⟨rfl, ha_57⟩ | ⟨rfl, ha_58, ha_59, ha_60, ha_61, ha_62, ha_63⟩
          · skip
            have ha_51 : z_what.toInt = 0 := ha_51
            exfalso; omega
          · skip
            have ha_52 : z_what.toInt = 1 := ha_52
            exfalso; omega
          · skip
            have ha_53 : z_what.toInt = 5 := ha_53
            have ha_54 : r_47.toInt = (mi 6).toInt - 1 := ha_54
            exfalso; omega
          · skip
            have ha_55 : z_what.toInt = 6 := ha_55
            exfalso; omega
          · skip
            have ha_56 : z_what.toInt = 7 := ha_56
            exfalso; omega
          · skip
            have ha_57 : z_what.toInt = 10 := ha_57
            exfalso; omega
          · skip
            have ha_58 : ¬ z_what.toInt = 0 := ha_58
            have ha_59 : ¬ z_what.toInt = 1 := ha_59
            have ha_60 : ¬ z_what.toInt = 5 := ha_60
            have ha_61 : ¬ z_what.toInt = 6 := ha_61
            have ha_62 : ¬ z_what.toInt = 7 := ha_62
            have ha_63 : ¬ z_what.toInt = 10 := ha_63
            refine cm_i (pc := 54) hw49 (rn_M (As := [.int z_v, .int 1, .int 99]) (rest := []) E hw49 (s_isIn l D cI cJ _ M mr mi mf mg z_v 1 99) (gdV q_1622 q_1624 q_46 q_162 q_1625) hdV_X12_isIn ⟨rfl, rfl⟩ ⟨(Nat.le_of_ble_eq_true rfl), (Nat.le_of_ble_eq_true rfl)⟩ ⟨(Nat.le_of_ble_eq_true rfl), (Nat.le_of_ble_eq_true rfl)⟩ 12 rfl rfl rfl rfl hl3.1 rfl (Nat.le_of_ble_eq_true rfl) dX12_canSet_54) (fun r_65 u_64 H1 locs hp hw66 => ?_)
            generalize H1 = H at hw66 ⊢
            have hw67 : WD D A s.heap (MW cI cJ M mr mi mf mg) H locs := hw66
            have hp_68 := hp
            rcases hp_68 with ⟨rfl, ha_69⟩ | ⟨rfl, ha_70⟩ | ⟨rfl, ha_71, ha_72⟩
            · skip
              have ha_69 : z_v.toInt < (1 : Int32).toInt := ha_69
              rw [show (1 : Int32).toInt = 1 from by decide +kernel] at ha_69
              exact em_z (w1 := (fun (u : Unit) => (MW cI cJ M mr mi mf mg))) E hr hlk () hw67 ⟨(show ((0 : Int32) = 1 ↔ SETC (mi 6).toInt z_what.toInt z_who.toInt z_v.toInt) from ⟨fun h => absurd h (by decide +kernel), fun h => by unfold SETC at h; omega⟩), (Or.inl rfl)⟩ (by decide +kernel) (Nat.le_of_ble_eq_true rfl) (Nat.le_of_ble_eq_true rfl) dX12_canSet_57
            · skip
              have ha_70 : (99 : Int32).toInt < z_v.toInt := ha_70
              rw [show (99 : Int32).toInt = 99 from by decide +kernel] at ha_70
              exact em_z (w1 := (fun (u : Unit) => (MW cI cJ M mr mi mf mg))) E hr hlk () hw67 ⟨(show ((0 : Int32) = 1 ↔ SETC (mi 6).toInt z_what.toInt z_who.toInt z_v.toInt) from ⟨fun h => absurd h (by decide +kernel), fun h => by unfold SETC at h; omega⟩), (Or.inl rfl)⟩ (by decide +kernel) (Nat.le_of_ble_eq_true rfl) (Nat.le_of_ble_eq_true rfl) dX12_canSet_57
            · skip
              have ha_71 : (1 : Int32).toInt ≤ z_v.toInt := ha_71
              rw [show (1 : Int32).toInt = 1 from by decide +kernel] at ha_71
              have ha_72 : z_v.toInt ≤ (99 : Int32).toInt := ha_72
              rw [show (99 : Int32).toInt = 99 from by decide +kernel] at ha_72
              exact em_z (w1 := (fun (u : Unit) => (MW cI cJ M mr mi mf mg))) E hr hlk () hw67 ⟨(show ((1 : Int32) = 1 ↔ SETC (mi 6).toInt z_what.toInt z_who.toInt z_v.toInt) from ⟨fun _ => by unfold SETC; omega, fun _ => rfl⟩), (Or.inr (Or.inr (Or.inl ⟨rfl, (by show z_what.toInt = 4; omega), (by show 1 ≤ z_v.toInt; omega), (by show z_v.toInt ≤ 99; omega)⟩)))⟩ (by decide +kernel) (Nat.le_of_ble_eq_true rfl) (Nat.le_of_ble_eq_true rfl) dX12_canSet_57
        · skip
          have hc_45 := neE (a := z_what.toInt) (b := 4) rfl (by decide +kernel) c_45
          refine lv_iload_n (pc := 38) E.1 E.2.1 dX12_canSet_38 rfl (lv_at hl3 1 rfl) ?_
          refine lv_bipush (pc := 39) (v := 6) E.1 E.2.1 dX12_canSet_39 (by decide +kernel) ?_
          refine lv_icmp_ne (pc := 41) (tgt := 48) E.1 E.2.1 dX12_canSet_41 (by decide) (fun _ => ?_) (fun c_73 => absurd c_73 (mneE (a := z_what.toInt) (b := 6) rfl (by decide +kernel) (by omega)))
          refine lv_iconst (pc := 48) (v := 0) E.1 E.2.1 dX12_canSet_48 (by decide +kernel) ?_
          refine lv_aload_n (pc := 49) E.1 E.2.1 dX12_canSet_49 rfl (lv_at hl3 0 rfl) ?_
          refine lv_iload_n (pc := 50) E.1 E.2.1 dX12_canSet_50 rfl (lv_at hl3 1 rfl) ?_
          refine cm_i (pc := 51) hw7 (rn_M (As := [.int z_what]) (rest := [.int 0, .int z_v, .ref M]) E hw7 (s_mostOf2 l D cI cJ _ M mr mi mf mg z_what h0) (gdV q_1638 q_1640 q_49 q_162 q_1641) hdV_X12_mostOf ⟨rfl, rfl⟩ ⟨(Nat.le_of_ble_eq_true rfl), (Nat.le_of_ble_eq_true rfl)⟩ ⟨(Nat.le_of_ble_eq_true rfl), (Nat.le_of_ble_eq_true rfl)⟩ 12 rfl rfl rfl rfl hl3.1 rfl (Nat.le_of_ble_eq_true rfl) dX12_canSet_51) (fun r_75 u_74 H1 locs hp hw76 => ?_)
          generalize H1 = H at hw76 ⊢
          have hw77 : WD D A s.heap (MW cI cJ M mr mi mf mg) H locs := hw76
          have hp_78 := hp
          rcases hp_78 with ⟨rfl, ha_79⟩ | ⟨rfl, ha_80⟩ | ⟨ha_81, ha_82⟩ | ⟨rfl, ha_83⟩ | ⟨rfl, ha_84⟩ | ⟨rfl, ha_85⟩ | ⟨rfl, ha_86, ha_87, ha_88, ha_89, ha_90, ha_91⟩
          · skip
            have ha_79 : z_what.toInt = 0 := ha_79
            refine cm_i (pc := 54) hw77 (rn_M (As := [.int z_v, .int 0, .int 9]) (rest := []) E hw77 (s_isIn l D cI cJ _ M mr mi mf mg z_v 0 9) (gdV q_1622 q_1624 q_46 q_162 q_1625) hdV_X12_isIn ⟨rfl, rfl⟩ ⟨(Nat.le_of_ble_eq_true rfl), (Nat.le_of_ble_eq_true rfl)⟩ ⟨(Nat.le_of_ble_eq_true rfl), (Nat.le_of_ble_eq_true rfl)⟩ 12 rfl rfl rfl rfl hl3.1 rfl (Nat.le_of_ble_eq_true rfl) dX12_canSet_54) (fun r_93 u_92 H1 locs hp hw94 => ?_)
            generalize H1 = H at hw94 ⊢
            have hw95 : WD D A s.heap (MW cI cJ M mr mi mf mg) H locs := hw94
            have hp_96 := hp
            rcases hp_96 with ⟨rfl, ha_97⟩ | ⟨rfl, ha_98⟩ | ⟨rfl, ha_99, ha_100⟩
            · skip
              have ha_97 : z_v.toInt < (0 : Int32).toInt := ha_97
              rw [show (0 : Int32).toInt = 0 from by decide +kernel] at ha_97
              exact em_z (w1 := (fun (u : Unit) => (MW cI cJ M mr mi mf mg))) E hr hlk () hw95 ⟨(show ((0 : Int32) = 1 ↔ SETC (mi 6).toInt z_what.toInt z_who.toInt z_v.toInt) from ⟨fun h => absurd h (by decide +kernel), fun h => by unfold SETC at h; omega⟩), (Or.inl rfl)⟩ (by decide +kernel) (Nat.le_of_ble_eq_true rfl) (Nat.le_of_ble_eq_true rfl) dX12_canSet_57
            · skip
              have ha_98 : (9 : Int32).toInt < z_v.toInt := ha_98
              rw [show (9 : Int32).toInt = 9 from by decide +kernel] at ha_98
              exact em_z (w1 := (fun (u : Unit) => (MW cI cJ M mr mi mf mg))) E hr hlk () hw95 ⟨(show ((0 : Int32) = 1 ↔ SETC (mi 6).toInt z_what.toInt z_who.toInt z_v.toInt) from ⟨fun h => absurd h (by decide +kernel), fun h => by unfold SETC at h; omega⟩), (Or.inl rfl)⟩ (by decide +kernel) (Nat.le_of_ble_eq_true rfl) (Nat.le_of_ble_eq_true rfl) dX12_canSet_57
            · skip
              have ha_99 : (0 : Int32).toInt ≤ z_v.toInt := ha_99
              rw [show (0 : Int32).toInt = 0 from by decide +kernel] at ha_99
              have ha_100 : z_v.toInt ≤ (9 : Int32).toInt := ha_100
              rw [show (9 : Int32).toInt = 9 from by decide +kernel] at ha_100
              exact em_z (w1 := (fun (u : Unit) => (MW cI cJ M mr mi mf mg))) E hr hlk () hw95 ⟨(show ((1 : Int32) = 1 ↔ SETC (mi 6).toInt z_what.toInt z_who.toInt z_v.toInt) from ⟨fun _ => by unfold SETC; omega, fun _ => rfl⟩), (Or.inr (Or.inr (Or.inr (Or.inr (Or.inr (Or.inl ⟨rfl, (by show 0 ≤ z_what.toInt; omega), (by show z_what.toInt ≤ 2; omega)⟩))))))⟩ (by decide +kernel) (Nat.le_of_ble_eq_true rfl) (Nat.le_of_ble_eq_true rfl) dX12_canSet_57
          · skip
            have ha_80 : z_what.toInt = 1 := ha_80
            refine cm_i (pc := 54) hw77 (rn_M (As := [.int z_v, .int 0, .int 1000]) (rest := []) E hw77 (s_isIn l D cI cJ _ M mr mi mf mg z_v 0 1000) (gdV q_1622 q_1624 q_46 q_162 q_1625) hdV_X12_isIn ⟨rfl, rfl⟩ ⟨(Nat.le_of_ble_eq_true rfl), (Nat.le_of_ble_eq_true rfl)⟩ ⟨(Nat.le_of_ble_eq_true rfl), (Nat.le_of_ble_eq_true rfl)⟩ 12 rfl rfl rfl rfl hl3.1 rfl (Nat.le_of_ble_eq_true rfl) dX12_canSet_54) (fun r_102 u_101 H1 locs hp hw103 => ?_)
            generalize H1 = H at hw103 ⊢
            have hw104 : WD D A s.heap (MW cI cJ M mr mi mf mg) H locs := hw103
            have hp_105 := hp
            rcases hp_105 with ⟨rfl, ha_106⟩ | ⟨rfl, ha_107⟩ | ⟨rfl, ha_108, ha_109⟩
            · skip
              have ha_106 : z_v.toInt < (0 : Int32).toInt := ha_106
              rw [show (0 : Int32).toInt = 0 from by decide +kernel] at ha_106
              exact em_z (w1 := (fun (u : Unit) => (MW cI cJ M mr mi mf mg))) E hr hlk () hw104 ⟨(show ((0 : Int32) = 1 ↔ SETC (mi 6).toInt z_what.toInt z_who.toInt z_v.toInt) from ⟨fun h => absurd h (by decide +kernel), fun h => by unfold SETC at h; omega⟩), (Or.inl rfl)⟩ (by decide +kernel) (Nat.le_of_ble_eq_true rfl) (Nat.le_of_ble_eq_true rfl) dX12_canSet_57
            · skip
              have ha_107 : (1000 : Int32).toInt < z_v.toInt := ha_107
              rw [show (1000 : Int32).toInt = 1000 from by decide +kernel] at ha_107
              exact em_z (w1 := (fun (u : Unit) => (MW cI cJ M mr mi mf mg))) E hr hlk () hw104 ⟨(show ((0 : Int32) = 1 ↔ SETC (mi 6).toInt z_what.toInt z_who.toInt z_v.toInt) from ⟨fun h => absurd h (by decide +kernel), fun h => by unfold SETC at h; omega⟩), (Or.inl rfl)⟩ (by decide +kernel) (Nat.le_of_ble_eq_true rfl) (Nat.le_of_ble_eq_true rfl) dX12_canSet_57
            · skip
              have ha_108 : (0 : Int32).toInt ≤ z_v.toInt := ha_108
              rw [show (0 : Int32).toInt = 0 from by decide +kernel] at ha_108
              have ha_109 : z_v.toInt ≤ (1000 : Int32).toInt := ha_109
              rw [show (1000 : Int32).toInt = 1000 from by decide +kernel] at ha_109
              exact em_z (w1 := (fun (u : Unit) => (MW cI cJ M mr mi mf mg))) E hr hlk () hw104 ⟨(show ((1 : Int32) = 1 ↔ SETC (mi 6).toInt z_what.toInt z_who.toInt z_v.toInt) from ⟨fun _ => by unfold SETC; omega, fun _ => rfl⟩), (Or.inr (Or.inr (Or.inr (Or.inr (Or.inr (Or.inl ⟨rfl, (by show 0 ≤ z_what.toInt; omega), (by show z_what.toInt ≤ 2; omega)⟩))))))⟩ (by decide +kernel) (Nat.le_of_ble_eq_true rfl) (Nat.le_of_ble_eq_true rfl) dX12_canSet_57
          · skip
            have ha_81 : z_what.toInt = 5 := ha_81
            have ha_82 : r_75.toInt = (mi 6).toInt - 1 := ha_82
            refine cm_i (pc := 54) hw77 (rn_M (As := [.int z_v, .int 0, .int r_75]) (rest := []) E hw77 (s_isIn l D cI cJ _ M mr mi mf mg z_v 0 r_75) (gdV q_1622 q_1624 q_46 q_162 q_1625) hdV_X12_isIn ⟨rfl, rfl⟩ ⟨(Nat.le_of_ble_eq_true rfl), (Nat.le_of_ble_eq_true rfl)⟩ ⟨(Nat.le_of_ble_eq_true rfl), (Nat.le_of_ble_eq_true rfl)⟩ 12 rfl rfl rfl rfl hl3.1 rfl (Nat.le_of_ble_eq_true rfl) dX12_canSet_54) (fun r_111 u_110 H1 locs hp hw112 => ?_)
            generalize H1 = H at hw112 ⊢
            have hw113 : WD D A s.heap (MW cI cJ M mr mi mf mg) H locs := hw112
            have hp_114 := hp
            rcases hp_114 with ⟨rfl, ha_115⟩ | ⟨rfl, ha_116⟩ | ⟨rfl, ha_117, ha_118⟩
            · skip
              have ha_115 : z_v.toInt < (0 : Int32).toInt := ha_115
              rw [show (0 : Int32).toInt = 0 from by decide +kernel] at ha_115
              exact em_z (w1 := (fun (u : Unit) => (MW cI cJ M mr mi mf mg))) E hr hlk () hw113 ⟨(show ((0 : Int32) = 1 ↔ SETC (mi 6).toInt z_what.toInt z_who.toInt z_v.toInt) from ⟨fun h => absurd h (by decide +kernel), fun h => by unfold SETC at h; omega⟩), (Or.inl rfl)⟩ (by decide +kernel) (Nat.le_of_ble_eq_true rfl) (Nat.le_of_ble_eq_true rfl) dX12_canSet_57
            · skip
              have ha_116 : r_75.toInt < z_v.toInt := ha_116
              exact em_z (w1 := (fun (u : Unit) => (MW cI cJ M mr mi mf mg))) E hr hlk () hw113 ⟨(show ((0 : Int32) = 1 ↔ SETC (mi 6).toInt z_what.toInt z_who.toInt z_v.toInt) from ⟨fun h => absurd h (by decide +kernel), fun h => by unfold SETC at h; omega⟩), (Or.inl rfl)⟩ (by decide +kernel) (Nat.le_of_ble_eq_true rfl) (Nat.le_of_ble_eq_true rfl) dX12_canSet_57
            · skip
              have ha_117 : (0 : Int32).toInt ≤ z_v.toInt := ha_117
              rw [show (0 : Int32).toInt = 0 from by decide +kernel] at ha_117
              have ha_118 : z_v.toInt ≤ r_75.toInt := ha_118
              exact em_z (w1 := (fun (u : Unit) => (MW cI cJ M mr mi mf mg))) E hr hlk () hw113 ⟨(show ((1 : Int32) = 1 ↔ SETC (mi 6).toInt z_what.toInt z_who.toInt z_v.toInt) from ⟨fun _ => by unfold SETC; omega, fun _ => rfl⟩), (Or.inr (Or.inl ⟨rfl, (by show z_what.toInt = 5; omega), (by show 0 ≤ z_v.toInt; omega), (by show z_v.toInt + 1 ≤ (mi 6).toInt; omega)⟩))⟩ (by decide +kernel) (Nat.le_of_ble_eq_true rfl) (Nat.le_of_ble_eq_true rfl) dX12_canSet_57
          · skip
            have ha_83 : z_what.toInt = 6 := ha_83
            exfalso; omega
          · skip
            have ha_84 : z_what.toInt = 7 := ha_84
            exfalso; omega
          · skip
            have ha_85 : z_what.toInt = 10 := ha_85
            exfalso; omega
          · skip
            have ha_86 : ¬ z_what.toInt = 0 := ha_86
            have ha_87 : ¬ z_what.toInt = 1 := ha_87
            have ha_88 : ¬ z_what.toInt = 5 := ha_88
            have ha_89 : ¬ z_what.toInt = 6 := ha_89
            have ha_90 : ¬ z_what.toInt = 7 := ha_90
            have ha_91 : ¬ z_what.toInt = 10 := ha_91
            refine cm_i (pc := 54) hw77 (rn_M (As := [.int z_v, .int 0, .int 99]) (rest := []) E hw77 (s_isIn l D cI cJ _ M mr mi mf mg z_v 0 99) (gdV q_1622 q_1624 q_46 q_162 q_1625) hdV_X12_isIn ⟨rfl, rfl⟩ ⟨(Nat.le_of_ble_eq_true rfl), (Nat.le_of_ble_eq_true rfl)⟩ ⟨(Nat.le_of_ble_eq_true rfl), (Nat.le_of_ble_eq_true rfl)⟩ 12 rfl rfl rfl rfl hl3.1 rfl (Nat.le_of_ble_eq_true rfl) dX12_canSet_54) (fun r_120 u_119 H1 locs hp hw121 => ?_)
            generalize H1 = H at hw121 ⊢
            have hw122 : WD D A s.heap (MW cI cJ M mr mi mf mg) H locs := hw121
            have hp_123 := hp
            rcases hp_123 with ⟨rfl, ha_124⟩ | ⟨rfl, ha_125⟩ | ⟨rfl, ha_126, ha_127⟩
            · skip
              have ha_124 : z_v.toInt < (0 : Int32).toInt := ha_124
              rw [show (0 : Int32).toInt = 0 from by decide +kernel] at ha_124
              exact em_z (w1 := (fun (u : Unit) => (MW cI cJ M mr mi mf mg))) E hr hlk () hw122 ⟨(show ((0 : Int32) = 1 ↔ SETC (mi 6).toInt z_what.toInt z_who.toInt z_v.toInt) from ⟨fun h => absurd h (by decide +kernel), fun h => by unfold SETC at h; omega⟩), (Or.inl rfl)⟩ (by decide +kernel) (Nat.le_of_ble_eq_true rfl) (Nat.le_of_ble_eq_true rfl) dX12_canSet_57
            · skip
              have ha_125 : (99 : Int32).toInt < z_v.toInt := ha_125
              rw [show (99 : Int32).toInt = 99 from by decide +kernel] at ha_125
              exact em_z (w1 := (fun (u : Unit) => (MW cI cJ M mr mi mf mg))) E hr hlk () hw122 ⟨(show ((0 : Int32) = 1 ↔ SETC (mi 6).toInt z_what.toInt z_who.toInt z_v.toInt) from ⟨fun h => absurd h (by decide +kernel), fun h => by unfold SETC at h; omega⟩), (Or.inl rfl)⟩ (by decide +kernel) (Nat.le_of_ble_eq_true rfl) (Nat.le_of_ble_eq_true rfl) dX12_canSet_57
            · skip
              have ha_126 : (0 : Int32).toInt ≤ z_v.toInt := ha_126
              rw [show (0 : Int32).toInt = 0 from by decide +kernel] at ha_126
              have ha_127 : z_v.toInt ≤ (99 : Int32).toInt := ha_127
              rw [show (99 : Int32).toInt = 99 from by decide +kernel] at ha_127
              exact em_z (w1 := (fun (u : Unit) => (MW cI cJ M mr mi mf mg))) E hr hlk () hw122 ⟨(show ((1 : Int32) = 1 ↔ SETC (mi 6).toInt z_what.toInt z_who.toInt z_v.toInt) from ⟨fun _ => by unfold SETC; omega, fun _ => rfl⟩), (Or.inr (Or.inr (Or.inr (Or.inr (Or.inr (Or.inl ⟨rfl, (by show 0 ≤ z_what.toInt; omega), (by show z_what.toInt ≤ 2; omega)⟩))))))⟩ (by decide +kernel) (Nat.le_of_ble_eq_true rfl) (Nat.le_of_ble_eq_true rfl) dX12_canSet_57
    · skip
      have hc_16 := nleE (a := z_what.toInt) (b := 5) rfl (by decide +kernel) c_16
      refine lv_aload_n (pc := 16) E.1 E.2.1 dX12_canSet_16 rfl (lv_at hl3 0 rfl) ?_
      refine lv_iload_n (pc := 17) E.1 E.2.1 dX12_canSet_17 rfl (lv_at hl3 2 rfl) ?_
      refine cm_i (pc := 18) hw7 (rn_M (As := [.int z_who]) (rest := []) E hw7 (s_isHouse l D cI cJ _ M mr mi mf mg z_who) (gdV q_1634 q_1636 q_48 q_162 q_1637) hdV_X12_isHouse ⟨rfl, rfl⟩ ⟨(Nat.le_of_ble_eq_true rfl), (Nat.le_of_ble_eq_true rfl)⟩ ⟨(Nat.le_of_ble_eq_true rfl), (Nat.le_of_ble_eq_true rfl)⟩ 12 rfl rfl rfl rfl hl3.1 rfl (Nat.le_of_ble_eq_true rfl) dX12_canSet_18) (fun r_129 u_128 H1 locs hp hw130 => ?_)
      generalize H1 = H at hw130 ⊢
      have hw131 : WD D A s.heap (MW cI cJ M mr mi mf mg) H locs := hw130
      have hp_132 := hp
      rcases hp_132 with ⟨rfl, ha_133⟩ | ⟨rfl, ha_134⟩ | ⟨rfl, ha_135, ha_136⟩
      · skip
        have ha_133 : z_who.toInt < 0 := ha_133
        refine lv_if_ne (pc := 21) (tgt := 26) E.1 E.2.1 dX12_canSet_21 (by decide) (fun c_137 => absurd (meqE (a := 0) (b := 0) (by decide +kernel) (by decide +kernel) (by omega)) c_137) (fun _ => ?_)
        refine lv_iconst (pc := 24) (v := 0) E.1 E.2.1 dX12_canSet_24 (by decide +kernel) ?_
        exact em_z (w1 := (fun (u : Unit) => (MW cI cJ M mr mi mf mg))) E hr hlk () hw131 ⟨(show ((0 : Int32) = 1 ↔ SETC (mi 6).toInt z_what.toInt z_who.toInt z_v.toInt) from ⟨fun h => absurd h (by decide +kernel), fun h => by unfold SETC at h; omega⟩), (Or.inl rfl)⟩ (by decide +kernel) (Nat.le_of_ble_eq_true rfl) (Nat.le_of_ble_eq_true rfl) dX12_canSet_25
      · skip
        have ha_134 : (mi 6).toInt ≤ z_who.toInt := ha_134
        refine lv_if_ne (pc := 21) (tgt := 26) E.1 E.2.1 dX12_canSet_21 (by decide) (fun c_138 => absurd (meqE (a := 0) (b := 0) (by decide +kernel) (by decide +kernel) (by omega)) c_138) (fun _ => ?_)
        refine lv_iconst (pc := 24) (v := 0) E.1 E.2.1 dX12_canSet_24 (by decide +kernel) ?_
        exact em_z (w1 := (fun (u : Unit) => (MW cI cJ M mr mi mf mg))) E hr hlk () hw131 ⟨(show ((0 : Int32) = 1 ↔ SETC (mi 6).toInt z_what.toInt z_who.toInt z_v.toInt) from ⟨fun h => absurd h (by decide +kernel), fun h => by unfold SETC at h; omega⟩), (Or.inl rfl)⟩ (by decide +kernel) (Nat.le_of_ble_eq_true rfl) (Nat.le_of_ble_eq_true rfl) dX12_canSet_25
      · skip
        have ha_135 : 0 ≤ z_who.toInt := ha_135
        have ha_136 : z_who.toInt < (mi 6).toInt := ha_136
        refine lv_if_ne (pc := 21) (tgt := 26) E.1 E.2.1 dX12_canSet_21 (by decide) (fun _ => ?_) (fun c_139 => absurd c_139 (mneE (a := 1) (b := 0) (by decide +kernel) (by decide +kernel) (by omega)))
        refine lv_aload_n (pc := 26) E.1 E.2.1 dX12_canSet_26 rfl (lv_at hl3 0 rfl) ?_
        refine lv_iload_n (pc := 27) E.1 E.2.1 dX12_canSet_27 rfl (lv_at hl3 3 rfl) ?_
        refine lv_iload_n (pc := 28) E.1 E.2.1 dX12_canSet_28 rfl (lv_at hl3 1 rfl) ?_
        refine lv_iconst (pc := 29) (v := 3) E.1 E.2.1 dX12_canSet_29 (by decide +kernel) ?_
        refine lv_icmp_eq (pc := 30) (tgt := 44) E.1 E.2.1 dX12_canSet_30 (by decide) (fun c_140 => absurd c_140 (mneE (a := z_what.toInt) (b := 3) rfl (by decide +kernel) (by omega))) (fun _ => ?_)
        refine lv_iload_n (pc := 33) E.1 E.2.1 dX12_canSet_33 rfl (lv_at hl3 1 rfl) ?_
        refine lv_iconst (pc := 34) (v := 4) E.1 E.2.1 dX12_canSet_34 (by decide +kernel) ?_
        refine lv_icmp_eq (pc := 35) (tgt := 44) E.1 E.2.1 dX12_canSet_35 (by decide) (fun c_141 => absurd c_141 (mneE (a := z_what.toInt) (b := 4) rfl (by decide +kernel) (by omega))) (fun _ => ?_)
        refine lv_iload_n (pc := 38) E.1 E.2.1 dX12_canSet_38 rfl (lv_at hl3 1 rfl) ?_
        refine lv_bipush (pc := 39) (v := 6) E.1 E.2.1 dX12_canSet_39 (by decide +kernel) ?_
        refine lv_icmp_ne (pc := 41) (tgt := 48) E.1 E.2.1 dX12_canSet_41 (by decide) (fun c_142 => ?_) (fun c_142 => ?_)
        · skip
          have hc_142 := neE (a := z_what.toInt) (b := 6) rfl (by decide +kernel) c_142
          refine lv_iconst (pc := 48) (v := 0) E.1 E.2.1 dX12_canSet_48 (by decide +kernel) ?_
          refine lv_aload_n (pc := 49) E.1 E.2.1 dX12_canSet_49 rfl (lv_at hl3 0 rfl) ?_
          refine lv_iload_n (pc := 50) E.1 E.2.1 dX12_canSet_50 rfl (lv_at hl3 1 rfl) ?_
          refine cm_i (pc := 51) hw131 (rn_M (As := [.int z_what]) (rest := [.int 0, .int z_v, .ref M]) E hw131 (s_mostOf2 l D cI cJ _ M mr mi mf mg z_what h0) (gdV q_1638 q_1640 q_49 q_162 q_1641) hdV_X12_mostOf ⟨rfl, rfl⟩ ⟨(Nat.le_of_ble_eq_true rfl), (Nat.le_of_ble_eq_true rfl)⟩ ⟨(Nat.le_of_ble_eq_true rfl), (Nat.le_of_ble_eq_true rfl)⟩ 12 rfl rfl rfl rfl hl3.1 rfl (Nat.le_of_ble_eq_true rfl) dX12_canSet_51) (fun r_144 u_143 H1 locs hp hw145 => ?_)
          generalize H1 = H at hw145 ⊢
          have hw146 : WD D A s.heap (MW cI cJ M mr mi mf mg) H locs := hw145
          have hp_147 := hp
          rcases hp_147 with ⟨rfl, ha_148⟩ | ⟨rfl, ha_149⟩ | ⟨ha_150, ha_151⟩ | ⟨rfl, ha_152⟩ | ⟨rfl, ha_153⟩ | ⟨rfl, ha_154⟩ | ⟨rfl, ha_155, ha_156, ha_157, ha_158, ha_159, ha_160⟩
          · skip
            have ha_148 : z_what.toInt = 0 := ha_148
            exfalso; omega
          · skip
            have ha_149 : z_what.toInt = 1 := ha_149
            exfalso; omega
          · skip
            have ha_150 : z_what.toInt = 5 := ha_150
            have ha_151 : r_144.toInt = (mi 6).toInt - 1 := ha_151
            exfalso; omega
          · skip
            have ha_152 : z_what.toInt = 6 := ha_152
            exfalso; omega
          · skip
            have ha_153 : z_what.toInt = 7 := ha_153
            refine cm_i (pc := 54) hw146 (rn_M (As := [.int z_v, .int 0, .int 999]) (rest := []) E hw146 (s_isIn l D cI cJ _ M mr mi mf mg z_v 0 999) (gdV q_1622 q_1624 q_46 q_162 q_1625) hdV_X12_isIn ⟨rfl, rfl⟩ ⟨(Nat.le_of_ble_eq_true rfl), (Nat.le_of_ble_eq_true rfl)⟩ ⟨(Nat.le_of_ble_eq_true rfl), (Nat.le_of_ble_eq_true rfl)⟩ 12 rfl rfl rfl rfl hl3.1 rfl (Nat.le_of_ble_eq_true rfl) dX12_canSet_54) (fun r_162 u_161 H1 locs hp hw163 => ?_)
            generalize H1 = H at hw163 ⊢
            have hw164 : WD D A s.heap (MW cI cJ M mr mi mf mg) H locs := hw163
            have hp_165 := hp
            rcases hp_165 with ⟨rfl, ha_166⟩ | ⟨rfl, ha_167⟩ | ⟨rfl, ha_168, ha_169⟩
            · skip
              have ha_166 : z_v.toInt < (0 : Int32).toInt := ha_166
              rw [show (0 : Int32).toInt = 0 from by decide +kernel] at ha_166
              exact em_z (w1 := (fun (u : Unit) => (MW cI cJ M mr mi mf mg))) E hr hlk () hw164 ⟨(show ((0 : Int32) = 1 ↔ SETC (mi 6).toInt z_what.toInt z_who.toInt z_v.toInt) from ⟨fun h => absurd h (by decide +kernel), fun h => by unfold SETC at h; omega⟩), (Or.inl rfl)⟩ (by decide +kernel) (Nat.le_of_ble_eq_true rfl) (Nat.le_of_ble_eq_true rfl) dX12_canSet_57
            · skip
              have ha_167 : (999 : Int32).toInt < z_v.toInt := ha_167
              rw [show (999 : Int32).toInt = 999 from by decide +kernel] at ha_167
              exact em_z (w1 := (fun (u : Unit) => (MW cI cJ M mr mi mf mg))) E hr hlk () hw164 ⟨(show ((0 : Int32) = 1 ↔ SETC (mi 6).toInt z_what.toInt z_who.toInt z_v.toInt) from ⟨fun h => absurd h (by decide +kernel), fun h => by unfold SETC at h; omega⟩), (Or.inl rfl)⟩ (by decide +kernel) (Nat.le_of_ble_eq_true rfl) (Nat.le_of_ble_eq_true rfl) dX12_canSet_57
            · skip
              have ha_168 : (0 : Int32).toInt ≤ z_v.toInt := ha_168
              rw [show (0 : Int32).toInt = 0 from by decide +kernel] at ha_168
              have ha_169 : z_v.toInt ≤ (999 : Int32).toInt := ha_169
              rw [show (999 : Int32).toInt = 999 from by decide +kernel] at ha_169
              exact em_z (w1 := (fun (u : Unit) => (MW cI cJ M mr mi mf mg))) E hr hlk () hw164 ⟨(show ((1 : Int32) = 1 ↔ SETC (mi 6).toInt z_what.toInt z_who.toInt z_v.toInt) from ⟨fun _ => by unfold SETC; omega, fun _ => rfl⟩), (Or.inr (Or.inr (Or.inr (Or.inr (Or.inr (Or.inr (⟨rfl, (by show 7 ≤ z_what.toInt; omega), (by show z_what.toInt ≤ 10; omega), (by show 0 ≤ z_who.toInt; omega), (by show z_who.toInt + 1 ≤ (mi 6).toInt; omega)⟩)))))))⟩ (by decide +kernel) (Nat.le_of_ble_eq_true rfl) (Nat.le_of_ble_eq_true rfl) dX12_canSet_57
          · skip
            have ha_154 : z_what.toInt = 10 := ha_154
            refine cm_i (pc := 54) hw146 (rn_M (As := [.int z_v, .int 0, .int 9999]) (rest := []) E hw146 (s_isIn l D cI cJ _ M mr mi mf mg z_v 0 9999) (gdV q_1622 q_1624 q_46 q_162 q_1625) hdV_X12_isIn ⟨rfl, rfl⟩ ⟨(Nat.le_of_ble_eq_true rfl), (Nat.le_of_ble_eq_true rfl)⟩ ⟨(Nat.le_of_ble_eq_true rfl), (Nat.le_of_ble_eq_true rfl)⟩ 12 rfl rfl rfl rfl hl3.1 rfl (Nat.le_of_ble_eq_true rfl) dX12_canSet_54) (fun r_171 u_170 H1 locs hp hw172 => ?_)
            generalize H1 = H at hw172 ⊢
            have hw173 : WD D A s.heap (MW cI cJ M mr mi mf mg) H locs := hw172
            have hp_174 := hp
            rcases hp_174 with ⟨rfl, ha_175⟩ | ⟨rfl, ha_176⟩ | ⟨rfl, ha_177, ha_178⟩
            · skip
              have ha_175 : z_v.toInt < (0 : Int32).toInt := ha_175
              rw [show (0 : Int32).toInt = 0 from by decide +kernel] at ha_175
              exact em_z (w1 := (fun (u : Unit) => (MW cI cJ M mr mi mf mg))) E hr hlk () hw173 ⟨(show ((0 : Int32) = 1 ↔ SETC (mi 6).toInt z_what.toInt z_who.toInt z_v.toInt) from ⟨fun h => absurd h (by decide +kernel), fun h => by unfold SETC at h; omega⟩), (Or.inl rfl)⟩ (by decide +kernel) (Nat.le_of_ble_eq_true rfl) (Nat.le_of_ble_eq_true rfl) dX12_canSet_57
            · skip
              have ha_176 : (9999 : Int32).toInt < z_v.toInt := ha_176
              rw [show (9999 : Int32).toInt = 9999 from by decide +kernel] at ha_176
              exact em_z (w1 := (fun (u : Unit) => (MW cI cJ M mr mi mf mg))) E hr hlk () hw173 ⟨(show ((0 : Int32) = 1 ↔ SETC (mi 6).toInt z_what.toInt z_who.toInt z_v.toInt) from ⟨fun h => absurd h (by decide +kernel), fun h => by unfold SETC at h; omega⟩), (Or.inl rfl)⟩ (by decide +kernel) (Nat.le_of_ble_eq_true rfl) (Nat.le_of_ble_eq_true rfl) dX12_canSet_57
            · skip
              have ha_177 : (0 : Int32).toInt ≤ z_v.toInt := ha_177
              rw [show (0 : Int32).toInt = 0 from by decide +kernel] at ha_177
              have ha_178 : z_v.toInt ≤ (9999 : Int32).toInt := ha_178
              rw [show (9999 : Int32).toInt = 9999 from by decide +kernel] at ha_178
              exact em_z (w1 := (fun (u : Unit) => (MW cI cJ M mr mi mf mg))) E hr hlk () hw173 ⟨(show ((1 : Int32) = 1 ↔ SETC (mi 6).toInt z_what.toInt z_who.toInt z_v.toInt) from ⟨fun _ => by unfold SETC; omega, fun _ => rfl⟩), (Or.inr (Or.inr (Or.inr (Or.inr (Or.inr (Or.inr (⟨rfl, (by show 7 ≤ z_what.toInt; omega), (by show z_what.toInt ≤ 10; omega), (by show 0 ≤ z_who.toInt; omega), (by show z_who.toInt + 1 ≤ (mi 6).toInt; omega)⟩)))))))⟩ (by decide +kernel) (Nat.le_of_ble_eq_true rfl) (Nat.le_of_ble_eq_true rfl) dX12_canSet_57
          · skip
            have ha_155 : ¬ z_what.toInt = 0 := ha_155
            have ha_156 : ¬ z_what.toInt = 1 := ha_156
            have ha_157 : ¬ z_what.toInt = 5 := ha_157
            have ha_158 : ¬ z_what.toInt = 6 := ha_158
            have ha_159 : ¬ z_what.toInt = 7 := ha_159
            have ha_160 : ¬ z_what.toInt = 10 := ha_160
            refine cm_i (pc := 54) hw146 (rn_M (As := [.int z_v, .int 0, .int 99]) (rest := []) E hw146 (s_isIn l D cI cJ _ M mr mi mf mg z_v 0 99) (gdV q_1622 q_1624 q_46 q_162 q_1625) hdV_X12_isIn ⟨rfl, rfl⟩ ⟨(Nat.le_of_ble_eq_true rfl), (Nat.le_of_ble_eq_true rfl)⟩ ⟨(Nat.le_of_ble_eq_true rfl), (Nat.le_of_ble_eq_true rfl)⟩ 12 rfl rfl rfl rfl hl3.1 rfl (Nat.le_of_ble_eq_true rfl) dX12_canSet_54) (fun r_180 u_179 H1 locs hp hw181 => ?_)
            generalize H1 = H at hw181 ⊢
            have hw182 : WD D A s.heap (MW cI cJ M mr mi mf mg) H locs := hw181
            have hp_183 := hp
            rcases hp_183 with ⟨rfl, ha_184⟩ | ⟨rfl, ha_185⟩ | ⟨rfl, ha_186, ha_187⟩
            · skip
              have ha_184 : z_v.toInt < (0 : Int32).toInt := ha_184
              rw [show (0 : Int32).toInt = 0 from by decide +kernel] at ha_184
              exact em_z (w1 := (fun (u : Unit) => (MW cI cJ M mr mi mf mg))) E hr hlk () hw182 ⟨(show ((0 : Int32) = 1 ↔ SETC (mi 6).toInt z_what.toInt z_who.toInt z_v.toInt) from ⟨fun h => absurd h (by decide +kernel), fun h => by unfold SETC at h; omega⟩), (Or.inl rfl)⟩ (by decide +kernel) (Nat.le_of_ble_eq_true rfl) (Nat.le_of_ble_eq_true rfl) dX12_canSet_57
            · skip
              have ha_185 : (99 : Int32).toInt < z_v.toInt := ha_185
              rw [show (99 : Int32).toInt = 99 from by decide +kernel] at ha_185
              exact em_z (w1 := (fun (u : Unit) => (MW cI cJ M mr mi mf mg))) E hr hlk () hw182 ⟨(show ((0 : Int32) = 1 ↔ SETC (mi 6).toInt z_what.toInt z_who.toInt z_v.toInt) from ⟨fun h => absurd h (by decide +kernel), fun h => by unfold SETC at h; omega⟩), (Or.inl rfl)⟩ (by decide +kernel) (Nat.le_of_ble_eq_true rfl) (Nat.le_of_ble_eq_true rfl) dX12_canSet_57
            · skip
              have ha_186 : (0 : Int32).toInt ≤ z_v.toInt := ha_186
              rw [show (0 : Int32).toInt = 0 from by decide +kernel] at ha_186
              have ha_187 : z_v.toInt ≤ (99 : Int32).toInt := ha_187
              rw [show (99 : Int32).toInt = 99 from by decide +kernel] at ha_187
              exact em_z (w1 := (fun (u : Unit) => (MW cI cJ M mr mi mf mg))) E hr hlk () hw182 ⟨(show ((1 : Int32) = 1 ↔ SETC (mi 6).toInt z_what.toInt z_who.toInt z_v.toInt) from ⟨fun _ => by unfold SETC; omega, fun _ => rfl⟩), (Or.inr (Or.inr (Or.inr (Or.inr (Or.inr (Or.inr (⟨rfl, (by show 7 ≤ z_what.toInt; omega), (by show z_what.toInt ≤ 10; omega), (by show 0 ≤ z_who.toInt; omega), (by show z_who.toInt + 1 ≤ (mi 6).toInt; omega)⟩)))))))⟩ (by decide +kernel) (Nat.le_of_ble_eq_true rfl) (Nat.le_of_ble_eq_true rfl) dX12_canSet_57
        · skip
          have hc_142 := eqE (a := z_what.toInt) (b := 6) rfl (by decide +kernel) c_142
          refine lv_iconst (pc := 44) (v := 1) E.1 E.2.1 dX12_canSet_44 (by decide +kernel) ?_
          refine lv_goto (pc := 45) (tgt := 49) E.1 E.2.1 dX12_canSet_45 (by decide) ?_
          refine lv_aload_n (pc := 49) E.1 E.2.1 dX12_canSet_49 rfl (lv_at hl3 0 rfl) ?_
          refine lv_iload_n (pc := 50) E.1 E.2.1 dX12_canSet_50 rfl (lv_at hl3 1 rfl) ?_
          refine cm_i (pc := 51) hw131 (rn_M (As := [.int z_what]) (rest := [.int 1, .int z_v, .ref M]) E hw131 (s_mostOf2 l D cI cJ _ M mr mi mf mg z_what h0) (gdV q_1638 q_1640 q_49 q_162 q_1641) hdV_X12_mostOf ⟨rfl, rfl⟩ ⟨(Nat.le_of_ble_eq_true rfl), (Nat.le_of_ble_eq_true rfl)⟩ ⟨(Nat.le_of_ble_eq_true rfl), (Nat.le_of_ble_eq_true rfl)⟩ 12 rfl rfl rfl rfl hl3.1 rfl (Nat.le_of_ble_eq_true rfl) dX12_canSet_51) (fun r_189 u_188 H1 locs hp hw190 => ?_)
          generalize H1 = H at hw190 ⊢
          have hw191 : WD D A s.heap (MW cI cJ M mr mi mf mg) H locs := hw190
          have hp_192 := hp
          rcases hp_192 with ⟨rfl, ha_193⟩ | ⟨rfl, ha_194⟩ | ⟨ha_195, ha_196⟩ | ⟨rfl, ha_197⟩ | ⟨rfl, ha_198⟩ | ⟨rfl, ha_199⟩ | ⟨rfl, ha_200, ha_201, ha_202, ha_203, ha_204, ha_205⟩
          · skip
            have ha_193 : z_what.toInt = 0 := ha_193
            exfalso; omega
          · skip
            have ha_194 : z_what.toInt = 1 := ha_194
            exfalso; omega
          · skip
            have ha_195 : z_what.toInt = 5 := ha_195
            have ha_196 : r_189.toInt = (mi 6).toInt - 1 := ha_196
            exfalso; omega
          · skip
            have ha_197 : z_what.toInt = 6 := ha_197
            refine cm_i (pc := 54) hw191 (rn_M (As := [.int z_v, .int 1, .int 20]) (rest := []) E hw191 (s_isIn l D cI cJ _ M mr mi mf mg z_v 1 20) (gdV q_1622 q_1624 q_46 q_162 q_1625) hdV_X12_isIn ⟨rfl, rfl⟩ ⟨(Nat.le_of_ble_eq_true rfl), (Nat.le_of_ble_eq_true rfl)⟩ ⟨(Nat.le_of_ble_eq_true rfl), (Nat.le_of_ble_eq_true rfl)⟩ 12 rfl rfl rfl rfl hl3.1 rfl (Nat.le_of_ble_eq_true rfl) dX12_canSet_54) (fun r_207 u_206 H1 locs hp hw208 => ?_)
            generalize H1 = H at hw208 ⊢
            have hw209 : WD D A s.heap (MW cI cJ M mr mi mf mg) H locs := hw208
            have hp_210 := hp
            rcases hp_210 with ⟨rfl, ha_211⟩ | ⟨rfl, ha_212⟩ | ⟨rfl, ha_213, ha_214⟩
            · skip
              have ha_211 : z_v.toInt < (1 : Int32).toInt := ha_211
              rw [show (1 : Int32).toInt = 1 from by decide +kernel] at ha_211
              exact em_z (w1 := (fun (u : Unit) => (MW cI cJ M mr mi mf mg))) E hr hlk () hw209 ⟨(show ((0 : Int32) = 1 ↔ SETC (mi 6).toInt z_what.toInt z_who.toInt z_v.toInt) from ⟨fun h => absurd h (by decide +kernel), fun h => by unfold SETC at h; omega⟩), (Or.inl rfl)⟩ (by decide +kernel) (Nat.le_of_ble_eq_true rfl) (Nat.le_of_ble_eq_true rfl) dX12_canSet_57
            · skip
              have ha_212 : (20 : Int32).toInt < z_v.toInt := ha_212
              rw [show (20 : Int32).toInt = 20 from by decide +kernel] at ha_212
              exact em_z (w1 := (fun (u : Unit) => (MW cI cJ M mr mi mf mg))) E hr hlk () hw209 ⟨(show ((0 : Int32) = 1 ↔ SETC (mi 6).toInt z_what.toInt z_who.toInt z_v.toInt) from ⟨fun h => absurd h (by decide +kernel), fun h => by unfold SETC at h; omega⟩), (Or.inl rfl)⟩ (by decide +kernel) (Nat.le_of_ble_eq_true rfl) (Nat.le_of_ble_eq_true rfl) dX12_canSet_57
            · skip
              have ha_213 : (1 : Int32).toInt ≤ z_v.toInt := ha_213
              rw [show (1 : Int32).toInt = 1 from by decide +kernel] at ha_213
              have ha_214 : z_v.toInt ≤ (20 : Int32).toInt := ha_214
              rw [show (20 : Int32).toInt = 20 from by decide +kernel] at ha_214
              exact em_z (w1 := (fun (u : Unit) => (MW cI cJ M mr mi mf mg))) E hr hlk () hw209 ⟨(show ((1 : Int32) = 1 ↔ SETC (mi 6).toInt z_what.toInt z_who.toInt z_v.toInt) from ⟨fun _ => by unfold SETC; omega, fun _ => rfl⟩), (Or.inr (Or.inr (Or.inr (Or.inr (Or.inl ⟨rfl, (by show z_what.toInt = 6; omega), (by show 1 ≤ z_v.toInt; omega), (by show z_v.toInt ≤ 20; omega), (by show 0 ≤ z_who.toInt; omega), (by show z_who.toInt + 1 ≤ (mi 6).toInt; omega)⟩)))))⟩ (by decide +kernel) (Nat.le_of_ble_eq_true rfl) (Nat.le_of_ble_eq_true rfl) dX12_canSet_57
          · skip
            have ha_198 : z_what.toInt = 7 := ha_198
            exfalso; omega
          · skip
            have ha_199 : z_what.toInt = 10 := ha_199
            exfalso; omega
          · skip
            have ha_200 : ¬ z_what.toInt = 0 := ha_200
            have ha_201 : ¬ z_what.toInt = 1 := ha_201
            have ha_202 : ¬ z_what.toInt = 5 := ha_202
            have ha_203 : ¬ z_what.toInt = 6 := ha_203
            have ha_204 : ¬ z_what.toInt = 7 := ha_204
            have ha_205 : ¬ z_what.toInt = 10 := ha_205
            exfalso; omega
