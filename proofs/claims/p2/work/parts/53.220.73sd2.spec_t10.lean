set_option maxHeartbeats 4000000 in
set_option maxRecDepth 100000 in
theorem s_readNeedsT (l : Launch) (D : va_G) (cI cJ : ClassId) (sz M : Nat) (mr : Nat → Nat) (mi : Nat → Int32) (mf : Nat → Nat → Int32) (mg : Nat → Nat → Int64)  (h0 : 0 ≤ (mi 23).toInt) (h1 : (mi 23).toInt ≤ (mi 22).toInt) (h2 : (mi 22).toInt ≤ (mi 21).toInt) (h3 : (mi 21).toInt ≤ 400) (h4 : 0 ≤ (mi 24).toInt) (h5 : (mi 24).toInt ≤ 4) (h6 : (mi 24).toInt ≤ 4 * (mi 22).toInt - 4 * (mi 23).toInt) (h7 : ((mf 26) 153).toInt = 32) (h8 : 0 ≤ (mi 6).toInt ∧ (mi 6).toInt ≤ 10) (a_tape : b255 (mf 20)) (lf_words : (∀ j : Nat, j < 154 → (mf 26) j = w0 j)) (lf_again : AGN ((mi 24).toInt) ((mi 25).toInt) ((mi 23).toInt) ((mi 22).toInt)) : Met l yX12_readNeeds (Cond.code yX12_readNeeds cX12_readNeeds 2 (some .int) :: GW) ({ frames := 6, cells := 0, slots := 0, locals := 149 } : Room) (va_Pc [.ref M] (PW D cI cJ sz (MW cI cJ M mr mi mf mg) xT)) (va_Qi (fun (r : Int32) (u : Int32 × Int32 × Int32 × Int32 × Int32 × Int32 × (Nat → Int32)) => (0 ≤ u.2.1.toInt) ∧ (u.2.1.toInt ≤ u.1.toInt) ∧ (u.1.toInt ≤ (mi 21).toInt) ∧ (0 ≤ u.2.2.1.toInt) ∧ (u.2.2.1.toInt ≤ 4) ∧ (u.2.2.1.toInt ≤ 4 * u.1.toInt - 4 * u.2.1.toInt) ∧ (AGN u.2.2.1.toInt u.2.2.2.1.toInt u.2.1.toInt u.1.toInt) ∧ ((∀ p0 : Int, TKR (mf 20) (mi 21).toInt p0 (mi 23).toInt (mi 22).toInt (mi 24).toInt (mi 25).toInt → RC (rdR (mf 20) (mi 21).toInt (needR (mf 20) (mi 21).toInt ((mi 6).toInt - 1)) 20 10 11 0 p0) (r : Int32).toInt u.2.2.2.2.1.toInt u.2.2.2.2.2.1.toInt)) ∧ ((r = (-1)) ∨ (0 ≤ r.toInt ∧ r.toInt ≤ 10))) (fun u => QW D cI cJ (va_A (MW cI cJ M mr mi mf mg) sz) ((fun (u : Int32 × Int32 × Int32 × Int32 × Int32 × Int32 × (Nat → Int32)) => (MW cI cJ M mr (upd (upd (upd (upd (upd (upd mi 22 u.1) 23 u.2.1) 24 u.2.2.1) 25 u.2.2.2.1) 38 u.2.2.2.2.1) 39 u.2.2.2.2.2.1) (va_up mf 45 u.2.2.2.2.2.2) mg)) u)) (va_A (MW cI cJ M mr mi mf mg) sz)) 0 0 (va_A (MW cI cJ M mr mi mf mg) sz) := by
  refine mk_met (y := yX12_readNeeds) (bytes := cX12_readNeeds) (maxL := 2) (avs := [.ref M]) (WS := (MW cI cJ M mr mi mf mg)) (Qf := fun A => va_Qi (fun (r : Int32) (u : Int32 × Int32 × Int32 × Int32 × Int32 × Int32 × (Nat → Int32)) => (0 ≤ u.2.1.toInt) ∧ (u.2.1.toInt ≤ u.1.toInt) ∧ (u.1.toInt ≤ (mi 21).toInt) ∧ (0 ≤ u.2.2.1.toInt) ∧ (u.2.2.1.toInt ≤ 4) ∧ (u.2.2.1.toInt ≤ 4 * u.1.toInt - 4 * u.2.1.toInt) ∧ (AGN u.2.2.1.toInt u.2.2.2.1.toInt u.2.1.toInt u.1.toInt) ∧ ((∀ p0 : Int, TKR (mf 20) (mi 21).toInt p0 (mi 23).toInt (mi 22).toInt (mi 24).toInt (mi 25).toInt → RC (rdR (mf 20) (mi 21).toInt (needR (mf 20) (mi 21).toInt ((mi 6).toInt - 1)) 20 10 11 0 p0) (r : Int32).toInt u.2.2.2.2.1.toInt u.2.2.2.2.2.1.toInt)) ∧ ((r = (-1)) ∨ (0 ≤ r.toInt ∧ r.toInt ≤ 10))) (fun u => QW D cI cJ A ((fun (u : Int32 × Int32 × Int32 × Int32 × Int32 × Int32 × (Nat → Int32)) => (MW cI cJ M mr (upd (upd (upd (upd (upd (upd mi 22 u.1) 23 u.2.1) 24 u.2.2.1) 25 u.2.2.2.1) 38 u.2.2.2.2.1) 39 u.2.2.2.2.2.1) (va_up mf 45 u.2.2.2.2.2.2) mg)) u)) A) (by decide) (Nat.le_of_ble_eq_true rfl) ?_
  intro p e s m below meth c A ls E hr hlk hnm hX hw1 hl2
  have hl3 : lv_has ls 2 [(0, .ref M)] := hl2
  refine lv_iconst (pc := 0) (v := 0) E.1 E.2.1 dX12_readNeeds_0 (by decide +kernel) ?_
  refine lv_istore_n (pc := 1) (lv' := [(1, .int 0), (0, .ref M)]) E.1 E.2.1 dX12_readNeeds_1 rfl hl3 (by decide) rfl (fun ls hl4 => ?_)
  have loop_5 : ∀ (k : Nat) (x_6 : Int32) (x_7 : Int32) (x_8 : Int32) (x_9 : Int32) (x_10 : Int32) (x_11 : Int32) (x_12 : Int32) (g_13 : Nat → Int32) (H : Heap) (locs : List Loc) (ls : Array Slot), (0 ≤ x_8.toInt) ∧ (x_8.toInt ≤ x_7.toInt) ∧ (x_7.toInt ≤ (mi 21).toInt) ∧ (0 ≤ x_9.toInt) ∧ (x_9.toInt ≤ 4) ∧ (x_9.toInt ≤ 4 * x_7.toInt - 4 * x_8.toInt) ∧ (0 ≤ x_6.toInt) ∧ (x_6.toInt ≤ 10) ∧ (RLR (mf 20) (mi 21).toInt (needR (mf 20) (mi 21).toInt ((mi 6).toInt - 1)) 20 10 (mi 23).toInt (mi 22).toInt (mi 24).toInt (mi 25).toInt x_6.toInt x_8.toInt x_7.toInt x_9.toInt x_10.toInt) ∧ (AGN x_9.toInt x_10.toInt x_8.toInt x_7.toInt) → 11 - x_6.toInt < (k : Int) → WD D A s.heap (MW cI cJ M mr (upd (upd (upd (upd (upd (upd mi 22 x_7) 23 x_8) 24 x_9) 25 x_10) 38 x_11) 39 x_12) (va_up mf 45 g_13) mg) H locs → lv_has ls 2 [(1, .int x_6), (0, .ref M)] → W p l e ({ frames := 6, cells := 0, slots := 0, locals := 149 } : Room) s m ([.ref M] : List Value).toArray below meth c H locs 0 0 (MQ below (va_Qi (fun (r : Int32) (u : Int32 × Int32 × Int32 × Int32 × Int32 × Int32 × (Nat → Int32)) => (0 ≤ u.2.1.toInt) ∧ (u.2.1.toInt ≤ u.1.toInt) ∧ (u.1.toInt ≤ (mi 21).toInt) ∧ (0 ≤ u.2.2.1.toInt) ∧ (u.2.2.1.toInt ≤ 4) ∧ (u.2.2.1.toInt ≤ 4 * u.1.toInt - 4 * u.2.1.toInt) ∧ (AGN u.2.2.1.toInt u.2.2.2.1.toInt u.2.1.toInt u.1.toInt) ∧ ((∀ p0 : Int, TKR (mf 20) (mi 21).toInt p0 (mi 23).toInt (mi 22).toInt (mi 24).toInt (mi 25).toInt → RC (rdR (mf 20) (mi 21).toInt (needR (mf 20) (mi 21).toInt ((mi 6).toInt - 1)) 20 10 11 0 p0) (r : Int32).toInt u.2.2.2.2.1.toInt u.2.2.2.2.2.1.toInt)) ∧ ((r = (-1)) ∨ (0 ≤ r.toInt ∧ r.toInt ≤ 10))) (fun u => QW D cI cJ A ((fun (u : Int32 × Int32 × Int32 × Int32 × Int32 × Int32 × (Nat → Int32)) => (MW cI cJ M mr (upd (upd (upd (upd (upd (upd mi 22 u.1) 23 u.2.1) 24 u.2.2.1) 25 u.2.2.2.1) 38 u.2.2.2.2.1) 39 u.2.2.2.2.2.1) (va_up mf 45 u.2.2.2.2.2.2) mg)) u)) A) ([.ref M] : List Value).toArray s 0 0 A) (F0 m 2 ls []) := by
    intro k
    induction k with
    | zero =>
      intro x_6 x_7 x_8 x_9 x_10 x_11 x_12 g_13 _ _ _ hinv hm
      obtain ⟨hi_13_0, hi_13_1, hi_13_2, hi_13_3, hi_13_4, hi_13_5, hi_13_6, hi_13_7, hi_13_8, hi_13_9⟩ := hinv
      exact absurd hm (by omega)
    | succ k ih_14 =>
      intro x_6 x_7 x_8 x_9 x_10 x_11 x_12 g_13 H locs ls hinv hm hw15 hl16
      obtain ⟨hi_13_0, hi_13_1, hi_13_2, hi_13_3, hi_13_4, hi_13_5, hi_13_6, hi_13_7, hi_13_8, hi_13_9⟩ := hinv
      refine lv_aload_n (pc := 2) E.1 E.2.1 dX12_readNeeds_2 rfl (lv_at hl16 1 rfl) ?_
      refine lv_bipush (pc := 3) (v := 20) E.1 E.2.1 dX12_readNeeds_3 (by decide +kernel) ?_
      refine cm_i (pc := 5) hw15 (rn_M (As := [.int 20]) (rest := []) E hw15 (s_isWordT l D cI cJ _ M mr (upd (upd (upd (upd (upd (upd mi 22 x_7) 23 x_8) 24 x_9) 25 x_10) 38 x_11) 39 x_12) (va_up mf 45 g_13) mg 20) (gdV q_1694 q_1696 q_59 q_162 q_1697) hdV_X12_isWord ⟨rfl, rfl⟩ ⟨(Nat.le_of_ble_eq_true rfl), (Nat.le_of_ble_eq_true rfl)⟩ ⟨(Nat.le_of_ble_eq_true rfl), (Nat.le_of_ble_eq_true rfl)⟩ 12 rfl rfl rfl rfl hl16.1 rfl (Nat.le_of_ble_eq_true rfl) dX12_readNeeds_5) (fun r_18 u_17 H1 locs hp hw19 => ?_)
      generalize H1 = H at hw19 ⊢
      have hw20 : WD D A s.heap (MW cI cJ M mr (upd (upd (upd (upd (upd (upd mi 22 x_7) 23 x_8) 24 x_9) 25 x_10) 38 x_11) 39 x_12) (va_up mf 45 g_13) mg) H locs := hw19
      have hp_21 := hp
      rcases hp_21 with ⟨rfl, ha_22, ha_23⟩ | ⟨rfl, ha_24⟩ | ⟨rfl, ha_25⟩
      · skip
        have ha_22 : x_9.toInt = 2 := ha_22
        have ha_23 : x_10.toInt = (20 : Int32).toInt := ha_23
        rw [show (20 : Int32).toInt = 20 from by decide +kernel] at ha_23
        refine lv_if_eq (pc := 8) (tgt := 50) E.1 E.2.1 dX12_readNeeds_8 (by decide) (fun c_26 => absurd c_26 (mneE (a := 1) (b := 0) (by decide +kernel) (by decide +kernel) (by omega))) (fun _ => ?_)
        refine lv_iload_n (pc := 11) E.1 E.2.1 dX12_readNeeds_11 rfl (lv_at hl16 0 rfl) ?_
        refine lv_bipush (pc := 12) (v := 10) E.1 E.2.1 dX12_readNeeds_12 (by decide +kernel) ?_
        refine lv_icmp_ne (pc := 14) (tgt := 23) E.1 E.2.1 dX12_readNeeds_14 (by decide) (fun c_27 => ?_) (fun c_27 => ?_)
        · skip
          have hc_27 := neE (a := x_6.toInt) (b := 10) rfl (by decide +kernel) c_27
          refine lv_aload_n (pc := 23) E.1 E.2.1 dX12_readNeeds_23 rfl (lv_at hl16 1 rfl) ?_
          refine cm_v (pc := 24) hw20 (rn_M (As := []) (rest := []) E hw20 (s_readsT l D cI cJ _ M mr (upd (upd (upd (upd (upd (upd mi 22 x_7) 23 x_8) 24 x_9) 25 x_10) 38 x_11) 39 x_12) (va_up mf 45 g_13) mg (by show 0 ≤ x_7.toInt; omega) hi_13_2 h3 h7 a_tape (show (∀ j : Nat, j < 154 → (mf 26) j = w0 j) from lf_words)) (gdV q_1666 q_1668 q_52 q_162 q_1669) hdV_X12_reads ⟨rfl, rfl⟩ ⟨(Nat.le_of_ble_eq_true rfl), (Nat.le_of_ble_eq_true rfl)⟩ ⟨(Nat.le_of_ble_eq_true rfl), (Nat.le_of_ble_eq_true rfl)⟩ 12 rfl rfl rfl rfl hl16.1 rfl (Nat.le_of_ble_eq_true rfl) dX12_readNeeds_24) (fun u_28 H1 locs hp hw30 => ?_)
          obtain ⟨nspot_31, nfrom_32, ntoken_33, nvalue_34⟩ := u_28
          generalize H1 = H at hw30 ⊢
          have hw35 : WD D A s.heap (MW cI cJ M mr (upd (upd (upd (upd (upd (upd mi 22 nspot_31) 23 nfrom_32) 24 ntoken_33) 25 nvalue_34) 38 x_11) 39 x_12) (va_up mf 45 g_13) mg) H locs := hw30
          obtain ⟨hp_36, hp_37, hp_38, hp_39, hp_40, hp_41, hp_42, hp_43, hp_44⟩ := hp
          have hp_36 : 0 ≤ nfrom_32.toInt := hp_36
          have hp_37 : nfrom_32.toInt ≤ nspot_31.toInt := hp_37
          have hp_38 : nspot_31.toInt ≤ (mi 21).toInt := hp_38
          have hp_39 : 0 ≤ ntoken_33.toInt := hp_39
          have hp_40 : ntoken_33.toInt ≤ 4 := hp_40
          have hp_41 : ntoken_33.toInt ≤ 4 * nspot_31.toInt - 4 * nfrom_32.toInt := hp_41
          have hp_42 : x_7.toInt ≤ nfrom_32.toInt := hp_42
          have hp_43 : AGN ntoken_33.toInt nvalue_34.toInt nfrom_32.toInt nspot_31.toInt := hp_43
          have hp_44 : TKR (mf 20) (mi 21).toInt x_7.toInt nfrom_32.toInt nspot_31.toInt ntoken_33.toInt nvalue_34.toInt := hp_44
          refine lv_aload_n (pc := 27) E.1 E.2.1 dX12_readNeeds_27 rfl (lv_at hl16 1 rfl) ?_
          refine lv_bipush (pc := 28) (v := 50) E.1 E.2.1 dX12_readNeeds_28 (by decide +kernel) ?_
          refine lv_iconst (pc := 30) (v := 5) E.1 E.2.1 dX12_readNeeds_30 (by decide +kernel) ?_
          refine lv_iload_n (pc := 31) E.1 E.2.1 dX12_readNeeds_31 rfl (lv_at hl16 0 rfl) ?_
          refine lv_imul (pc := 32) E.1 E.2.1 dX12_readNeeds_32 ?_
          refine lv_topi (fun v_45 ev_45 => ?_)
          have hv_45 : v_45.toInt = 5 * x_6.toInt := by rw [ev_45]; exact mulE (by decide +kernel) rfl (by omega)
          refine lv_iadd (pc := 33) E.1 E.2.1 dX12_readNeeds_33 ?_
          refine lv_topi (fun v_46 ev_46 => ?_)
          have hv_46 : v_46.toInt = 50 + v_45.toInt := by rw [ev_46]; exact addE (by decide +kernel) rfl (by omega)
          refine cm_i (pc := 34) hw35 (rn_M (As := [.int v_46]) (rest := []) E hw35 (s_readNeedT l D cI cJ _ M mr (upd (upd (upd (upd (upd (upd mi 22 nspot_31) 23 nfrom_32) 24 ntoken_33) 25 nvalue_34) 38 x_11) 39 x_12) (va_up mf 45 g_13) mg v_46 hp_36 hp_37 hp_38 h3 hp_39 hp_40 hp_41 h7 h8 (by show 50 ≤ v_46.toInt ∧ v_46.toInt ≤ 95; omega) a_tape (show (∀ j : Nat, j < 154 → (mf 26) j = w0 j) from lf_words) (show AGN ntoken_33.toInt nvalue_34.toInt nfrom_32.toInt nspot_31.toInt from hp_43)) (gdV q_1726 q_1728 q_67 q_162 q_1729) hdV_X12_readNeed ⟨rfl, rfl⟩ ⟨(Nat.le_of_ble_eq_true rfl), (Nat.le_of_ble_eq_true rfl)⟩ ⟨(Nat.le_of_ble_eq_true rfl), (Nat.le_of_ble_eq_true rfl)⟩ 12 rfl rfl rfl rfl hl16.1 rfl (Nat.le_of_ble_eq_true rfl) dX12_readNeeds_34) (fun r_48 u_47 H1 locs hp hw49 => ?_)
          obtain ⟨nspot_50, nfrom_51, ntoken_52, nvalue_53, nreadFault_54, nreadPlace_55, gneeds_56⟩ := u_47
          generalize H1 = H at hw49 ⊢
          have hw57 : WD D A s.heap (MW cI cJ M mr (upd (upd (upd (upd (upd (upd mi 22 nspot_50) 23 nfrom_51) 24 ntoken_52) 25 nvalue_53) 38 nreadFault_54) 39 nreadPlace_55) (va_up mf 45 gneeds_56) mg) H locs := hw49
          obtain ⟨hp_58, hp_59, hp_60, hp_61, hp_62, hp_63, hp_64, hp_65, hp_66⟩ := hp
          have hp_58 : 0 ≤ nfrom_51.toInt := hp_58
          have hp_59 : nfrom_51.toInt ≤ nspot_50.toInt := hp_59
          have hp_60 : nspot_50.toInt ≤ (mi 21).toInt := hp_60
          have hp_61 : 0 ≤ ntoken_52.toInt := hp_61
          have hp_62 : ntoken_52.toInt ≤ 4 := hp_62
          have hp_63 : ntoken_52.toInt ≤ 4 * nspot_50.toInt - 4 * nfrom_51.toInt := hp_63
          have hp_64 : AGN ntoken_52.toInt nvalue_53.toInt nfrom_51.toInt nspot_50.toInt := hp_64
          have hp_65 : (∀ p : Int, TKR (mf 20) (mi 21).toInt p nfrom_32.toInt nspot_31.toInt ntoken_33.toInt nvalue_34.toInt → RX (mf 20) (mi 21).toInt (needR (mf 20) (mi 21).toInt ((mi 6).toInt - 1) p) (r_48 : Int32).toInt nreadFault_54.toInt nreadPlace_55.toInt nfrom_51.toInt nspot_50.toInt ntoken_52.toInt nvalue_53.toInt) := hp_65
          rcases hp_66 with rfl | rfl
          · skip
            refine lv_iconst (pc := 37) (v := (-1)) E.1 E.2.1 dX12_readNeeds_37 (by decide +kernel) ?_
            refine lv_icmp_ne (pc := 38) (tgt := 43) E.1 E.2.1 dX12_readNeeds_38 (by decide) (fun c_67 => absurd (meqE (a := (-1)) (b := (-1)) (by decide +kernel) (by decide +kernel) (by omega)) c_67) (fun _ => ?_)
            refine lv_iconst (pc := 41) (v := (-1)) E.1 E.2.1 dX12_readNeeds_41 (by decide +kernel) ?_
            exact em_i (w1 := (fun (u : Int32 × Int32 × Int32 × Int32 × Int32 × Int32 × (Nat → Int32)) => (MW cI cJ M mr (upd (upd (upd (upd (upd (upd mi 22 u.1) 23 u.2.1) 24 u.2.2.1) 25 u.2.2.2.1) 38 u.2.2.2.2.1) 39 u.2.2.2.2.2.1) (va_up mf 45 u.2.2.2.2.2.2) mg))) E hr hlk (nspot_50, nfrom_51, ntoken_52, nvalue_53, nreadFault_54, nreadPlace_55, gneeds_56) hw57 ⟨hp_58, hp_59, hp_60, hp_61, hp_62, hp_63, hp_64, (show (∀ p0 : Int, TKR (mf 20) (mi 21).toInt p0 (mi 23).toInt (mi 22).toInt (mi 24).toInt (mi 25).toInt → RC (rdR (mf 20) (mi 21).toInt (needR (mf 20) (mi 21).toInt ((mi 6).toInt - 1)) 20 10 11 0 p0) ((-1) : Int32).toInt nreadFault_54.toInt nreadPlace_55.toInt) from (RLR_err hi_13_8 (by omega) (by omega) (by omega) hp_44 hp_65 (by decide +kernel) (by decide +kernel))), (Or.inl rfl)⟩ (Nat.le_of_ble_eq_true rfl) (Nat.le_of_ble_eq_true rfl) dX12_readNeeds_42
          · skip
            refine lv_iconst (pc := 37) (v := (-1)) E.1 E.2.1 dX12_readNeeds_37 (by decide +kernel) ?_
            refine lv_icmp_ne (pc := 38) (tgt := 43) E.1 E.2.1 dX12_readNeeds_38 (by decide) (fun _ => ?_) (fun c_68 => absurd c_68 (mneE (a := 0) (b := (-1)) (by decide +kernel) (by decide +kernel) (by omega)))
            refine lv_iload_n (pc := 43) E.1 E.2.1 dX12_readNeeds_43 rfl (lv_at hl16 0 rfl) ?_
            refine lv_iconst (pc := 44) (v := 1) E.1 E.2.1 dX12_readNeeds_44 (by decide +kernel) ?_
            refine lv_iadd (pc := 45) E.1 E.2.1 dX12_readNeeds_45 ?_
            refine lv_topi (fun v_69 ev_69 => ?_)
            have hv_69 : v_69.toInt = x_6.toInt + 1 := by rw [ev_69]; exact addE rfl (by decide +kernel) (by omega)
            refine lv_istore_n (pc := 46) (lv' := [(1, .int v_69), (0, .ref M)]) E.1 E.2.1 dX12_readNeeds_46 rfl hl16 (by decide) rfl (fun ls hl70 => ?_)
            refine lv_goto (pc := 47) (tgt := 2) E.1 E.2.1 dX12_readNeeds_47 (by decide) ?_
            exact ih_14 v_69 nspot_50 nfrom_51 ntoken_52 nvalue_53 nreadFault_54 nreadPlace_55 gneeds_56 _ _ _ ⟨hp_58, hp_59, hp_60, hp_61, hp_62, hp_63, (by show 0 ≤ v_69.toInt; omega), (by show v_69.toInt ≤ 10; omega), (RLR_step hi_13_8 (by omega) (by omega) (by omega) hp_44 hp_65 (show (0 : Int32).toInt ≠ -1 from by decide +kernel) (by omega)), (show AGN ntoken_52.toInt nvalue_53.toInt nfrom_51.toInt nspot_50.toInt from hp_64)⟩ (by omega) hw57 (lv_sub hl70 [0, 1] rfl)
        · skip
          have hc_27 := eqE (a := x_6.toInt) (b := 10) rfl (by decide +kernel) c_27
          refine lv_aload_n (pc := 17) E.1 E.2.1 dX12_readNeeds_17 rfl (lv_at hl16 1 rfl) ?_
          refine lv_iconst (pc := 18) (v := 3) E.1 E.2.1 dX12_readNeeds_18 (by decide +kernel) ?_
          refine cm_i (pc := 19) hw20 (rn_M (As := [.int 3]) (rest := []) E hw20 (s_errsT l D cI cJ _ M mr (upd (upd (upd (upd (upd (upd mi 22 x_7) 23 x_8) 24 x_9) 25 x_10) 38 x_11) 39 x_12) (va_up mf 45 g_13) mg 3) (gdV q_1698 q_1700 q_60 q_162 q_1701) hdV_X12_errs ⟨rfl, rfl⟩ ⟨(Nat.le_of_ble_eq_true rfl), (Nat.le_of_ble_eq_true rfl)⟩ ⟨(Nat.le_of_ble_eq_true rfl), (Nat.le_of_ble_eq_true rfl)⟩ 12 rfl rfl rfl rfl hl16.1 rfl (Nat.le_of_ble_eq_true rfl) dX12_readNeeds_19) (fun r_72 u_71 H1 locs hp hw73 => ?_)
          obtain ⟨nreadFault_74, nreadPlace_75⟩ := u_71
          generalize H1 = H at hw73 ⊢
          have hw76 : WD D A s.heap (MW cI cJ M mr (upd (upd (upd (upd (upd (upd mi 22 x_7) 23 x_8) 24 x_9) 25 x_10) 38 nreadFault_74) 39 nreadPlace_75) (va_up mf 45 g_13) mg) H locs := hw73
          obtain ⟨hp_77, hp_78, hp_79⟩ := hp
          have hp_77 : nreadFault_74.toInt = (3 : Int32).toInt := hp_77
          rw [show (3 : Int32).toInt = 3 from by decide +kernel] at hp_77
          have hp_78 : nreadPlace_75.toInt = x_8.toInt := hp_78
          rcases hp_79 with rfl
          · skip
            exact em_i (w1 := (fun (u : Int32 × Int32 × Int32 × Int32 × Int32 × Int32 × (Nat → Int32)) => (MW cI cJ M mr (upd (upd (upd (upd (upd (upd mi 22 u.1) 23 u.2.1) 24 u.2.2.1) 25 u.2.2.2.1) 38 u.2.2.2.2.1) 39 u.2.2.2.2.2.1) (va_up mf 45 u.2.2.2.2.2.2) mg))) E hr hlk (x_7, x_8, x_9, x_10, nreadFault_74, nreadPlace_75, g_13) hw76 ⟨hi_13_0, hi_13_1, hi_13_2, hi_13_3, hi_13_4, hi_13_5, hi_13_9, (show (∀ p0 : Int, TKR (mf 20) (mi 21).toInt p0 (mi 23).toInt (mi 22).toInt (mi 24).toInt (mi 25).toInt → RC (rdR (mf 20) (mi 21).toInt (needR (mf 20) (mi 21).toInt ((mi 6).toInt - 1)) 20 10 11 0 p0) ((-1) : Int32).toInt nreadFault_74.toInt nreadPlace_75.toInt) from (RLR_many hi_13_8 (by omega) (by omega) (by omega) (by decide +kernel) (by have k1 : (1 : Int32).toInt = 1 := (by decide +kernel); have k3 : (3 : Int32).toInt = 3 := (by decide +kernel); omega) (by omega))), (Or.inl rfl)⟩ (Nat.le_of_ble_eq_true rfl) (Nat.le_of_ble_eq_true rfl) dX12_readNeeds_22
      · skip
        have ha_24 : ¬ x_9.toInt = 2 := ha_24
        refine lv_if_eq (pc := 8) (tgt := 50) E.1 E.2.1 dX12_readNeeds_8 (by decide) (fun _ => ?_) (fun c_80 => absurd (meqE (a := 0) (b := 0) (by decide +kernel) (by decide +kernel) (by omega)) c_80)
        refine lv_aload_n (pc := 50) E.1 E.2.1 dX12_readNeeds_50 rfl (lv_at hl16 1 rfl) ?_
        refine x_get (pc := 51) (T := TX12) (N := 70) (ci := 12) (v := .int x_9) E hw20 inX12 0 24 q_1423 rfl rfl (by decide) rfl rfl dX12_readNeeds_51 ?_
        refine lv_if_ne (pc := 54) (tgt := 61) E.1 E.2.1 dX12_readNeeds_54 (by decide) (fun c_81 => ?_) (fun c_81 => ?_)
        · skip
          have hc_81 := neE (a := x_9.toInt) (b := 0) rfl (by decide +kernel) c_81
          refine lv_aload_n (pc := 61) E.1 E.2.1 dX12_readNeeds_61 rfl (lv_at hl16 1 rfl) ?_
          refine lv_iconst (pc := 62) (v := 1) E.1 E.2.1 dX12_readNeeds_62 (by decide +kernel) ?_
          refine cm_i (pc := 63) hw20 (rn_M (As := [.int 1]) (rest := []) E hw20 (s_errsT l D cI cJ _ M mr (upd (upd (upd (upd (upd (upd mi 22 x_7) 23 x_8) 24 x_9) 25 x_10) 38 x_11) 39 x_12) (va_up mf 45 g_13) mg 1) (gdV q_1698 q_1700 q_60 q_162 q_1701) hdV_X12_errs ⟨rfl, rfl⟩ ⟨(Nat.le_of_ble_eq_true rfl), (Nat.le_of_ble_eq_true rfl)⟩ ⟨(Nat.le_of_ble_eq_true rfl), (Nat.le_of_ble_eq_true rfl)⟩ 12 rfl rfl rfl rfl hl16.1 rfl (Nat.le_of_ble_eq_true rfl) dX12_readNeeds_63) (fun r_83 u_82 H1 locs hp hw84 => ?_)
          obtain ⟨nreadFault_85, nreadPlace_86⟩ := u_82
          generalize H1 = H at hw84 ⊢
          have hw87 : WD D A s.heap (MW cI cJ M mr (upd (upd (upd (upd (upd (upd mi 22 x_7) 23 x_8) 24 x_9) 25 x_10) 38 nreadFault_85) 39 nreadPlace_86) (va_up mf 45 g_13) mg) H locs := hw84
          obtain ⟨hp_88, hp_89, hp_90⟩ := hp
          have hp_88 : nreadFault_85.toInt = (1 : Int32).toInt := hp_88
          rw [show (1 : Int32).toInt = 1 from by decide +kernel] at hp_88
          have hp_89 : nreadPlace_86.toInt = x_8.toInt := hp_89
          rcases hp_90 with rfl
          · skip
            exact em_i (w1 := (fun (u : Int32 × Int32 × Int32 × Int32 × Int32 × Int32 × (Nat → Int32)) => (MW cI cJ M mr (upd (upd (upd (upd (upd (upd mi 22 u.1) 23 u.2.1) 24 u.2.2.1) 25 u.2.2.2.1) 38 u.2.2.2.2.1) 39 u.2.2.2.2.2.1) (va_up mf 45 u.2.2.2.2.2.2) mg))) E hr hlk (x_7, x_8, x_9, x_10, nreadFault_85, nreadPlace_86, g_13) hw87 ⟨hi_13_0, hi_13_1, hi_13_2, hi_13_3, hi_13_4, hi_13_5, hi_13_9, (show (∀ p0 : Int, TKR (mf 20) (mi 21).toInt p0 (mi 23).toInt (mi 22).toInt (mi 24).toInt (mi 25).toInt → RC (rdR (mf 20) (mi 21).toInt (needR (mf 20) (mi 21).toInt ((mi 6).toInt - 1)) 20 10 11 0 p0) ((-1) : Int32).toInt nreadFault_85.toInt nreadPlace_86.toInt) from (RLR_bad hi_13_8 (by omega) (by omega) (by omega) (by decide +kernel) (by have k1 : (1 : Int32).toInt = 1 := (by decide +kernel); have k3 : (3 : Int32).toInt = 3 := (by decide +kernel); omega) (by omega))), (Or.inl rfl)⟩ (Nat.le_of_ble_eq_true rfl) (Nat.le_of_ble_eq_true rfl) dX12_readNeeds_66
        · skip
          have hc_81 := eqE (a := x_9.toInt) (b := 0) rfl (by decide +kernel) c_81
          refine lv_iload_n (pc := 57) E.1 E.2.1 dX12_readNeeds_57 rfl (lv_at hl16 0 rfl) ?_
          refine lv_goto (pc := 58) (tgt := 66) E.1 E.2.1 dX12_readNeeds_58 (by decide) ?_
          exact em_i (w1 := (fun (u : Int32 × Int32 × Int32 × Int32 × Int32 × Int32 × (Nat → Int32)) => (MW cI cJ M mr (upd (upd (upd (upd (upd (upd mi 22 u.1) 23 u.2.1) 24 u.2.2.1) 25 u.2.2.2.1) 38 u.2.2.2.2.1) 39 u.2.2.2.2.2.1) (va_up mf 45 u.2.2.2.2.2.2) mg))) E hr hlk (x_7, x_8, x_9, x_10, x_11, x_12, g_13) hw20 ⟨hi_13_0, hi_13_1, hi_13_2, hi_13_3, hi_13_4, hi_13_5, hi_13_9, (show (∀ p0 : Int, TKR (mf 20) (mi 21).toInt p0 (mi 23).toInt (mi 22).toInt (mi 24).toInt (mi 25).toInt → RC (rdR (mf 20) (mi 21).toInt (needR (mf 20) (mi 21).toInt ((mi 6).toInt - 1)) 20 10 11 0 p0) (x_6 : Int32).toInt x_11.toInt x_12.toInt) from (RLR_end hi_13_8 (by omega) (by omega) rfl (by omega))), (Or.inr (⟨hi_13_6, hi_13_7⟩))⟩ (Nat.le_of_ble_eq_true rfl) (Nat.le_of_ble_eq_true rfl) dX12_readNeeds_66
      · skip
        have ha_25 : ¬ x_10.toInt = (20 : Int32).toInt := ha_25
        rw [show (20 : Int32).toInt = 20 from by decide +kernel] at ha_25
        refine lv_if_eq (pc := 8) (tgt := 50) E.1 E.2.1 dX12_readNeeds_8 (by decide) (fun _ => ?_) (fun c_91 => absurd (meqE (a := 0) (b := 0) (by decide +kernel) (by decide +kernel) (by omega)) c_91)
        refine lv_aload_n (pc := 50) E.1 E.2.1 dX12_readNeeds_50 rfl (lv_at hl16 1 rfl) ?_
        refine x_get (pc := 51) (T := TX12) (N := 70) (ci := 12) (v := .int x_9) E hw20 inX12 0 24 q_1423 rfl rfl (by decide) rfl rfl dX12_readNeeds_51 ?_
        refine lv_if_ne (pc := 54) (tgt := 61) E.1 E.2.1 dX12_readNeeds_54 (by decide) (fun c_92 => ?_) (fun c_92 => ?_)
        · skip
          have hc_92 := neE (a := x_9.toInt) (b := 0) rfl (by decide +kernel) c_92
          refine lv_aload_n (pc := 61) E.1 E.2.1 dX12_readNeeds_61 rfl (lv_at hl16 1 rfl) ?_
          refine lv_iconst (pc := 62) (v := 1) E.1 E.2.1 dX12_readNeeds_62 (by decide +kernel) ?_
          refine cm_i (pc := 63) hw20 (rn_M (As := [.int 1]) (rest := []) E hw20 (s_errsT l D cI cJ _ M mr (upd (upd (upd (upd (upd (upd mi 22 x_7) 23 x_8) 24 x_9) 25 x_10) 38 x_11) 39 x_12) (va_up mf 45 g_13) mg 1) (gdV q_1698 q_1700 q_60 q_162 q_1701) hdV_X12_errs ⟨rfl, rfl⟩ ⟨(Nat.le_of_ble_eq_true rfl), (Nat.le_of_ble_eq_true rfl)⟩ ⟨(Nat.le_of_ble_eq_true rfl), (Nat.le_of_ble_eq_true rfl)⟩ 12 rfl rfl rfl rfl hl16.1 rfl (Nat.le_of_ble_eq_true rfl) dX12_readNeeds_63) (fun r_94 u_93 H1 locs hp hw95 => ?_)
          obtain ⟨nreadFault_96, nreadPlace_97⟩ := u_93
          generalize H1 = H at hw95 ⊢
          have hw98 : WD D A s.heap (MW cI cJ M mr (upd (upd (upd (upd (upd (upd mi 22 x_7) 23 x_8) 24 x_9) 25 x_10) 38 nreadFault_96) 39 nreadPlace_97) (va_up mf 45 g_13) mg) H locs := hw95
          obtain ⟨hp_99, hp_100, hp_101⟩ := hp
          have hp_99 : nreadFault_96.toInt = (1 : Int32).toInt := hp_99
          rw [show (1 : Int32).toInt = 1 from by decide +kernel] at hp_99
          have hp_100 : nreadPlace_97.toInt = x_8.toInt := hp_100
          rcases hp_101 with rfl
          · skip
            exact em_i (w1 := (fun (u : Int32 × Int32 × Int32 × Int32 × Int32 × Int32 × (Nat → Int32)) => (MW cI cJ M mr (upd (upd (upd (upd (upd (upd mi 22 u.1) 23 u.2.1) 24 u.2.2.1) 25 u.2.2.2.1) 38 u.2.2.2.2.1) 39 u.2.2.2.2.2.1) (va_up mf 45 u.2.2.2.2.2.2) mg))) E hr hlk (x_7, x_8, x_9, x_10, nreadFault_96, nreadPlace_97, g_13) hw98 ⟨hi_13_0, hi_13_1, hi_13_2, hi_13_3, hi_13_4, hi_13_5, hi_13_9, (show (∀ p0 : Int, TKR (mf 20) (mi 21).toInt p0 (mi 23).toInt (mi 22).toInt (mi 24).toInt (mi 25).toInt → RC (rdR (mf 20) (mi 21).toInt (needR (mf 20) (mi 21).toInt ((mi 6).toInt - 1)) 20 10 11 0 p0) ((-1) : Int32).toInt nreadFault_96.toInt nreadPlace_97.toInt) from (RLR_bad hi_13_8 (by omega) (by omega) (by omega) (by decide +kernel) (by have k1 : (1 : Int32).toInt = 1 := (by decide +kernel); have k3 : (3 : Int32).toInt = 3 := (by decide +kernel); omega) (by omega))), (Or.inl rfl)⟩ (Nat.le_of_ble_eq_true rfl) (Nat.le_of_ble_eq_true rfl) dX12_readNeeds_66
        · skip
          have hc_92 := eqE (a := x_9.toInt) (b := 0) rfl (by decide +kernel) c_92
          refine lv_iload_n (pc := 57) E.1 E.2.1 dX12_readNeeds_57 rfl (lv_at hl16 0 rfl) ?_
          refine lv_goto (pc := 58) (tgt := 66) E.1 E.2.1 dX12_readNeeds_58 (by decide) ?_
          exact em_i (w1 := (fun (u : Int32 × Int32 × Int32 × Int32 × Int32 × Int32 × (Nat → Int32)) => (MW cI cJ M mr (upd (upd (upd (upd (upd (upd mi 22 u.1) 23 u.2.1) 24 u.2.2.1) 25 u.2.2.2.1) 38 u.2.2.2.2.1) 39 u.2.2.2.2.2.1) (va_up mf 45 u.2.2.2.2.2.2) mg))) E hr hlk (x_7, x_8, x_9, x_10, x_11, x_12, g_13) hw20 ⟨hi_13_0, hi_13_1, hi_13_2, hi_13_3, hi_13_4, hi_13_5, hi_13_9, (show (∀ p0 : Int, TKR (mf 20) (mi 21).toInt p0 (mi 23).toInt (mi 22).toInt (mi 24).toInt (mi 25).toInt → RC (rdR (mf 20) (mi 21).toInt (needR (mf 20) (mi 21).toInt ((mi 6).toInt - 1)) 20 10 11 0 p0) (x_6 : Int32).toInt x_11.toInt x_12.toInt) from (RLR_end hi_13_8 (by omega) (by omega) rfl (by omega))), (Or.inr (⟨hi_13_6, hi_13_7⟩))⟩ (Nat.le_of_ble_eq_true rfl) (Nat.le_of_ble_eq_true rfl) dX12_readNeeds_66
  exact loop_5 (Int.toNat (11 - 0) + 1) 0 (mi 22) (mi 23) (mi 24) (mi 25) (mi 38) (mi 39) (mf 45) _ _ _ ⟨h0, h1, h2, h4, h5, h6, (by show 0 ≤ (0 : Int32).toInt; have k_0 : (0 : Int32).toInt = 0 := (by decide +kernel); omega), (by show (0 : Int32).toInt ≤ 10; have k_0 : (0 : Int32).toInt = 0 := (by decide +kernel); omega), (RLR_init (by decide +kernel)), (show AGN ((mi 24).toInt) ((mi 25).toInt) ((mi 23).toInt) ((mi 22).toInt) from lf_again)⟩ (by have k_0 : (0 : Int32).toInt = 0 := (by decide +kernel); omega) hw1 (lv_sub hl4 [0, 1] rfl)
