set_option maxHeartbeats 4000000 in
set_option maxRecDepth 100000 in
theorem s_readPathsT (l : Launch) (D : va_G) (cI cJ : ClassId) (sz M : Nat) (mr : Nat → Nat) (mi : Nat → Int32) (mf : Nat → Nat → Int32) (mg : Nat → Nat → Int64)  (h0 : 0 ≤ (mi 23).toInt) (h1 : (mi 23).toInt ≤ (mi 22).toInt) (h2 : (mi 22).toInt ≤ (mi 21).toInt) (h3 : (mi 21).toInt ≤ 400) (h4 : 0 ≤ (mi 24).toInt) (h5 : (mi 24).toInt ≤ 4) (h6 : (mi 24).toInt ≤ 4 * (mi 22).toInt - 4 * (mi 23).toInt) (h7 : ((mf 26) 153).toInt = 32) (h8 : 0 ≤ (mi 6).toInt ∧ (mi 6).toInt ≤ 10) (a_paths : pathsOK (mf 43)) (a_tape : b255 (mf 20)) (lf_words : (∀ j : Nat, j < 154 → (mf 26) j = w0 j)) (lf_again : AGN ((mi 24).toInt) ((mi 25).toInt) ((mi 23).toInt) ((mi 22).toInt)) : Met l yX12_readPaths (Cond.code yX12_readPaths cX12_readPaths 2 (some .int) :: GW) ({ frames := 6, cells := 0, slots := 0, locals := 149 } : Room) (va_Pc [.ref M] (PW D cI cJ sz (MW cI cJ M mr mi mf mg) xT)) (va_Qi (fun (r : Int32) (u : Int32 × Int32 × Int32 × Int32 × Int32 × Int32 × (Nat → Int32)) => (0 ≤ u.2.1.toInt) ∧ (u.2.1.toInt ≤ u.1.toInt) ∧ (u.1.toInt ≤ (mi 21).toInt) ∧ (0 ≤ u.2.2.1.toInt) ∧ (u.2.2.1.toInt ≤ 4) ∧ (u.2.2.1.toInt ≤ 4 * u.1.toInt - 4 * u.2.1.toInt) ∧ (pathsOK u.2.2.2.2.2.2) ∧ (AGN u.2.2.1.toInt u.2.2.2.1.toInt u.2.1.toInt u.1.toInt) ∧ ((0 ≤ (r : Int32).toInt → PD u.2.2.2.2.2.2 (r : Int32).toInt)) ∧ ((∀ p0 : Int, TKR (mf 20) (mi 21).toInt p0 (mi 23).toInt (mi 22).toInt (mi 24).toInt (mi 25).toInt → RC (rdR (mf 20) (mi 21).toInt (pathR (mf 20) (mi 21).toInt ((mi 6).toInt - 1)) 16 40 41 0 p0) (r : Int32).toInt u.2.2.2.2.1.toInt u.2.2.2.2.2.1.toInt)) ∧ ((r = (-1)) ∨ (0 ≤ r.toInt ∧ r.toInt ≤ 40))) (fun u => QW D cI cJ (va_A (MW cI cJ M mr mi mf mg) sz) ((fun (u : Int32 × Int32 × Int32 × Int32 × Int32 × Int32 × (Nat → Int32)) => (MW cI cJ M mr (upd (upd (upd (upd (upd (upd mi 22 u.1) 23 u.2.1) 24 u.2.2.1) 25 u.2.2.2.1) 38 u.2.2.2.2.1) 39 u.2.2.2.2.2.1) (va_up mf 43 u.2.2.2.2.2.2) mg)) u)) (va_A (MW cI cJ M mr mi mf mg) sz)) 0 0 (va_A (MW cI cJ M mr mi mf mg) sz) := by
  refine mk_met (y := yX12_readPaths) (bytes := cX12_readPaths) (maxL := 2) (avs := [.ref M]) (WS := (MW cI cJ M mr mi mf mg)) (Qf := fun A => va_Qi (fun (r : Int32) (u : Int32 × Int32 × Int32 × Int32 × Int32 × Int32 × (Nat → Int32)) => (0 ≤ u.2.1.toInt) ∧ (u.2.1.toInt ≤ u.1.toInt) ∧ (u.1.toInt ≤ (mi 21).toInt) ∧ (0 ≤ u.2.2.1.toInt) ∧ (u.2.2.1.toInt ≤ 4) ∧ (u.2.2.1.toInt ≤ 4 * u.1.toInt - 4 * u.2.1.toInt) ∧ (pathsOK u.2.2.2.2.2.2) ∧ (AGN u.2.2.1.toInt u.2.2.2.1.toInt u.2.1.toInt u.1.toInt) ∧ ((0 ≤ (r : Int32).toInt → PD u.2.2.2.2.2.2 (r : Int32).toInt)) ∧ ((∀ p0 : Int, TKR (mf 20) (mi 21).toInt p0 (mi 23).toInt (mi 22).toInt (mi 24).toInt (mi 25).toInt → RC (rdR (mf 20) (mi 21).toInt (pathR (mf 20) (mi 21).toInt ((mi 6).toInt - 1)) 16 40 41 0 p0) (r : Int32).toInt u.2.2.2.2.1.toInt u.2.2.2.2.2.1.toInt)) ∧ ((r = (-1)) ∨ (0 ≤ r.toInt ∧ r.toInt ≤ 40))) (fun u => QW D cI cJ A ((fun (u : Int32 × Int32 × Int32 × Int32 × Int32 × Int32 × (Nat → Int32)) => (MW cI cJ M mr (upd (upd (upd (upd (upd (upd mi 22 u.1) 23 u.2.1) 24 u.2.2.1) 25 u.2.2.2.1) 38 u.2.2.2.2.1) 39 u.2.2.2.2.2.1) (va_up mf 43 u.2.2.2.2.2.2) mg)) u)) A) (by decide) (Nat.le_of_ble_eq_true rfl) ?_
  intro p e s m below meth c A ls E hr hlk hnm hX hw1 hl2
  have hl3 : lv_has ls 2 [(0, .ref M)] := hl2
  refine lv_iconst (pc := 0) (v := 0) E.1 E.2.1 dX12_readPaths_0 (by decide +kernel) ?_
  refine lv_istore_n (pc := 1) (lv' := [(1, .int 0), (0, .ref M)]) E.1 E.2.1 dX12_readPaths_1 rfl hl3 (by decide) rfl (fun ls hl4 => ?_)
  have loop_5 : ∀ (k : Nat) (x_6 : Int32) (x_7 : Int32) (x_8 : Int32) (x_9 : Int32) (x_10 : Int32) (x_11 : Int32) (x_12 : Int32) (g_13 : Nat → Int32) (H : Heap) (locs : List Loc) (ls : Array Slot), (0 ≤ x_8.toInt) ∧ (x_8.toInt ≤ x_7.toInt) ∧ (x_7.toInt ≤ (mi 21).toInt) ∧ (0 ≤ x_9.toInt) ∧ (x_9.toInt ≤ 4) ∧ (x_9.toInt ≤ 4 * x_7.toInt - 4 * x_8.toInt) ∧ (0 ≤ x_6.toInt) ∧ (x_6.toInt ≤ 40) ∧ pathsOK g_13 ∧ (PD g_13 x_6.toInt) ∧ (RLR (mf 20) (mi 21).toInt (pathR (mf 20) (mi 21).toInt ((mi 6).toInt - 1)) 16 40 (mi 23).toInt (mi 22).toInt (mi 24).toInt (mi 25).toInt x_6.toInt x_8.toInt x_7.toInt x_9.toInt x_10.toInt) ∧ (AGN x_9.toInt x_10.toInt x_8.toInt x_7.toInt) → 41 - x_6.toInt < (k : Int) → WD D A s.heap (MW cI cJ M mr (upd (upd (upd (upd (upd (upd mi 22 x_7) 23 x_8) 24 x_9) 25 x_10) 38 x_11) 39 x_12) (va_up mf 43 g_13) mg) H locs → lv_has ls 2 [(1, .int x_6), (0, .ref M)] → W p l e ({ frames := 6, cells := 0, slots := 0, locals := 149 } : Room) s m ([.ref M] : List Value).toArray below meth c H locs 0 0 (MQ below (va_Qi (fun (r : Int32) (u : Int32 × Int32 × Int32 × Int32 × Int32 × Int32 × (Nat → Int32)) => (0 ≤ u.2.1.toInt) ∧ (u.2.1.toInt ≤ u.1.toInt) ∧ (u.1.toInt ≤ (mi 21).toInt) ∧ (0 ≤ u.2.2.1.toInt) ∧ (u.2.2.1.toInt ≤ 4) ∧ (u.2.2.1.toInt ≤ 4 * u.1.toInt - 4 * u.2.1.toInt) ∧ (pathsOK u.2.2.2.2.2.2) ∧ (AGN u.2.2.1.toInt u.2.2.2.1.toInt u.2.1.toInt u.1.toInt) ∧ ((0 ≤ (r : Int32).toInt → PD u.2.2.2.2.2.2 (r : Int32).toInt)) ∧ ((∀ p0 : Int, TKR (mf 20) (mi 21).toInt p0 (mi 23).toInt (mi 22).toInt (mi 24).toInt (mi 25).toInt → RC (rdR (mf 20) (mi 21).toInt (pathR (mf 20) (mi 21).toInt ((mi 6).toInt - 1)) 16 40 41 0 p0) (r : Int32).toInt u.2.2.2.2.1.toInt u.2.2.2.2.2.1.toInt)) ∧ ((r = (-1)) ∨ (0 ≤ r.toInt ∧ r.toInt ≤ 40))) (fun u => QW D cI cJ A ((fun (u : Int32 × Int32 × Int32 × Int32 × Int32 × Int32 × (Nat → Int32)) => (MW cI cJ M mr (upd (upd (upd (upd (upd (upd mi 22 u.1) 23 u.2.1) 24 u.2.2.1) 25 u.2.2.2.1) 38 u.2.2.2.2.1) 39 u.2.2.2.2.2.1) (va_up mf 43 u.2.2.2.2.2.2) mg)) u)) A) ([.ref M] : List Value).toArray s 0 0 A) (F0 m 2 ls []) := by
    intro k
    induction k with
    | zero =>
      intro x_6 x_7 x_8 x_9 x_10 x_11 x_12 g_13 _ _ _ hinv hm
      obtain ⟨hi_13_0, hi_13_1, hi_13_2, hi_13_3, hi_13_4, hi_13_5, hi_13_6, hi_13_7, hi_13_8, hi_13_9, hi_13_10, hi_13_11⟩ := hinv
      exact absurd hm (by omega)
    | succ k ih_14 =>
      intro x_6 x_7 x_8 x_9 x_10 x_11 x_12 g_13 H locs ls hinv hm hw15 hl16
      obtain ⟨hi_13_0, hi_13_1, hi_13_2, hi_13_3, hi_13_4, hi_13_5, hi_13_6, hi_13_7, hi_13_8, hi_13_9, hi_13_10, hi_13_11⟩ := hinv
      refine lv_aload_n (pc := 2) E.1 E.2.1 dX12_readPaths_2 rfl (lv_at hl16 1 rfl) ?_
      refine lv_bipush (pc := 3) (v := 16) E.1 E.2.1 dX12_readPaths_3 (by decide +kernel) ?_
      refine cm_i (pc := 5) hw15 (rn_M (As := [.int 16]) (rest := []) E hw15 (s_isWordT l D cI cJ _ M mr (upd (upd (upd (upd (upd (upd mi 22 x_7) 23 x_8) 24 x_9) 25 x_10) 38 x_11) 39 x_12) (va_up mf 43 g_13) mg 16) (gdV q_1694 q_1696 q_59 q_162 q_1697) hdV_X12_isWord ⟨rfl, rfl⟩ ⟨(Nat.le_of_ble_eq_true rfl), (Nat.le_of_ble_eq_true rfl)⟩ ⟨(Nat.le_of_ble_eq_true rfl), (Nat.le_of_ble_eq_true rfl)⟩ 12 rfl rfl rfl rfl hl16.1 rfl (Nat.le_of_ble_eq_true rfl) dX12_readPaths_5) (fun r_18 u_17 H1 locs hp hw19 => ?_)
      generalize H1 = H at hw19 ⊢
      have hw20 : WD D A s.heap (MW cI cJ M mr (upd (upd (upd (upd (upd (upd mi 22 x_7) 23 x_8) 24 x_9) 25 x_10) 38 x_11) 39 x_12) (va_up mf 43 g_13) mg) H locs := hw19
      have hp_21 := hp
      rcases hp_21 with ⟨rfl, ha_22, ha_23⟩ | ⟨rfl, ha_24⟩ | ⟨rfl, ha_25⟩
      · skip
        have ha_22 : x_9.toInt = 2 := ha_22
        have ha_23 : x_10.toInt = (16 : Int32).toInt := ha_23
        rw [show (16 : Int32).toInt = 16 from by decide +kernel] at ha_23
        refine lv_if_eq (pc := 8) (tgt := 51) E.1 E.2.1 dX12_readPaths_8 (by decide) (fun c_26 => absurd c_26 (mneE (a := 1) (b := 0) (by decide +kernel) (by decide +kernel) (by omega))) (fun _ => ?_)
        refine lv_iload_n (pc := 11) E.1 E.2.1 dX12_readPaths_11 rfl (lv_at hl16 0 rfl) ?_
        refine lv_bipush (pc := 12) (v := 40) E.1 E.2.1 dX12_readPaths_12 (by decide +kernel) ?_
        refine lv_icmp_ne (pc := 14) (tgt := 23) E.1 E.2.1 dX12_readPaths_14 (by decide) (fun c_27 => ?_) (fun c_27 => ?_)
        · skip
          have hc_27 := neE (a := x_6.toInt) (b := 40) rfl (by decide +kernel) c_27
          refine lv_aload_n (pc := 23) E.1 E.2.1 dX12_readPaths_23 rfl (lv_at hl16 1 rfl) ?_
          refine cm_v (pc := 24) hw20 (rn_M (As := []) (rest := []) E hw20 (s_readsT l D cI cJ _ M mr (upd (upd (upd (upd (upd (upd mi 22 x_7) 23 x_8) 24 x_9) 25 x_10) 38 x_11) 39 x_12) (va_up mf 43 g_13) mg (by show 0 ≤ x_7.toInt; omega) hi_13_2 h3 h7 a_tape (show (∀ j : Nat, j < 154 → (mf 26) j = w0 j) from lf_words)) (gdV q_1666 q_1668 q_52 q_162 q_1669) hdV_X12_reads ⟨rfl, rfl⟩ ⟨(Nat.le_of_ble_eq_true rfl), (Nat.le_of_ble_eq_true rfl)⟩ ⟨(Nat.le_of_ble_eq_true rfl), (Nat.le_of_ble_eq_true rfl)⟩ 12 rfl rfl rfl rfl hl16.1 rfl (Nat.le_of_ble_eq_true rfl) dX12_readPaths_24) (fun u_28 H1 locs hp hw30 => ?_)
          obtain ⟨nspot_31, nfrom_32, ntoken_33, nvalue_34⟩ := u_28
          generalize H1 = H at hw30 ⊢
          have hw35 : WD D A s.heap (MW cI cJ M mr (upd (upd (upd (upd (upd (upd mi 22 nspot_31) 23 nfrom_32) 24 ntoken_33) 25 nvalue_34) 38 x_11) 39 x_12) (va_up mf 43 g_13) mg) H locs := hw30
          obtain ⟨hp_36, hp_37, hp_38, hp_39, hp_40, hp_41, hp_42, hp_43, hp_44⟩ := hp
          have hp_36 : 0 ≤ nfrom_32.toInt := hp_36
          have hp_37 : nfrom_32.toInt ≤ nspot_31.toInt := hp_37
          have hp_38 : nspot_31.toInt ≤ (mi 21).toInt := hp_38
          have hp_39 : 0 ≤ ntoken_33.toInt := hp_39
          have hp_40 : ntoken_33.toInt ≤ 4 := hp_40
          have hp_41 : ntoken_33.toInt ≤ 4 * nspot_31.toInt - 4 * nfrom_32.toInt := hp_41
          have hp_42 : x_7.toInt ≤ nfrom_32.toInt := hp_42
          have hp_43 : AGN ntoken_33.toInt nvalue_34.toInt nfrom_32.toInt nspot_31.toInt := hp_43
          have hp_44 : TKR (mf 20) (mi 21).toInt x_7.toInt nfrom_32.toInt nspot_31.toInt ntoken_33.toInt nvalue_34.toInt := hp_44
          refine lv_aload_n (pc := 27) E.1 E.2.1 dX12_readPaths_27 rfl (lv_at hl16 1 rfl) ?_
          refine lv_sipush (pc := 28) (v := 160) E.1 E.2.1 dX12_readPaths_28 (by decide +kernel) ?_
          refine lv_iconst (pc := 31) (v := 4) E.1 E.2.1 dX12_readPaths_31 (by decide +kernel) ?_
          refine lv_iload_n (pc := 32) E.1 E.2.1 dX12_readPaths_32 rfl (lv_at hl16 0 rfl) ?_
          refine lv_imul (pc := 33) E.1 E.2.1 dX12_readPaths_33 ?_
          refine lv_topi (fun v_45 ev_45 => ?_)
          have hv_45 : v_45.toInt = 4 * x_6.toInt := by rw [ev_45]; exact mulE (by decide +kernel) rfl (by omega)
          refine lv_iadd (pc := 34) E.1 E.2.1 dX12_readPaths_34 ?_
          refine lv_topi (fun v_46 ev_46 => ?_)
          have hv_46 : v_46.toInt = 160 + v_45.toInt := by rw [ev_46]; exact addE (by decide +kernel) rfl (by omega)
          refine cm_i (pc := 35) hw35 (rn_M (As := [.int v_46]) (rest := []) E hw35 (s_readPathT l D cI cJ _ M mr (upd (upd (upd (upd (upd (upd mi 22 nspot_31) 23 nfrom_32) 24 ntoken_33) 25 nvalue_34) 38 x_11) 39 x_12) (va_up mf 43 g_13) mg v_46 hp_36 hp_37 hp_38 h3 hp_39 hp_40 hp_41 h7 h8 (by show 160 ≤ v_46.toInt ∧ v_46.toInt ≤ 316; omega) hi_13_8 a_tape (show (∀ j : Nat, j < 154 → (mf 26) j = w0 j) from lf_words) (show AGN ntoken_33.toInt nvalue_34.toInt nfrom_32.toInt nspot_31.toInt from hp_43)) (gdV q_1702 q_1704 q_61 q_162 q_1705) hdV_X12_readPath ⟨rfl, rfl⟩ ⟨(Nat.le_of_ble_eq_true rfl), (Nat.le_of_ble_eq_true rfl)⟩ ⟨(Nat.le_of_ble_eq_true rfl), (Nat.le_of_ble_eq_true rfl)⟩ 12 rfl rfl rfl rfl hl16.1 rfl (Nat.le_of_ble_eq_true rfl) dX12_readPaths_35) (fun r_48 u_47 H1 locs hp hw49 => ?_)
          obtain ⟨nspot_50, nfrom_51, ntoken_52, nvalue_53, nreadFault_54, nreadPlace_55, gpaths_56⟩ := u_47
          generalize H1 = H at hw49 ⊢
          have hw57 : WD D A s.heap (MW cI cJ M mr (upd (upd (upd (upd (upd (upd mi 22 nspot_50) 23 nfrom_51) 24 ntoken_52) 25 nvalue_53) 38 nreadFault_54) 39 nreadPlace_55) (va_up mf 43 gpaths_56) mg) H locs := hw49
          obtain ⟨hp_58, hp_59, hp_60, hp_61, hp_62, hp_63, hp_64, hp_65, hp_66, hp_67, hp_68⟩ := hp
          have hp_58 : 0 ≤ nfrom_51.toInt := hp_58
          have hp_59 : nfrom_51.toInt ≤ nspot_50.toInt := hp_59
          have hp_60 : nspot_50.toInt ≤ (mi 21).toInt := hp_60
          have hp_61 : 0 ≤ ntoken_52.toInt := hp_61
          have hp_62 : ntoken_52.toInt ≤ 4 := hp_62
          have hp_63 : ntoken_52.toInt ≤ 4 * nspot_50.toInt - 4 * nfrom_51.toInt := hp_63
          have hp_65 : AGN ntoken_52.toInt nvalue_53.toInt nfrom_51.toInt nspot_50.toInt := hp_65
          have hp_66 : r_48 = 0 → PT g_13 gpaths_56 (v_46).toNatClampNeg := hp_66
          have hp_67 : (∀ p : Int, TKR (mf 20) (mi 21).toInt p nfrom_32.toInt nspot_31.toInt ntoken_33.toInt nvalue_34.toInt → RX (mf 20) (mi 21).toInt (pathR (mf 20) (mi 21).toInt ((mi 6).toInt - 1) p) (r_48 : Int32).toInt nreadFault_54.toInt nreadPlace_55.toInt nfrom_51.toInt nspot_50.toInt ntoken_52.toInt nvalue_53.toInt) := hp_67
          rcases hp_68 with rfl | rfl
          · skip
            refine lv_iconst (pc := 38) (v := (-1)) E.1 E.2.1 dX12_readPaths_38 (by decide +kernel) ?_
            refine lv_icmp_ne (pc := 39) (tgt := 44) E.1 E.2.1 dX12_readPaths_39 (by decide) (fun c_69 => absurd (meqE (a := (-1)) (b := (-1)) (by decide +kernel) (by decide +kernel) (by omega)) c_69) (fun _ => ?_)
            refine lv_iconst (pc := 42) (v := (-1)) E.1 E.2.1 dX12_readPaths_42 (by decide +kernel) ?_
            exact em_i (w1 := (fun (u : Int32 × Int32 × Int32 × Int32 × Int32 × Int32 × (Nat → Int32)) => (MW cI cJ M mr (upd (upd (upd (upd (upd (upd mi 22 u.1) 23 u.2.1) 24 u.2.2.1) 25 u.2.2.2.1) 38 u.2.2.2.2.1) 39 u.2.2.2.2.2.1) (va_up mf 43 u.2.2.2.2.2.2) mg))) E hr hlk (nspot_50, nfrom_51, ntoken_52, nvalue_53, nreadFault_54, nreadPlace_55, gpaths_56) hw57 ⟨hp_58, hp_59, hp_60, hp_61, hp_62, hp_63, hp_64, hp_65, (show (0 ≤ ((-1) : Int32).toInt → PD gpaths_56 ((-1) : Int32).toInt) from (fun h => absurd h (by decide +kernel))), (show (∀ p0 : Int, TKR (mf 20) (mi 21).toInt p0 (mi 23).toInt (mi 22).toInt (mi 24).toInt (mi 25).toInt → RC (rdR (mf 20) (mi 21).toInt (pathR (mf 20) (mi 21).toInt ((mi 6).toInt - 1)) 16 40 41 0 p0) ((-1) : Int32).toInt nreadFault_54.toInt nreadPlace_55.toInt) from (RLR_err hi_13_10 (by omega) (by omega) (by omega) hp_44 hp_67 (by decide +kernel) (by decide +kernel))), (Or.inl rfl)⟩ (Nat.le_of_ble_eq_true rfl) (Nat.le_of_ble_eq_true rfl) dX12_readPaths_43
          · skip
            have hp_66 := hp_66 rfl
            refine lv_iconst (pc := 38) (v := (-1)) E.1 E.2.1 dX12_readPaths_38 (by decide +kernel) ?_
            refine lv_icmp_ne (pc := 39) (tgt := 44) E.1 E.2.1 dX12_readPaths_39 (by decide) (fun _ => ?_) (fun c_70 => absurd c_70 (mneE (a := 0) (b := (-1)) (by decide +kernel) (by decide +kernel) (by omega)))
            refine lv_iload_n (pc := 44) E.1 E.2.1 dX12_readPaths_44 rfl (lv_at hl16 0 rfl) ?_
            refine lv_iconst (pc := 45) (v := 1) E.1 E.2.1 dX12_readPaths_45 (by decide +kernel) ?_
            refine lv_iadd (pc := 46) E.1 E.2.1 dX12_readPaths_46 ?_
            refine lv_topi (fun v_71 ev_71 => ?_)
            have hv_71 : v_71.toInt = x_6.toInt + 1 := by rw [ev_71]; exact addE rfl (by decide +kernel) (by omega)
            refine lv_istore_n (pc := 47) (lv' := [(1, .int v_71), (0, .ref M)]) E.1 E.2.1 dX12_readPaths_47 rfl hl16 (by decide) rfl (fun ls hl72 => ?_)
            refine lv_goto (pc := 48) (tgt := 2) E.1 E.2.1 dX12_readPaths_48 (by decide) ?_
            exact ih_14 v_71 nspot_50 nfrom_51 ntoken_52 nvalue_53 nreadFault_54 nreadPlace_55 gpaths_56 _ _ _ ⟨hp_58, hp_59, hp_60, hp_61, hp_62, hp_63, (by show 0 ≤ v_71.toInt; omega), (by show v_71.toInt ≤ 40; omega), hp_64, (PD_step hi_13_9 hp_66 (by have q := idxI (x := v_46) (by omega); omega) (by omega)), (RLR_step hi_13_10 (by omega) (by omega) (by omega) hp_44 hp_67 (show (0 : Int32).toInt ≠ -1 from by decide +kernel) (by omega)), (show AGN ntoken_52.toInt nvalue_53.toInt nfrom_51.toInt nspot_50.toInt from hp_65)⟩ (by omega) hw57 (lv_sub hl72 [0, 1] rfl)
        · skip
          have hc_27 := eqE (a := x_6.toInt) (b := 40) rfl (by decide +kernel) c_27
          refine lv_aload_n (pc := 17) E.1 E.2.1 dX12_readPaths_17 rfl (lv_at hl16 1 rfl) ?_
          refine lv_iconst (pc := 18) (v := 3) E.1 E.2.1 dX12_readPaths_18 (by decide +kernel) ?_
          refine cm_i (pc := 19) hw20 (rn_M (As := [.int 3]) (rest := []) E hw20 (s_errsT l D cI cJ _ M mr (upd (upd (upd (upd (upd (upd mi 22 x_7) 23 x_8) 24 x_9) 25 x_10) 38 x_11) 39 x_12) (va_up mf 43 g_13) mg 3) (gdV q_1698 q_1700 q_60 q_162 q_1701) hdV_X12_errs ⟨rfl, rfl⟩ ⟨(Nat.le_of_ble_eq_true rfl), (Nat.le_of_ble_eq_true rfl)⟩ ⟨(Nat.le_of_ble_eq_true rfl), (Nat.le_of_ble_eq_true rfl)⟩ 12 rfl rfl rfl rfl hl16.1 rfl (Nat.le_of_ble_eq_true rfl) dX12_readPaths_19) (fun r_74 u_73 H1 locs hp hw75 => ?_)
          obtain ⟨nreadFault_76, nreadPlace_77⟩ := u_73
          generalize H1 = H at hw75 ⊢
          have hw78 : WD D A s.heap (MW cI cJ M mr (upd (upd (upd (upd (upd (upd mi 22 x_7) 23 x_8) 24 x_9) 25 x_10) 38 nreadFault_76) 39 nreadPlace_77) (va_up mf 43 g_13) mg) H locs := hw75
          obtain ⟨hp_79, hp_80, hp_81⟩ := hp
          have hp_79 : nreadFault_76.toInt = (3 : Int32).toInt := hp_79
          rw [show (3 : Int32).toInt = 3 from by decide +kernel] at hp_79
          have hp_80 : nreadPlace_77.toInt = x_8.toInt := hp_80
          rcases hp_81 with rfl
          · skip
            exact em_i (w1 := (fun (u : Int32 × Int32 × Int32 × Int32 × Int32 × Int32 × (Nat → Int32)) => (MW cI cJ M mr (upd (upd (upd (upd (upd (upd mi 22 u.1) 23 u.2.1) 24 u.2.2.1) 25 u.2.2.2.1) 38 u.2.2.2.2.1) 39 u.2.2.2.2.2.1) (va_up mf 43 u.2.2.2.2.2.2) mg))) E hr hlk (x_7, x_8, x_9, x_10, nreadFault_76, nreadPlace_77, g_13) hw78 ⟨hi_13_0, hi_13_1, hi_13_2, hi_13_3, hi_13_4, hi_13_5, hi_13_8, hi_13_11, (show (0 ≤ ((-1) : Int32).toInt → PD g_13 ((-1) : Int32).toInt) from (fun h => absurd h (by decide +kernel))), (show (∀ p0 : Int, TKR (mf 20) (mi 21).toInt p0 (mi 23).toInt (mi 22).toInt (mi 24).toInt (mi 25).toInt → RC (rdR (mf 20) (mi 21).toInt (pathR (mf 20) (mi 21).toInt ((mi 6).toInt - 1)) 16 40 41 0 p0) ((-1) : Int32).toInt nreadFault_76.toInt nreadPlace_77.toInt) from (RLR_many hi_13_10 (by omega) (by omega) (by omega) (by decide +kernel) (by have k1 : (1 : Int32).toInt = 1 := (by decide +kernel); have k3 : (3 : Int32).toInt = 3 := (by decide +kernel); omega) (by omega))), (Or.inl rfl)⟩ (Nat.le_of_ble_eq_true rfl) (Nat.le_of_ble_eq_true rfl) dX12_readPaths_22
      · skip
        have ha_24 : ¬ x_9.toInt = 2 := ha_24
        refine lv_if_eq (pc := 8) (tgt := 51) E.1 E.2.1 dX12_readPaths_8 (by decide) (fun _ => ?_) (fun c_82 => absurd (meqE (a := 0) (b := 0) (by decide +kernel) (by decide +kernel) (by omega)) c_82)
        refine lv_aload_n (pc := 51) E.1 E.2.1 dX12_readPaths_51 rfl (lv_at hl16 1 rfl) ?_
        refine x_get (pc := 52) (T := TX12) (N := 70) (ci := 12) (v := .int x_9) E hw20 inX12 0 24 q_1423 rfl rfl (by decide) rfl rfl dX12_readPaths_52 ?_
        refine lv_if_ne (pc := 55) (tgt := 62) E.1 E.2.1 dX12_readPaths_55 (by decide) (fun c_83 => ?_) (fun c_83 => ?_)
        · skip
          have hc_83 := neE (a := x_9.toInt) (b := 0) rfl (by decide +kernel) c_83
          refine lv_aload_n (pc := 62) E.1 E.2.1 dX12_readPaths_62 rfl (lv_at hl16 1 rfl) ?_
          refine lv_iconst (pc := 63) (v := 1) E.1 E.2.1 dX12_readPaths_63 (by decide +kernel) ?_
          refine cm_i (pc := 64) hw20 (rn_M (As := [.int 1]) (rest := []) E hw20 (s_errsT l D cI cJ _ M mr (upd (upd (upd (upd (upd (upd mi 22 x_7) 23 x_8) 24 x_9) 25 x_10) 38 x_11) 39 x_12) (va_up mf 43 g_13) mg 1) (gdV q_1698 q_1700 q_60 q_162 q_1701) hdV_X12_errs ⟨rfl, rfl⟩ ⟨(Nat.le_of_ble_eq_true rfl), (Nat.le_of_ble_eq_true rfl)⟩ ⟨(Nat.le_of_ble_eq_true rfl), (Nat.le_of_ble_eq_true rfl)⟩ 12 rfl rfl rfl rfl hl16.1 rfl (Nat.le_of_ble_eq_true rfl) dX12_readPaths_64) (fun r_85 u_84 H1 locs hp hw86 => ?_)
          obtain ⟨nreadFault_87, nreadPlace_88⟩ := u_84
          generalize H1 = H at hw86 ⊢
          have hw89 : WD D A s.heap (MW cI cJ M mr (upd (upd (upd (upd (upd (upd mi 22 x_7) 23 x_8) 24 x_9) 25 x_10) 38 nreadFault_87) 39 nreadPlace_88) (va_up mf 43 g_13) mg) H locs := hw86
          obtain ⟨hp_90, hp_91, hp_92⟩ := hp
          have hp_90 : nreadFault_87.toInt = (1 : Int32).toInt := hp_90
          rw [show (1 : Int32).toInt = 1 from by decide +kernel] at hp_90
          have hp_91 : nreadPlace_88.toInt = x_8.toInt := hp_91
          rcases hp_92 with rfl
          · skip
            exact em_i (w1 := (fun (u : Int32 × Int32 × Int32 × Int32 × Int32 × Int32 × (Nat → Int32)) => (MW cI cJ M mr (upd (upd (upd (upd (upd (upd mi 22 u.1) 23 u.2.1) 24 u.2.2.1) 25 u.2.2.2.1) 38 u.2.2.2.2.1) 39 u.2.2.2.2.2.1) (va_up mf 43 u.2.2.2.2.2.2) mg))) E hr hlk (x_7, x_8, x_9, x_10, nreadFault_87, nreadPlace_88, g_13) hw89 ⟨hi_13_0, hi_13_1, hi_13_2, hi_13_3, hi_13_4, hi_13_5, hi_13_8, hi_13_11, (show (0 ≤ ((-1) : Int32).toInt → PD g_13 ((-1) : Int32).toInt) from (fun h => absurd h (by decide +kernel))), (show (∀ p0 : Int, TKR (mf 20) (mi 21).toInt p0 (mi 23).toInt (mi 22).toInt (mi 24).toInt (mi 25).toInt → RC (rdR (mf 20) (mi 21).toInt (pathR (mf 20) (mi 21).toInt ((mi 6).toInt - 1)) 16 40 41 0 p0) ((-1) : Int32).toInt nreadFault_87.toInt nreadPlace_88.toInt) from (RLR_bad hi_13_10 (by omega) (by omega) (by omega) (by decide +kernel) (by have k1 : (1 : Int32).toInt = 1 := (by decide +kernel); have k3 : (3 : Int32).toInt = 3 := (by decide +kernel); omega) (by omega))), (Or.inl rfl)⟩ (Nat.le_of_ble_eq_true rfl) (Nat.le_of_ble_eq_true rfl) dX12_readPaths_67
        · skip
          have hc_83 := eqE (a := x_9.toInt) (b := 0) rfl (by decide +kernel) c_83
          refine lv_iload_n (pc := 58) E.1 E.2.1 dX12_readPaths_58 rfl (lv_at hl16 0 rfl) ?_
          refine lv_goto (pc := 59) (tgt := 67) E.1 E.2.1 dX12_readPaths_59 (by decide) ?_
          exact em_i (w1 := (fun (u : Int32 × Int32 × Int32 × Int32 × Int32 × Int32 × (Nat → Int32)) => (MW cI cJ M mr (upd (upd (upd (upd (upd (upd mi 22 u.1) 23 u.2.1) 24 u.2.2.1) 25 u.2.2.2.1) 38 u.2.2.2.2.1) 39 u.2.2.2.2.2.1) (va_up mf 43 u.2.2.2.2.2.2) mg))) E hr hlk (x_7, x_8, x_9, x_10, x_11, x_12, g_13) hw20 ⟨hi_13_0, hi_13_1, hi_13_2, hi_13_3, hi_13_4, hi_13_5, hi_13_8, hi_13_11, (show (0 ≤ (x_6 : Int32).toInt → PD g_13 (x_6 : Int32).toInt) from (fun _ => hi_13_9)), (show (∀ p0 : Int, TKR (mf 20) (mi 21).toInt p0 (mi 23).toInt (mi 22).toInt (mi 24).toInt (mi 25).toInt → RC (rdR (mf 20) (mi 21).toInt (pathR (mf 20) (mi 21).toInt ((mi 6).toInt - 1)) 16 40 41 0 p0) (x_6 : Int32).toInt x_11.toInt x_12.toInt) from (RLR_end hi_13_10 (by omega) (by omega) rfl (by omega))), (Or.inr (⟨hi_13_6, hi_13_7⟩))⟩ (Nat.le_of_ble_eq_true rfl) (Nat.le_of_ble_eq_true rfl) dX12_readPaths_67
      · skip
        have ha_25 : ¬ x_10.toInt = (16 : Int32).toInt := ha_25
        rw [show (16 : Int32).toInt = 16 from by decide +kernel] at ha_25
        refine lv_if_eq (pc := 8) (tgt := 51) E.1 E.2.1 dX12_readPaths_8 (by decide) (fun _ => ?_) (fun c_93 => absurd (meqE (a := 0) (b := 0) (by decide +kernel) (by decide +kernel) (by omega)) c_93)
        refine lv_aload_n (pc := 51) E.1 E.2.1 dX12_readPaths_51 rfl (lv_at hl16 1 rfl) ?_
        refine x_get (pc := 52) (T := TX12) (N := 70) (ci := 12) (v := .int x_9) E hw20 inX12 0 24 q_1423 rfl rfl (by decide) rfl rfl dX12_readPaths_52 ?_
        refine lv_if_ne (pc := 55) (tgt := 62) E.1 E.2.1 dX12_readPaths_55 (by decide) (fun c_94 => ?_) (fun c_94 => ?_)
        · skip
          have hc_94 := neE (a := x_9.toInt) (b := 0) rfl (by decide +kernel) c_94
          refine lv_aload_n (pc := 62) E.1 E.2.1 dX12_readPaths_62 rfl (lv_at hl16 1 rfl) ?_
          refine lv_iconst (pc := 63) (v := 1) E.1 E.2.1 dX12_readPaths_63 (by decide +kernel) ?_
          refine cm_i (pc := 64) hw20 (rn_M (As := [.int 1]) (rest := []) E hw20 (s_errsT l D cI cJ _ M mr (upd (upd (upd (upd (upd (upd mi 22 x_7) 23 x_8) 24 x_9) 25 x_10) 38 x_11) 39 x_12) (va_up mf 43 g_13) mg 1) (gdV q_1698 q_1700 q_60 q_162 q_1701) hdV_X12_errs ⟨rfl, rfl⟩ ⟨(Nat.le_of_ble_eq_true rfl), (Nat.le_of_ble_eq_true rfl)⟩ ⟨(Nat.le_of_ble_eq_true rfl), (Nat.le_of_ble_eq_true rfl)⟩ 12 rfl rfl rfl rfl hl16.1 rfl (Nat.le_of_ble_eq_true rfl) dX12_readPaths_64) (fun r_96 u_95 H1 locs hp hw97 => ?_)
          obtain ⟨nreadFault_98, nreadPlace_99⟩ := u_95
          generalize H1 = H at hw97 ⊢
          have hw100 : WD D A s.heap (MW cI cJ M mr (upd (upd (upd (upd (upd (upd mi 22 x_7) 23 x_8) 24 x_9) 25 x_10) 38 nreadFault_98) 39 nreadPlace_99) (va_up mf 43 g_13) mg) H locs := hw97
          obtain ⟨hp_101, hp_102, hp_103⟩ := hp
          have hp_101 : nreadFault_98.toInt = (1 : Int32).toInt := hp_101
          rw [show (1 : Int32).toInt = 1 from by decide +kernel] at hp_101
          have hp_102 : nreadPlace_99.toInt = x_8.toInt := hp_102
          rcases hp_103 with rfl
          · skip
            exact em_i (w1 := (fun (u : Int32 × Int32 × Int32 × Int32 × Int32 × Int32 × (Nat → Int32)) => (MW cI cJ M mr (upd (upd (upd (upd (upd (upd mi 22 u.1) 23 u.2.1) 24 u.2.2.1) 25 u.2.2.2.1) 38 u.2.2.2.2.1) 39 u.2.2.2.2.2.1) (va_up mf 43 u.2.2.2.2.2.2) mg))) E hr hlk (x_7, x_8, x_9, x_10, nreadFault_98, nreadPlace_99, g_13) hw100 ⟨hi_13_0, hi_13_1, hi_13_2, hi_13_3, hi_13_4, hi_13_5, hi_13_8, hi_13_11, (show (0 ≤ ((-1) : Int32).toInt → PD g_13 ((-1) : Int32).toInt) from (fun h => absurd h (by decide +kernel))), (show (∀ p0 : Int, TKR (mf 20) (mi 21).toInt p0 (mi 23).toInt (mi 22).toInt (mi 24).toInt (mi 25).toInt → RC (rdR (mf 20) (mi 21).toInt (pathR (mf 20) (mi 21).toInt ((mi 6).toInt - 1)) 16 40 41 0 p0) ((-1) : Int32).toInt nreadFault_98.toInt nreadPlace_99.toInt) from (RLR_bad hi_13_10 (by omega) (by omega) (by omega) (by decide +kernel) (by have k1 : (1 : Int32).toInt = 1 := (by decide +kernel); have k3 : (3 : Int32).toInt = 3 := (by decide +kernel); omega) (by omega))), (Or.inl rfl)⟩ (Nat.le_of_ble_eq_true rfl) (Nat.le_of_ble_eq_true rfl) dX12_readPaths_67
        · skip
          have hc_94 := eqE (a := x_9.toInt) (b := 0) rfl (by decide +kernel) c_94
          refine lv_iload_n (pc := 58) E.1 E.2.1 dX12_readPaths_58 rfl (lv_at hl16 0 rfl) ?_
          refine lv_goto (pc := 59) (tgt := 67) E.1 E.2.1 dX12_readPaths_59 (by decide) ?_
          exact em_i (w1 := (fun (u : Int32 × Int32 × Int32 × Int32 × Int32 × Int32 × (Nat → Int32)) => (MW cI cJ M mr (upd (upd (upd (upd (upd (upd mi 22 u.1) 23 u.2.1) 24 u.2.2.1) 25 u.2.2.2.1) 38 u.2.2.2.2.1) 39 u.2.2.2.2.2.1) (va_up mf 43 u.2.2.2.2.2.2) mg))) E hr hlk (x_7, x_8, x_9, x_10, x_11, x_12, g_13) hw20 ⟨hi_13_0, hi_13_1, hi_13_2, hi_13_3, hi_13_4, hi_13_5, hi_13_8, hi_13_11, (show (0 ≤ (x_6 : Int32).toInt → PD g_13 (x_6 : Int32).toInt) from (fun _ => hi_13_9)), (show (∀ p0 : Int, TKR (mf 20) (mi 21).toInt p0 (mi 23).toInt (mi 22).toInt (mi 24).toInt (mi 25).toInt → RC (rdR (mf 20) (mi 21).toInt (pathR (mf 20) (mi 21).toInt ((mi 6).toInt - 1)) 16 40 41 0 p0) (x_6 : Int32).toInt x_11.toInt x_12.toInt) from (RLR_end hi_13_10 (by omega) (by omega) rfl (by omega))), (Or.inr (⟨hi_13_6, hi_13_7⟩))⟩ (Nat.le_of_ble_eq_true rfl) (Nat.le_of_ble_eq_true rfl) dX12_readPaths_67
  exact loop_5 (Int.toNat (41 - 0) + 1) 0 (mi 22) (mi 23) (mi 24) (mi 25) (mi 38) (mi 39) (mf 43) _ _ _ ⟨h0, h1, h2, h4, h5, h6, (by show 0 ≤ (0 : Int32).toInt; have k_0 : (0 : Int32).toInt = 0 := (by decide +kernel); omega), (by show (0 : Int32).toInt ≤ 40; have k_0 : (0 : Int32).toInt = 0 := (by decide +kernel); omega), a_paths, (fun i hi => absurd hi (by have k9 : (0 : Int32).toInt = 0 := (by decide +kernel); omega)), (RLR_init (by decide +kernel)), (show AGN ((mi 24).toInt) ((mi 25).toInt) ((mi 23).toInt) ((mi 22).toInt) from lf_again)⟩ (by have k_0 : (0 : Int32).toInt = 0 := (by decide +kernel); omega) hw1 (lv_sub hl4 [0, 1] rfl)
