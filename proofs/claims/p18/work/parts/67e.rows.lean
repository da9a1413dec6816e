set_option maxHeartbeats 4000000 in
set_option maxRecDepth 100000 in
theorem t_readNeed (l : Launch) (D : va_G) (cI cJ : ClassId) (sz : Nat) (mr : Nat → Nat) (mi : Nat → Int32) (mf : Nat → Nat → Int32) (mg : Nat → Nat → Int64) (z_houses : Int32) (ad av : Nat → Nat) (tf : Value) (h0 : 0 ≤ (mi 9).toInt ∧ (mi 9).toInt ≤ 400) (h1 : 0 ≤ (mi 11).toInt) (h2 : (mi 11).toInt ≤ (mi 9).toInt) (h3 : 0 ≤ (mi 10).toInt ∧ (mi 10).toInt ≤ 6) (h4 : 0 ≤ (mi 15).toInt ∧ (mi 15).toInt ≤ 4) (h5 : 0 ≤ z_houses.toInt ∧ z_houses.toInt ≤ 10) (h6 : 0 ≤ (mi 6).toInt ∧ (mi 6).toInt ≤ 10) : Met l yX3_readNeed (Cond.code yX3_readNeed cX3_readNeed 8 none :: GW) ({ frames := 8, cells := 0, slots := 0, locals := 194 } : Room) (va_Pc [.ref (mr 0), .ref (mr 7), .int z_houses] (PW D cI cJ sz (WZ_NeedsT cI cJ ad mr mi mf mg) (xT8 ad av tf (va_A (WZ_NeedsT cI cJ ad mr mi mf mg) sz)))) (va_Qv (fun (u : Int32 × Int32 × Int32 × Int32 × Int32 × Int32 × (Nat → Int32) × (Nat → Int32) × (Nat → Int32) × (Nat → Int32) × (Nat → Int32) × Int32) => (0 ≤ u.1.toInt) ∧ (u.1.toInt ≤ (mi 9).toInt) ∧ (0 ≤ u.2.2.2.2.1.toInt) ∧ (u.2.2.2.2.1.toInt ≤ 4) ∧ (0 ≤ u.2.2.2.2.2.2.2.2.2.2.2.toInt) ∧ (u.2.2.2.2.2.2.2.2.2.2.2.toInt ≤ 10)) (fun u => QW D cI cJ (va_A (WZ_NeedsT cI cJ ad mr mi mf mg) sz) ((fun (u : Int32 × Int32 × Int32 × Int32 × Int32 × Int32 × (Nat → Int32) × (Nat → Int32) × (Nat → Int32) × (Nat → Int32) × (Nat → Int32) × Int32) => (WZ_NeedsT cI cJ ad mr (upd (upd (upd (upd (upd (upd (upd mi 11 u.1) 14 u.2.1) 12 u.2.2.1) 13 u.2.2.2.1) 15 u.2.2.2.2.1) 16 u.2.2.2.2.2.1) 6 u.2.2.2.2.2.2.2.2.2.2.2) (va_up (va_up (va_up (va_up (va_up mf 1 u.2.2.2.2.2.2.1) 2 u.2.2.2.2.2.2.2.1) 3 u.2.2.2.2.2.2.2.2.1) 4 u.2.2.2.2.2.2.2.2.2.1) 5 u.2.2.2.2.2.2.2.2.2.2.1) mg)) u)) (va_A (WZ_NeedsT cI cJ ad mr mi mf mg) sz)) 0 0 (va_A (WZ_NeedsT cI cJ ad mr mi mf mg) sz) := by
  refine mk_metA (X := fun A => xT8 ad av tf A) (y := yX3_readNeed) (bytes := cX3_readNeed) (maxL := 8) (avs := [.ref (mr 0), .ref (mr 7), .int z_houses]) (WS := (WZ_NeedsT cI cJ ad mr mi mf mg)) (Qf := fun A => va_Qv (fun (u : Int32 × Int32 × Int32 × Int32 × Int32 × Int32 × (Nat → Int32) × (Nat → Int32) × (Nat → Int32) × (Nat → Int32) × (Nat → Int32) × Int32) => (0 ≤ u.1.toInt) ∧ (u.1.toInt ≤ (mi 9).toInt) ∧ (0 ≤ u.2.2.2.2.1.toInt) ∧ (u.2.2.2.2.1.toInt ≤ 4) ∧ (0 ≤ u.2.2.2.2.2.2.2.2.2.2.2.toInt) ∧ (u.2.2.2.2.2.2.2.2.2.2.2.toInt ≤ 10)) (fun u => QW D cI cJ A ((fun (u : Int32 × Int32 × Int32 × Int32 × Int32 × Int32 × (Nat → Int32) × (Nat → Int32) × (Nat → Int32) × (Nat → Int32) × (Nat → Int32) × Int32) => (WZ_NeedsT cI cJ ad mr (upd (upd (upd (upd (upd (upd (upd mi 11 u.1) 14 u.2.1) 12 u.2.2.1) 13 u.2.2.2.1) 15 u.2.2.2.2.1) 16 u.2.2.2.2.2.1) 6 u.2.2.2.2.2.2.2.2.2.2.2) (va_up (va_up (va_up (va_up (va_up mf 1 u.2.2.2.2.2.2.1) 2 u.2.2.2.2.2.2.2.1) 3 u.2.2.2.2.2.2.2.2.1) 4 u.2.2.2.2.2.2.2.2.2.1) 5 u.2.2.2.2.2.2.2.2.2.2.1) mg)) u)) A) (by decide) (Nat.le_of_ble_eq_true rfl) ?_
  intro p e s m below meth c A ls E hr hlk hnm hX hw1 hl2
  have hl3 : lv_has ls 8 [(0, .ref (mr 0)), (1, .ref (mr 7)), (2, .int z_houses)] := hl2
  refine lv_aload_n (pc := 0) E.1 E.2.1 dX3_readNeed_0 rfl (lv_at hl3 1 rfl) ?_
  refine lv_sipush (pc := 1) (v := 256) E.1 E.2.1 dX3_readNeed_1 (by decide +kernel) ?_
  refine ck_v (pc := 4) (ws' := (fun (u : Int32 × Int32 × Int32 × Int32 × Int32 × Int32) => (WZ_NeedsT cI cJ ad mr (upd (upd (upd (upd (upd (upd mi 11 u.1) 12 u.2.2.1) 13 u.2.2.2.1) 14 u.2.1) 15 u.2.2.2.2.1) 16 u.2.2.2.2.2) mf mg))) [false, false, false, false, false, false, true, true] hw1 rfl (fun hC_ => (rn_V (As := [.int 256]) (rest := []) E hw1 (t_pass l D cI cJ _ (shf 7 mr) (shf 7 mi) (shf 7 mf) (shf 7 mg) 256 ad av tf h0 h1 h2 h3 h4) (gdV q_933 q_861 q_862 q_160 q_863) hdV_X8_pass ⟨rfl, rfl⟩ ⟨(Nat.le_of_ble_eq_true rfl), (Nat.le_of_ble_eq_true rfl)⟩ ⟨(Nat.le_of_ble_eq_true rfl), (Nat.le_of_ble_eq_true rfl)⟩ xT8_b (xT8_at hX hw1.2.2.1 (va_free hw1.2.1 hw1.2.2.1 hw1.2.2.2 _ hC_)) 6 8 rfl rfl rfl _ hC_ (nd_T _ 0) rfl hl3.1 rfl (Nat.le_of_ble_eq_true rfl) dX3_readNeed_4)) rfl (fun _ => rfl) (fun _ => rfl) (fun u_4 H1 locs hp hw6 => ?_)
  obtain ⟨nat_7, nplace_8, nkind_9, nvalue_10, nfault_11, nfaultPlace_12⟩ := u_4
  generalize H1 = H at hw6 ⊢
  have hw13 : WD D A s.heap (WZ_NeedsT cI cJ ad mr (upd (upd (upd (upd (upd (upd mi 11 nat_7) 12 nkind_9) 13 nvalue_10) 14 nplace_8) 15 nfault_11) 16 nfaultPlace_12) mf mg) H locs := hw6
  obtain ⟨hp_14, hp_15, hp_16, hp_17⟩ := hp
  have hp_14 : 0 ≤ nat_7.toInt := hp_14
  have hp_15 : nat_7.toInt ≤ (mi 9).toInt := hp_15
  have hp_16 : 0 ≤ nfault_11.toInt := hp_16
  have hp_17 : nfault_11.toInt ≤ 4 := hp_17
  refine lv_aload_n (pc := 7) E.1 E.2.1 dX3_readNeed_7 rfl (lv_at hl3 1 rfl) ?_
  refine x_get (pc := 8) (T := TX8) (N := 9) (ci := 8) (v := .int nkind_9) E hw13 inX8 6 4 q_544 rfl rfl (by decide) rfl rfl dX3_readNeed_8 ?_
  refine lv_sipush (pc := 11) (v := 257) E.1 E.2.1 dX3_readNeed_11 (by decide +kernel) ?_
  refine lv_isub (pc := 14) E.1 E.2.1 dX3_readNeed_14 ?_
  refine lv_topi (fun v_18 ev_18 => ?_)
  refine lv_istore_n (pc := 15) (lv' := [(3, .int v_18), (0, .ref (mr 0)), (1, .ref (mr 7)), (2, .int z_houses)]) E.1 E.2.1 dX3_readNeed_15 rfl hl3 (by decide) rfl (fun ls hl19 => ?_)
  refine lv_aload_n (pc := 16) E.1 E.2.1 dX3_readNeed_16 rfl (lv_at hl19 2 rfl) ?_
  refine x_get (pc := 17) (T := TX8) (N := 9) (ci := 8) (v := .int nkind_9) E hw13 inX8 6 4 q_544 rfl rfl (by decide) rfl rfl dX3_readNeed_17 ?_
  refine lv_sipush (pc := 20) (v := 257) E.1 E.2.1 dX3_readNeed_20 (by decide +kernel) ?_
  refine lv_icmp_lt (pc := 23) (tgt := 36) E.1 E.2.1 dX3_readNeed_23 (by decide) (fun c_20 => ?_) (fun c_20 => ?_)
  · skip
    have hc_20 := ltE (a := nkind_9.toInt) (b := 257) rfl (by decide +kernel) c_20
    refine lv_aload_n (pc := 36) E.1 E.2.1 dX3_readNeed_36 rfl (lv_at hl19 2 rfl) ?_
    refine lv_iconst (pc := 37) (v := 1) E.1 E.2.1 dX3_readNeed_37 (by decide +kernel) ?_
    refine ck_v (pc := 38) (ws' := (fun (u : Int32 × Int32) => (WZ_NeedsT cI cJ ad mr (upd (upd (upd (upd (upd (upd mi 11 nat_7) 12 nkind_9) 13 nvalue_10) 14 nplace_8) 15 u.1) 16 u.2) mf mg))) [false, false, false, false, false, false, true, true] hw13 rfl (fun hC_ => (rn_V (As := [.int 1]) (rest := []) E hw13 (t_refuse l D cI cJ _ (shf 7 mr) (shf 7 (upd (upd (upd (upd (upd (upd mi 11 nat_7) 12 nkind_9) 13 nvalue_10) 14 nplace_8) 15 nfault_11) 16 nfaultPlace_12)) (shf 7 mf) (shf 7 mg) 1 ad (by show 1 ≤ (1 : Int32).toInt ∧ (1 : Int32).toInt ≤ 4; have k_0 : (1 : Int32).toInt = 1 := (by decide +kernel); omega) ⟨hp_16, hp_17⟩) (gdV q_928 q_857 q_858 q_160 q_859) hdV_X8_refuse ⟨rfl, rfl⟩ ⟨(Nat.le_of_ble_eq_true rfl), (Nat.le_of_ble_eq_true rfl)⟩ ⟨(Nat.le_of_ble_eq_true rfl), (Nat.le_of_ble_eq_true rfl)⟩ xT_b xT_at 6 8 rfl rfl rfl _ hC_ (nd_T _ 0) rfl hl19.1 rfl (Nat.le_of_ble_eq_true rfl) dX3_readNeed_38)) rfl (fun _ => rfl) (fun _ => rfl) (fun u_21 H1 locs hp hw23 => ?_)
    obtain ⟨nfault_24, nfaultPlace_25⟩ := u_21
    generalize H1 = H at hw23 ⊢
    have hw26 : WD D A s.heap (WZ_NeedsT cI cJ ad mr (upd (upd (upd (upd (upd (upd mi 11 nat_7) 12 nkind_9) 13 nvalue_10) 14 nplace_8) 15 nfault_24) 16 nfaultPlace_25) mf mg) H locs := hw23
    obtain ⟨hp_27, hp_28⟩ := hp
    have hp_27 : 1 ≤ nfault_24.toInt := hp_27
    have hp_28 : nfault_24.toInt ≤ 4 := hp_28
    refine lv_aload_n (pc := 41) E.1 E.2.1 dX3_readNeed_41 rfl (lv_at hl19 2 rfl) ?_
    refine ck_v (pc := 42) (ws' := (fun (u : Int32 × Int32 × Int32 × Int32) => (WZ_NeedsT cI cJ ad mr (upd (upd (upd (upd (upd (upd mi 11 u.1) 12 u.2.2.1) 13 u.2.2.2) 14 u.2.1) 15 nfault_24) 16 nfaultPlace_25) mf mg))) [false, false, false, false, false, false, true, true] hw26 rfl (fun hC_ => (rn_V (As := []) (rest := []) E hw26 (t_step l D cI cJ _ (shf 7 mr) (shf 7 (upd (upd (upd (upd (upd (upd mi 11 nat_7) 12 nkind_9) 13 nvalue_10) 14 nplace_8) 15 nfault_24) 16 nfaultPlace_25)) (shf 7 mf) (shf 7 mg) ad av tf h0 hp_14 hp_15 h3) (gdV q_934 q_723 q_724 q_160 q_725) hdV_X8_step ⟨rfl, rfl⟩ ⟨(Nat.le_of_ble_eq_true rfl), (Nat.le_of_ble_eq_true rfl)⟩ ⟨(Nat.le_of_ble_eq_true rfl), (Nat.le_of_ble_eq_true rfl)⟩ xT8_b (xT8_at hX hw26.2.2.1 (va_free hw26.2.1 hw26.2.2.1 hw26.2.2.2 _ hC_)) 6 8 rfl rfl rfl _ hC_ (nd_T _ 0) rfl hl19.1 rfl (Nat.le_of_ble_eq_true rfl) dX3_readNeed_42)) rfl (fun _ => rfl) (fun _ => rfl) (fun u_29 H1 locs hp hw31 => ?_)
    obtain ⟨nat_32, nplace_33, nkind_34, nvalue_35⟩ := u_29
    generalize H1 = H at hw31 ⊢
    have hw36 : WD D A s.heap (WZ_NeedsT cI cJ ad mr (upd (upd (upd (upd (upd (upd mi 11 nat_32) 12 nkind_34) 13 nvalue_35) 14 nplace_33) 15 nfault_24) 16 nfaultPlace_25) mf mg) H locs := hw31
    obtain ⟨hp_37, hp_38⟩ := hp
    have hp_37 : 0 ≤ nat_32.toInt := hp_37
    have hp_38 : nat_32.toInt ≤ (mi 9).toInt := hp_38
    refine lv_aload_n (pc := 45) E.1 E.2.1 dX3_readNeed_45 rfl (lv_at hl19 2 rfl) ?_
    refine lv_sipush (pc := 46) (v := 261) E.1 E.2.1 dX3_readNeed_46 (by decide +kernel) ?_
    refine ck_v (pc := 49) (ws' := (fun (u : Int32 × Int32 × Int32 × Int32 × Int32 × Int32) => (WZ_NeedsT cI cJ ad mr (upd (upd (upd (upd (upd (upd mi 11 u.1) 12 u.2.2.1) 13 u.2.2.2.1) 14 u.2.1) 15 u.2.2.2.2.1) 16 u.2.2.2.2.2) mf mg))) [false, false, false, false, false, false, true, true] hw36 rfl (fun hC_ => (rn_V (As := [.int 261]) (rest := []) E hw36 (t_pass l D cI cJ _ (shf 7 mr) (shf 7 (upd (upd (upd (upd (upd (upd mi 11 nat_32) 12 nkind_34) 13 nvalue_35) 14 nplace_33) 15 nfault_24) 16 nfaultPlace_25)) (shf 7 mf) (shf 7 mg) 261 ad av tf h0 hp_37 hp_38 h3 (by show 0 ≤ nfault_24.toInt ∧ nfault_24.toInt ≤ 4; omega)) (gdV q_933 q_861 q_862 q_160 q_863) hdV_X8_pass ⟨rfl, rfl⟩ ⟨(Nat.le_of_ble_eq_true rfl), (Nat.le_of_ble_eq_true rfl)⟩ ⟨(Nat.le_of_ble_eq_true rfl), (Nat.le_of_ble_eq_true rfl)⟩ xT8_b (xT8_at hX hw36.2.2.1 (va_free hw36.2.1 hw36.2.2.1 hw36.2.2.2 _ hC_)) 6 8 rfl rfl rfl _ hC_ (nd_T _ 0) rfl hl19.1 rfl (Nat.le_of_ble_eq_true rfl) dX3_readNeed_49)) rfl (fun _ => rfl) (fun _ => rfl) (fun u_39 H1 locs hp hw41 => ?_)
    obtain ⟨nat_42, nplace_43, nkind_44, nvalue_45, nfault_46, nfaultPlace_47⟩ := u_39
    generalize H1 = H at hw41 ⊢
    have hw48 : WD D A s.heap (WZ_NeedsT cI cJ ad mr (upd (upd (upd (upd (upd (upd mi 11 nat_42) 12 nkind_44) 13 nvalue_45) 14 nplace_43) 15 nfault_46) 16 nfaultPlace_47) mf mg) H locs := hw41
    obtain ⟨hp_49, hp_50, hp_51, hp_52⟩ := hp
    have hp_49 : 0 ≤ nat_42.toInt := hp_49
    have hp_50 : nat_42.toInt ≤ (mi 9).toInt := hp_50
    have hp_51 : 0 ≤ nfault_46.toInt := hp_51
    have hp_52 : nfault_46.toInt ≤ 4 := hp_52
    refine lv_aload_n (pc := 52) E.1 E.2.1 dX3_readNeed_52 rfl (lv_at hl19 2 rfl) ?_
    refine lv_iconst (pc := 53) (v := 0) E.1 E.2.1 dX3_readNeed_53 (by decide +kernel) ?_
    refine lv_iload_n (pc := 54) E.1 E.2.1 dX3_readNeed_54 rfl (lv_at hl19 3 rfl) ?_
    refine lv_iconst (pc := 55) (v := 1) E.1 E.2.1 dX3_readNeed_55 (by decide +kernel) ?_
    refine lv_isub (pc := 56) E.1 E.2.1 dX3_readNeed_56 ?_
    refine lv_topi (fun v_53 ev_53 => ?_)
    have hv_53 : v_53.toInt = z_houses.toInt - 1 := by rw [ev_53]; exact subE rfl (by decide +kernel) (by omega)
    refine ck_i (pc := 57) (ws' := (fun (u : Int32 × Int32 × Int32 × Int32 × Int32 × Int32) => (WZ_NeedsT cI cJ ad mr (upd (upd (upd (upd (upd (upd mi 11 u.1) 12 u.2.2.1) 13 u.2.2.2.1) 14 u.2.1) 15 u.2.2.2.2.1) 16 u.2.2.2.2.2) mf mg))) [false, false, false, false, false, false, true, true] hw48 rfl (fun hC_ => (rn_V (As := [.int 0, .int v_53]) (rest := []) E hw48 (t_numberB l D cI cJ _ (shf 7 mr) (shf 7 (upd (upd (upd (upd (upd (upd mi 11 nat_42) 12 nkind_44) 13 nvalue_45) 14 nplace_43) 15 nfault_46) 16 nfaultPlace_47)) (shf 7 mf) (shf 7 mg) 0 v_53 ad av tf h0 hp_49 hp_50 h3 ⟨hp_51, hp_52⟩ (by show 0 ≤ (0 : Int32).toInt; have k_0 : (0 : Int32).toInt = 0 := (by decide +kernel); omega) (by show (0 : Int32).toInt ≤ 9; have k_0 : (0 : Int32).toInt = 0 := (by decide +kernel); omega) (by show v_53.toInt ≤ 9; omega)) (gdV q_935 q_879 q_880 q_160 q_881) hdV_X8_number ⟨rfl, rfl⟩ ⟨(Nat.le_of_ble_eq_true rfl), (Nat.le_of_ble_eq_true rfl)⟩ ⟨(Nat.le_of_ble_eq_true rfl), (Nat.le_of_ble_eq_true rfl)⟩ xT8_b (xT8_at hX hw48.2.2.1 (va_free hw48.2.1 hw48.2.2.1 hw48.2.2.2 _ hC_)) 6 8 rfl rfl rfl _ hC_ (nd_T _ 0) rfl hl19.1 rfl (Nat.le_of_ble_eq_true rfl) dX3_readNeed_57)) rfl (fun _ => rfl) (fun _ => rfl) (fun r_55 u_54 H1 locs hp hw56 => ?_)
    obtain ⟨nat_57, nplace_58, nkind_59, nvalue_60, nfault_61, nfaultPlace_62⟩ := u_54
    generalize H1 = H at hw56 ⊢
    have hw63 : WD D A s.heap (WZ_NeedsT cI cJ ad mr (upd (upd (upd (upd (upd (upd mi 11 nat_57) 12 nkind_59) 13 nvalue_60) 14 nplace_58) 15 nfault_61) 16 nfaultPlace_62) mf mg) H locs := hw56
    obtain ⟨hp_64, hp_65, hp_66, hp_67, hp_68, hp_69⟩ := hp
    have hp_64 : 0 ≤ nat_57.toInt := hp_64
    have hp_65 : nat_57.toInt ≤ (mi 9).toInt := hp_65
    have hp_66 : 0 ≤ nfault_61.toInt := hp_66
    have hp_67 : nfault_61.toInt ≤ 4 := hp_67
    have hp_68 : 0 ≤ r_55.toInt := hp_68
    have hp_69 : r_55.toInt ≤ 9 := hp_69
    refine lv_istore (pc := 60) (lv' := [(4, .int r_55), (3, .int v_18), (0, .ref (mr 0)), (1, .ref (mr 7)), (2, .int z_houses)]) E.1 E.2.1 dX3_readNeed_60 hl19 (by decide) rfl (fun ls hl70 => ?_)
    refine lv_aload_n (pc := 62) E.1 E.2.1 dX3_readNeed_62 rfl (lv_at hl70 3 rfl) ?_
    refine lv_sipush (pc := 63) (v := 262) E.1 E.2.1 dX3_readNeed_63 (by decide +kernel) ?_
    refine ck_v (pc := 66) (ws' := (fun (u : Int32 × Int32 × Int32 × Int32 × Int32 × Int32) => (WZ_NeedsT cI cJ ad mr (upd (upd (upd (upd (upd (upd mi 11 u.1) 12 u.2.2.1) 13 u.2.2.2.1) 14 u.2.1) 15 u.2.2.2.2.1) 16 u.2.2.2.2.2) mf mg))) [false, false, false, false, false, false, true, true] hw63 rfl (fun hC_ => (rn_V (As := [.int 262]) (rest := []) E hw63 (t_pass l D cI cJ _ (shf 7 mr) (shf 7 (upd (upd (upd (upd (upd (upd mi 11 nat_57) 12 nkind_59) 13 nvalue_60) 14 nplace_58) 15 nfault_61) 16 nfaultPlace_62)) (shf 7 mf) (shf 7 mg) 262 ad av tf h0 hp_64 hp_65 h3 ⟨hp_66, hp_67⟩) (gdV q_933 q_861 q_862 q_160 q_863) hdV_X8_pass ⟨rfl, rfl⟩ ⟨(Nat.le_of_ble_eq_true rfl), (Nat.le_of_ble_eq_true rfl)⟩ ⟨(Nat.le_of_ble_eq_true rfl), (Nat.le_of_ble_eq_true rfl)⟩ xT8_b (xT8_at hX hw63.2.2.1 (va_free hw63.2.1 hw63.2.2.1 hw63.2.2.2 _ hC_)) 6 8 rfl rfl rfl _ hC_ (nd_T _ 0) rfl hl70.1 rfl (Nat.le_of_ble_eq_true rfl) dX3_readNeed_66)) rfl (fun _ => rfl) (fun _ => rfl) (fun u_71 H1 locs hp hw73 => ?_)
    obtain ⟨nat_74, nplace_75, nkind_76, nvalue_77, nfault_78, nfaultPlace_79⟩ := u_71
    generalize H1 = H at hw73 ⊢
    have hw80 : WD D A s.heap (WZ_NeedsT cI cJ ad mr (upd (upd (upd (upd (upd (upd mi 11 nat_74) 12 nkind_76) 13 nvalue_77) 14 nplace_75) 15 nfault_78) 16 nfaultPlace_79) mf mg) H locs := hw73
    obtain ⟨hp_81, hp_82, hp_83, hp_84⟩ := hp
    have hp_81 : 0 ≤ nat_74.toInt := hp_81
    have hp_82 : nat_74.toInt ≤ (mi 9).toInt := hp_82
    have hp_83 : 0 ≤ nfault_78.toInt := hp_83
    have hp_84 : nfault_78.toInt ≤ 4 := hp_84
    refine lv_aload_n (pc := 69) E.1 E.2.1 dX3_readNeed_69 rfl (lv_at hl70 3 rfl) ?_
    refine lv_iconst (pc := 70) (v := 0) E.1 E.2.1 dX3_readNeed_70 (by decide +kernel) ?_
    refine lv_sipush (pc := 71) (v := 9999) E.1 E.2.1 dX3_readNeed_71 (by decide +kernel) ?_
    refine ck_i (pc := 74) (ws' := (fun (u : Int32 × Int32 × Int32 × Int32 × Int32 × Int32) => (WZ_NeedsT cI cJ ad mr (upd (upd (upd (upd (upd (upd mi 11 u.1) 12 u.2.2.1) 13 u.2.2.2.1) 14 u.2.1) 15 u.2.2.2.2.1) 16 u.2.2.2.2.2) mf mg))) [false, false, false, false, false, false, true, true] hw80 rfl (fun hC_ => (rn_V (As := [.int 0, .int 9999]) (rest := []) E hw80 (t_numberA l D cI cJ _ (shf 7 mr) (shf 7 (upd (upd (upd (upd (upd (upd mi 11 nat_74) 12 nkind_76) 13 nvalue_77) 14 nplace_75) 15 nfault_78) 16 nfaultPlace_79)) (shf 7 mf) (shf 7 mg) 0 9999 ad av tf h0 hp_81 hp_82 h3 ⟨hp_83, hp_84⟩ (by show (0 : Int32).toInt ≤ (9999 : Int32).toInt; have k_0 : (0 : Int32).toInt = 0 := (by decide +kernel); have k_1 : (9999 : Int32).toInt = 9999 := (by decide +kernel); omega)) (gdV q_935 q_879 q_880 q_160 q_881) hdV_X8_number ⟨rfl, rfl⟩ ⟨(Nat.le_of_ble_eq_true rfl), (Nat.le_of_ble_eq_true rfl)⟩ ⟨(Nat.le_of_ble_eq_true rfl), (Nat.le_of_ble_eq_true rfl)⟩ xT8_b (xT8_at hX hw80.2.2.1 (va_free hw80.2.1 hw80.2.2.1 hw80.2.2.2 _ hC_)) 6 8 rfl rfl rfl _ hC_ (nd_T _ 0) rfl hl70.1 rfl (Nat.le_of_ble_eq_true rfl) dX3_readNeed_74)) rfl (fun _ => rfl) (fun _ => rfl) (fun r_86 u_85 H1 locs hp hw87 => ?_)
    obtain ⟨nat_88, nplace_89, nkind_90, nvalue_91, nfault_92, nfaultPlace_93⟩ := u_85
    generalize H1 = H at hw87 ⊢
    have hw94 : WD D A s.heap (WZ_NeedsT cI cJ ad mr (upd (upd (upd (upd (upd (upd mi 11 nat_88) 12 nkind_90) 13 nvalue_91) 14 nplace_89) 15 nfault_92) 16 nfaultPlace_93) mf mg) H locs := hw87
    obtain ⟨hp_95, hp_96, hp_97, hp_98, hp_99, hp_100⟩ := hp
    have hp_95 : 0 ≤ nat_88.toInt := hp_95
    have hp_96 : nat_88.toInt ≤ (mi 9).toInt := hp_96
    have hp_97 : 0 ≤ nfault_92.toInt := hp_97
    have hp_98 : nfault_92.toInt ≤ 4 := hp_98
    have hp_99 : (0 : Int32).toInt ≤ r_86.toInt := hp_99
    rw [show (0 : Int32).toInt = 0 from by decide +kernel] at hp_99
    have hp_100 : r_86.toInt ≤ (9999 : Int32).toInt := hp_100
    rw [show (9999 : Int32).toInt = 9999 from by decide +kernel] at hp_100
    refine lv_istore (pc := 77) (lv' := [(5, .int r_86), (4, .int r_55), (3, .int v_18), (0, .ref (mr 0)), (1, .ref (mr 7)), (2, .int z_houses)]) E.1 E.2.1 dX3_readNeed_77 hl70 (by decide) rfl (fun ls hl101 => ?_)
    refine lv_aload_n (pc := 79) E.1 E.2.1 dX3_readNeed_79 rfl (lv_at hl101 4 rfl) ?_
    refine lv_sipush (pc := 80) (v := 263) E.1 E.2.1 dX3_readNeed_80 (by decide +kernel) ?_
    refine ck_v (pc := 83) (ws' := (fun (u : Int32 × Int32 × Int32 × Int32 × Int32 × Int32) => (WZ_NeedsT cI cJ ad mr (upd (upd (upd (upd (upd (upd mi 11 u.1) 12 u.2.2.1) 13 u.2.2.2.1) 14 u.2.1) 15 u.2.2.2.2.1) 16 u.2.2.2.2.2) mf mg))) [false, false, false, false, false, false, true, true] hw94 rfl (fun hC_ => (rn_V (As := [.int 263]) (rest := []) E hw94 (t_pass l D cI cJ _ (shf 7 mr) (shf 7 (upd (upd (upd (upd (upd (upd mi 11 nat_88) 12 nkind_90) 13 nvalue_91) 14 nplace_89) 15 nfault_92) 16 nfaultPlace_93)) (shf 7 mf) (shf 7 mg) 263 ad av tf h0 hp_95 hp_96 h3 ⟨hp_97, hp_98⟩) (gdV q_933 q_861 q_862 q_160 q_863) hdV_X8_pass ⟨rfl, rfl⟩ ⟨(Nat.le_of_ble_eq_true rfl), (Nat.le_of_ble_eq_true rfl)⟩ ⟨(Nat.le_of_ble_eq_true rfl), (Nat.le_of_ble_eq_true rfl)⟩ xT8_b (xT8_at hX hw94.2.2.1 (va_free hw94.2.1 hw94.2.2.1 hw94.2.2.2 _ hC_)) 6 8 rfl rfl rfl _ hC_ (nd_T _ 0) rfl hl101.1 rfl (Nat.le_of_ble_eq_true rfl) dX3_readNeed_83)) rfl (fun _ => rfl) (fun _ => rfl) (fun u_102 H1 locs hp hw104 => ?_)
    obtain ⟨nat_105, nplace_106, nkind_107, nvalue_108, nfault_109, nfaultPlace_110⟩ := u_102
    generalize H1 = H at hw104 ⊢
    have hw111 : WD D A s.heap (WZ_NeedsT cI cJ ad mr (upd (upd (upd (upd (upd (upd mi 11 nat_105) 12 nkind_107) 13 nvalue_108) 14 nplace_106) 15 nfault_109) 16 nfaultPlace_110) mf mg) H locs := hw104
    obtain ⟨hp_112, hp_113, hp_114, hp_115⟩ := hp
    have hp_112 : 0 ≤ nat_105.toInt := hp_112
    have hp_113 : nat_105.toInt ≤ (mi 9).toInt := hp_113
    have hp_114 : 0 ≤ nfault_109.toInt := hp_114
    have hp_115 : nfault_109.toInt ≤ 4 := hp_115
    refine lv_aload_n (pc := 86) E.1 E.2.1 dX3_readNeed_86 rfl (lv_at hl101 4 rfl) ?_
    refine lv_iload (pc := 87) E.1 E.2.1 dX3_readNeed_87 (lv_at hl101 0 rfl) ?_
    refine lv_sipush (pc := 89) (v := 9999) E.1 E.2.1 dX3_readNeed_89 (by decide +kernel) ?_
    refine ck_i (pc := 92) (ws' := (fun (u : Int32 × Int32 × Int32 × Int32 × Int32 × Int32) => (WZ_NeedsT cI cJ ad mr (upd (upd (upd (upd (upd (upd mi 11 u.1) 12 u.2.2.1) 13 u.2.2.2.1) 14 u.2.1) 15 u.2.2.2.2.1) 16 u.2.2.2.2.2) mf mg))) [false, false, false, false, false, false, true, true] hw111 rfl (fun hC_ => (rn_V (As := [.int r_86, .int 9999]) (rest := []) E hw111 (t_numberA l D cI cJ _ (shf 7 mr) (shf 7 (upd (upd (upd (upd (upd (upd mi 11 nat_105) 12 nkind_107) 13 nvalue_108) 14 nplace_106) 15 nfault_109) 16 nfaultPlace_110)) (shf 7 mf) (shf 7 mg) r_86 9999 ad av tf h0 hp_112 hp_113 h3 ⟨hp_114, hp_115⟩ (by show r_86.toInt ≤ (9999 : Int32).toInt; have k_0 : (9999 : Int32).toInt = 9999 := (by decide +kernel); omega)) (gdV q_935 q_879 q_880 q_160 q_881) hdV_X8_number ⟨rfl, rfl⟩ ⟨(Nat.le_of_ble_eq_true rfl), (Nat.le_of_ble_eq_true rfl)⟩ ⟨(Nat.le_of_ble_eq_true rfl), (Nat.le_of_ble_eq_true rfl)⟩ xT8_b (xT8_at hX hw111.2.2.1 (va_free hw111.2.1 hw111.2.2.1 hw111.2.2.2 _ hC_)) 6 8 rfl rfl rfl _ hC_ (nd_T _ 0) rfl hl101.1 rfl (Nat.le_of_ble_eq_true rfl) dX3_readNeed_92)) rfl (fun _ => rfl) (fun _ => rfl) (fun r_117 u_116 H1 locs hp hw118 => ?_)
    obtain ⟨nat_119, nplace_120, nkind_121, nvalue_122, nfault_123, nfaultPlace_124⟩ := u_116
    generalize H1 = H at hw118 ⊢
    have hw125 : WD D A s.heap (WZ_NeedsT cI cJ ad mr (upd (upd (upd (upd (upd (upd mi 11 nat_119) 12 nkind_121) 13 nvalue_122) 14 nplace_120) 15 nfault_123) 16 nfaultPlace_124) mf mg) H locs := hw118
    obtain ⟨hp_126, hp_127, hp_128, hp_129, hp_130, hp_131⟩ := hp
    have hp_126 : 0 ≤ nat_119.toInt := hp_126
    have hp_127 : nat_119.toInt ≤ (mi 9).toInt := hp_127
    have hp_128 : 0 ≤ nfault_123.toInt := hp_128
    have hp_129 : nfault_123.toInt ≤ 4 := hp_129
    have hp_130 : r_86.toInt ≤ r_117.toInt := hp_130
    have hp_131 : r_117.toInt ≤ (9999 : Int32).toInt := hp_131
    rw [show (9999 : Int32).toInt = 9999 from by decide +kernel] at hp_131
    refine lv_istore (pc := 95) (lv' := [(6, .int r_117), (5, .int r_86), (4, .int r_55), (3, .int v_18), (0, .ref (mr 0)), (1, .ref (mr 7)), (2, .int z_houses)]) E.1 E.2.1 dX3_readNeed_95 hl101 (by decide) rfl (fun ls hl132 => ?_)
    refine lv_aload_n (pc := 97) E.1 E.2.1 dX3_readNeed_97 rfl (lv_at hl132 5 rfl) ?_
    refine lv_sipush (pc := 98) (v := 264) E.1 E.2.1 dX3_readNeed_98 (by decide +kernel) ?_
    refine ck_v (pc := 101) (ws' := (fun (u : Int32 × Int32 × Int32 × Int32 × Int32 × Int32) => (WZ_NeedsT cI cJ ad mr (upd (upd (upd (upd (upd (upd mi 11 u.1) 12 u.2.2.1) 13 u.2.2.2.1) 14 u.2.1) 15 u.2.2.2.2.1) 16 u.2.2.2.2.2) mf mg))) [false, false, false, false, false, false, true, true] hw125 rfl (fun hC_ => (rn_V (As := [.int 264]) (rest := []) E hw125 (t_pass l D cI cJ _ (shf 7 mr) (shf 7 (upd (upd (upd (upd (upd (upd mi 11 nat_119) 12 nkind_121) 13 nvalue_122) 14 nplace_120) 15 nfault_123) 16 nfaultPlace_124)) (shf 7 mf) (shf 7 mg) 264 ad av tf h0 hp_126 hp_127 h3 ⟨hp_128, hp_129⟩) (gdV q_933 q_861 q_862 q_160 q_863) hdV_X8_pass ⟨rfl, rfl⟩ ⟨(Nat.le_of_ble_eq_true rfl), (Nat.le_of_ble_eq_true rfl)⟩ ⟨(Nat.le_of_ble_eq_true rfl), (Nat.le_of_ble_eq_true rfl)⟩ xT8_b (xT8_at hX hw125.2.2.1 (va_free hw125.2.1 hw125.2.2.1 hw125.2.2.2 _ hC_)) 6 8 rfl rfl rfl _ hC_ (nd_T _ 0) rfl hl132.1 rfl (Nat.le_of_ble_eq_true rfl) dX3_readNeed_101)) rfl (fun _ => rfl) (fun _ => rfl) (fun u_133 H1 locs hp hw135 => ?_)
    obtain ⟨nat_136, nplace_137, nkind_138, nvalue_139, nfault_140, nfaultPlace_141⟩ := u_133
    generalize H1 = H at hw135 ⊢
    have hw142 : WD D A s.heap (WZ_NeedsT cI cJ ad mr (upd (upd (upd (upd (upd (upd mi 11 nat_136) 12 nkind_138) 13 nvalue_139) 14 nplace_137) 15 nfault_140) 16 nfaultPlace_141) mf mg) H locs := hw135
    obtain ⟨hp_143, hp_144, hp_145, hp_146⟩ := hp
    have hp_143 : 0 ≤ nat_136.toInt := hp_143
    have hp_144 : nat_136.toInt ≤ (mi 9).toInt := hp_144
    have hp_145 : 0 ≤ nfault_140.toInt := hp_145
    have hp_146 : nfault_140.toInt ≤ 4 := hp_146
    refine lv_aload_n (pc := 104) E.1 E.2.1 dX3_readNeed_104 rfl (lv_at hl132 5 rfl) ?_
    refine lv_iconst (pc := 105) (v := 1) E.1 E.2.1 dX3_readNeed_105 (by decide +kernel) ?_
    refine lv_bipush (pc := 106) (v := 99) E.1 E.2.1 dX3_readNeed_106 (by decide +kernel) ?_
    refine ck_i (pc := 108) (ws' := (fun (u : Int32 × Int32 × Int32 × Int32 × Int32 × Int32) => (WZ_NeedsT cI cJ ad mr (upd (upd (upd (upd (upd (upd mi 11 u.1) 12 u.2.2.1) 13 u.2.2.2.1) 14 u.2.1) 15 u.2.2.2.2.1) 16 u.2.2.2.2.2) mf mg))) [false, false, false, false, false, false, true, true] hw142 rfl (fun hC_ => (rn_V (As := [.int 1, .int 99]) (rest := []) E hw142 (t_numberA l D cI cJ _ (shf 7 mr) (shf 7 (upd (upd (upd (upd (upd (upd mi 11 nat_136) 12 nkind_138) 13 nvalue_139) 14 nplace_137) 15 nfault_140) 16 nfaultPlace_141)) (shf 7 mf) (shf 7 mg) 1 99 ad av tf h0 hp_143 hp_144 h3 ⟨hp_145, hp_146⟩ (by show (1 : Int32).toInt ≤ (99 : Int32).toInt; have k_0 : (1 : Int32).toInt = 1 := (by decide +kernel); have k_1 : (99 : Int32).toInt = 99 := (by decide +kernel); omega)) (gdV q_935 q_879 q_880 q_160 q_881) hdV_X8_number ⟨rfl, rfl⟩ ⟨(Nat.le_of_ble_eq_true rfl), (Nat.le_of_ble_eq_true rfl)⟩ ⟨(Nat.le_of_ble_eq_true rfl), (Nat.le_of_ble_eq_true rfl)⟩ xT8_b (xT8_at hX hw142.2.2.1 (va_free hw142.2.1 hw142.2.2.1 hw142.2.2.2 _ hC_)) 6 8 rfl rfl rfl _ hC_ (nd_T _ 0) rfl hl132.1 rfl (Nat.le_of_ble_eq_true rfl) dX3_readNeed_108)) rfl (fun _ => rfl) (fun _ => rfl) (fun r_148 u_147 H1 locs hp hw149 => ?_)
    obtain ⟨nat_150, nplace_151, nkind_152, nvalue_153, nfault_154, nfaultPlace_155⟩ := u_147
    generalize H1 = H at hw149 ⊢
    have hw156 : WD D A s.heap (WZ_NeedsT cI cJ ad mr (upd (upd (upd (upd (upd (upd mi 11 nat_150) 12 nkind_152) 13 nvalue_153) 14 nplace_151) 15 nfault_154) 16 nfaultPlace_155) mf mg) H locs := hw149
    obtain ⟨hp_157, hp_158, hp_159, hp_160, hp_161, hp_162⟩ := hp
    have hp_157 : 0 ≤ nat_150.toInt := hp_157
    have hp_158 : nat_150.toInt ≤ (mi 9).toInt := hp_158
    have hp_159 : 0 ≤ nfault_154.toInt := hp_159
    have hp_160 : nfault_154.toInt ≤ 4 := hp_160
    have hp_161 : (1 : Int32).toInt ≤ r_148.toInt := hp_161
    rw [show (1 : Int32).toInt = 1 from by decide +kernel] at hp_161
    have hp_162 : r_148.toInt ≤ (99 : Int32).toInt := hp_162
    rw [show (99 : Int32).toInt = 99 from by decide +kernel] at hp_162
    refine lv_istore (pc := 111) (lv' := [(7, .int r_148), (6, .int r_117), (5, .int r_86), (4, .int r_55), (3, .int v_18), (0, .ref (mr 0)), (1, .ref (mr 7)), (2, .int z_houses)]) E.1 E.2.1 dX3_readNeed_111 hl132 (by decide) rfl (fun ls hl163 => ?_)
    refine lv_aload_n (pc := 113) E.1 E.2.1 dX3_readNeed_113 rfl (lv_at hl163 6 rfl) ?_
    refine lv_bipush (pc := 114) (v := 59) E.1 E.2.1 dX3_readNeed_114 (by decide +kernel) ?_
    refine ck_v (pc := 116) (ws' := (fun (u : Int32 × Int32 × Int32 × Int32 × Int32 × Int32) => (WZ_NeedsT cI cJ ad mr (upd (upd (upd (upd (upd (upd mi 11 u.1) 12 u.2.2.1) 13 u.2.2.2.1) 14 u.2.1) 15 u.2.2.2.2.1) 16 u.2.2.2.2.2) mf mg))) [false, false, false, false, false, false, true, true] hw156 rfl (fun hC_ => (rn_V (As := [.int 59]) (rest := []) E hw156 (t_pass l D cI cJ _ (shf 7 mr) (shf 7 (upd (upd (upd (upd (upd (upd mi 11 nat_150) 12 nkind_152) 13 nvalue_153) 14 nplace_151) 15 nfault_154) 16 nfaultPlace_155)) (shf 7 mf) (shf 7 mg) 59 ad av tf h0 hp_157 hp_158 h3 ⟨hp_159, hp_160⟩) (gdV q_933 q_861 q_862 q_160 q_863) hdV_X8_pass ⟨rfl, rfl⟩ ⟨(Nat.le_of_ble_eq_true rfl), (Nat.le_of_ble_eq_true rfl)⟩ ⟨(Nat.le_of_ble_eq_true rfl), (Nat.le_of_ble_eq_true rfl)⟩ xT8_b (xT8_at hX hw156.2.2.1 (va_free hw156.2.1 hw156.2.2.1 hw156.2.2.2 _ hC_)) 6 8 rfl rfl rfl _ hC_ (nd_T _ 0) rfl hl163.1 rfl (Nat.le_of_ble_eq_true rfl) dX3_readNeed_116)) rfl (fun _ => rfl) (fun _ => rfl) (fun u_164 H1 locs hp hw166 => ?_)
    obtain ⟨nat_167, nplace_168, nkind_169, nvalue_170, nfault_171, nfaultPlace_172⟩ := u_164
    generalize H1 = H at hw166 ⊢
    have hw173 : WD D A s.heap (WZ_NeedsT cI cJ ad mr (upd (upd (upd (upd (upd (upd mi 11 nat_167) 12 nkind_169) 13 nvalue_170) 14 nplace_168) 15 nfault_171) 16 nfaultPlace_172) mf mg) H locs := hw166
    obtain ⟨hp_174, hp_175, hp_176, hp_177⟩ := hp
    have hp_174 : 0 ≤ nat_167.toInt := hp_174
    have hp_175 : nat_167.toInt ≤ (mi 9).toInt := hp_175
    have hp_176 : 0 ≤ nfault_171.toInt := hp_176
    have hp_177 : nfault_171.toInt ≤ 4 := hp_177
    refine lv_aload_n (pc := 119) E.1 E.2.1 dX3_readNeed_119 rfl (lv_at hl163 6 rfl) ?_
    refine x_get (pc := 120) (T := TX8) (N := 9) (ci := 8) (v := .int nfault_171) E hw173 inX8 6 7 q_554 rfl rfl (by decide) rfl rfl dX3_readNeed_120 ?_
    refine lv_if_ne (pc := 123) (tgt := 199) E.1 E.2.1 dX3_readNeed_123 (by decide) (fun c_178 => ?_) (fun c_178 => ?_)
    · skip
      have hc_178 := neE (a := nfault_171.toInt) (b := 0) rfl (by decide +kernel) c_178
      exact em_v (w1 := (fun (u : Int32 × Int32 × Int32 × Int32 × Int32 × Int32 × (Nat → Int32) × (Nat → Int32) × (Nat → Int32) × (Nat → Int32) × (Nat → Int32) × Int32) => (WZ_NeedsT cI cJ ad mr (upd (upd (upd (upd (upd (upd (upd mi 11 u.1) 14 u.2.1) 12 u.2.2.1) 13 u.2.2.2.1) 15 u.2.2.2.2.1) 16 u.2.2.2.2.2.1) 6 u.2.2.2.2.2.2.2.2.2.2.2) (va_up (va_up (va_up (va_up (va_up mf 1 u.2.2.2.2.2.2.1) 2 u.2.2.2.2.2.2.2.1) 3 u.2.2.2.2.2.2.2.2.1) 4 u.2.2.2.2.2.2.2.2.2.1) 5 u.2.2.2.2.2.2.2.2.2.2.1) mg))) E hr hlk (nat_167, nplace_168, nkind_169, nvalue_170, nfault_171, nfaultPlace_172, (mf 1), (mf 2), (mf 3), (mf 4), (mf 5), (mi 6)) hw173 ⟨hp_174, hp_175, hp_176, hp_177, h6.1, h6.2⟩ (Nat.le_of_ble_eq_true rfl) (Nat.le_of_ble_eq_true rfl) dX3_readNeed_199
    · skip
      have hc_178 := eqE (a := nfault_171.toInt) (b := 0) rfl (by decide +kernel) c_178
      refine lv_aload_n (pc := 126) E.1 E.2.1 dX3_readNeed_126 rfl (lv_at hl163 5 rfl) ?_
      refine x_get (pc := 127) (T := TX3) (N := 6) (ci := 3) (v := .int (mi 6)) E hw173 inX3 0 5 q_361 rfl rfl (by decide) rfl rfl dX3_readNeed_127 ?_
      refine lv_bipush (pc := 130) (v := 10) E.1 E.2.1 dX3_readNeed_130 (by decide +kernel) ?_
      refine lv_icmp_ge (pc := 132) (tgt := 199) E.1 E.2.1 dX3_readNeed_132 (by decide) (fun c_179 => ?_) (fun c_179 => ?_)
      · skip
        have hc_179 := leE (a := 10) (b := (mi 6).toInt) (by decide +kernel) rfl c_179
        exact em_v (w1 := (fun (u : Int32 × Int32 × Int32 × Int32 × Int32 × Int32 × (Nat → Int32) × (Nat → Int32) × (Nat → Int32) × (Nat → Int32) × (Nat → Int32) × Int32) => (WZ_NeedsT cI cJ ad mr (upd (upd (upd (upd (upd (upd (upd mi 11 u.1) 14 u.2.1) 12 u.2.2.1) 13 u.2.2.2.1) 15 u.2.2.2.2.1) 16 u.2.2.2.2.2.1) 6 u.2.2.2.2.2.2.2.2.2.2.2) (va_up (va_up (va_up (va_up (va_up mf 1 u.2.2.2.2.2.2.1) 2 u.2.2.2.2.2.2.2.1) 3 u.2.2.2.2.2.2.2.2.1) 4 u.2.2.2.2.2.2.2.2.2.1) 5 u.2.2.2.2.2.2.2.2.2.2.1) mg))) E hr hlk (nat_167, nplace_168, nkind_169, nvalue_170, nfault_171, nfaultPlace_172, (mf 1), (mf 2), (mf 3), (mf 4), (mf 5), (mi 6)) hw173 ⟨hp_174, hp_175, hp_176, hp_177, h6.1, h6.2⟩ (Nat.le_of_ble_eq_true rfl) (Nat.le_of_ble_eq_true rfl) dX3_readNeed_199
      · skip
        have hc_179 := nleE (a := 10) (b := (mi 6).toInt) (by decide +kernel) rfl c_179
        refine lv_aload_n (pc := 135) E.1 E.2.1 dX3_readNeed_135 rfl (lv_at hl163 5 rfl) ?_
        refine x_get (pc := 136) (T := TX3) (N := 6) (ci := 3) (v := .ref (mr 1)) E hw173 inX3 0 0 q_343 rfl rfl (by decide) rfl rfl dX3_readNeed_136 ?_
        refine lv_aload_n (pc := 139) E.1 E.2.1 dX3_readNeed_139 rfl (lv_at hl163 5 rfl) ?_
        refine x_get (pc := 140) (T := TX3) (N := 6) (ci := 3) (v := .int (mi 6)) E hw173 inX3 0 5 q_361 rfl rfl (by decide) rfl rfl dX3_readNeed_140 ?_
        refine lv_iload_n (pc := 143) E.1 E.2.1 dX3_readNeed_143 rfl (lv_at hl163 4 rfl) ?_
        refine x_iastG (pc := 144) (f := (mf 1)) (wf := fun g => (WZ_NeedsT cI cJ ad mr (upd (upd (upd (upd (upd (upd mi 11 nat_167) 12 nkind_169) 13 nvalue_170) 14 nplace_168) 15 nfault_171) 16 nfaultPlace_172) (va_up mf 1 g) mg)) E hw173 1 rfl (inbE (a := (mi 6).toInt) rfl (by omega)) (fun _ => rfl) dX3_readNeed_144 (fun g_180 H locs eg_180 hw181 => ?_)
        refine lv_aload_n (pc := 145) E.1 E.2.1 dX3_readNeed_145 rfl (lv_at hl163 5 rfl) ?_
        refine x_get (pc := 146) (T := TX3) (N := 6) (ci := 3) (v := .ref (mr 2)) E hw181 inX3 0 1 q_347 rfl rfl (by decide) rfl rfl dX3_readNeed_146 ?_
        refine lv_aload_n (pc := 149) E.1 E.2.1 dX3_readNeed_149 rfl (lv_at hl163 5 rfl) ?_
        refine x_get (pc := 150) (T := TX3) (N := 6) (ci := 3) (v := .int (mi 6)) E hw181 inX3 0 5 q_361 rfl rfl (by decide) rfl rfl dX3_readNeed_150 ?_
        refine lv_iload (pc := 153) E.1 E.2.1 dX3_readNeed_153 (lv_at hl163 3 rfl) ?_
        refine x_iastG (pc := 155) (f := (mf 2)) (wf := fun g => (WZ_NeedsT cI cJ ad mr (upd (upd (upd (upd (upd (upd mi 11 nat_167) 12 nkind_169) 13 nvalue_170) 14 nplace_168) 15 nfault_171) 16 nfaultPlace_172) (va_up (va_up mf 1 g_180) 2 g) mg)) E hw181 2 rfl (inbE (a := (mi 6).toInt) rfl (by omega)) (fun _ => rfl) dX3_readNeed_155 (fun g_182 H locs eg_182 hw183 => ?_)
        refine lv_aload_n (pc := 156) E.1 E.2.1 dX3_readNeed_156 rfl (lv_at hl163 5 rfl) ?_
        refine x_get (pc := 157) (T := TX3) (N := 6) (ci := 3) (v := .ref (mr 3)) E hw183 inX3 0 2 q_351 rfl rfl (by decide) rfl rfl dX3_readNeed_157 ?_
        refine lv_aload_n (pc := 160) E.1 E.2.1 dX3_readNeed_160 rfl (lv_at hl163 5 rfl) ?_
        refine x_get (pc := 161) (T := TX3) (N := 6) (ci := 3) (v := .int (mi 6)) E hw183 inX3 0 5 q_361 rfl rfl (by decide) rfl rfl dX3_readNeed_161 ?_
        refine lv_iload (pc := 164) E.1 E.2.1 dX3_readNeed_164 (lv_at hl163 2 rfl) ?_
        refine x_iastG (pc := 166) (f := (mf 3)) (wf := fun g => (WZ_NeedsT cI cJ ad mr (upd (upd (upd (upd (upd (upd mi 11 nat_167) 12 nkind_169) 13 nvalue_170) 14 nplace_168) 15 nfault_171) 16 nfaultPlace_172) (va_up (va_up (va_up mf 1 g_180) 2 g_182) 3 g) mg)) E hw183 3 rfl (inbE (a := (mi 6).toInt) rfl (by omega)) (fun _ => rfl) dX3_readNeed_166 (fun g_184 H locs eg_184 hw185 => ?_)
        refine lv_aload_n (pc := 167) E.1 E.2.1 dX3_readNeed_167 rfl (lv_at hl163 5 rfl) ?_
        refine x_get (pc := 168) (T := TX3) (N := 6) (ci := 3) (v := .ref (mr 4)) E hw185 inX3 0 3 q_354 rfl rfl (by decide) rfl rfl dX3_readNeed_168 ?_
        refine lv_aload_n (pc := 171) E.1 E.2.1 dX3_readNeed_171 rfl (lv_at hl163 5 rfl) ?_
        refine x_get (pc := 172) (T := TX3) (N := 6) (ci := 3) (v := .int (mi 6)) E hw185 inX3 0 5 q_361 rfl rfl (by decide) rfl rfl dX3_readNeed_172 ?_
        refine lv_iload (pc := 175) E.1 E.2.1 dX3_readNeed_175 (lv_at hl163 1 rfl) ?_
        refine x_iastG (pc := 177) (f := (mf 4)) (wf := fun g => (WZ_NeedsT cI cJ ad mr (upd (upd (upd (upd (upd (upd mi 11 nat_167) 12 nkind_169) 13 nvalue_170) 14 nplace_168) 15 nfault_171) 16 nfaultPlace_172) (va_up (va_up (va_up (va_up mf 1 g_180) 2 g_182) 3 g_184) 4 g) mg)) E hw185 4 rfl (inbE (a := (mi 6).toInt) rfl (by omega)) (fun _ => rfl) dX3_readNeed_177 (fun g_186 H locs eg_186 hw187 => ?_)
        refine lv_aload_n (pc := 178) E.1 E.2.1 dX3_readNeed_178 rfl (lv_at hl163 5 rfl) ?_
        refine x_get (pc := 179) (T := TX3) (N := 6) (ci := 3) (v := .ref (mr 5)) E hw187 inX3 0 4 q_358 rfl rfl (by decide) rfl rfl dX3_readNeed_179 ?_
        refine lv_aload_n (pc := 182) E.1 E.2.1 dX3_readNeed_182 rfl (lv_at hl163 5 rfl) ?_
        refine x_get (pc := 183) (T := TX3) (N := 6) (ci := 3) (v := .int (mi 6)) E hw187 inX3 0 5 q_361 rfl rfl (by decide) rfl rfl dX3_readNeed_183 ?_
        refine lv_iload (pc := 186) E.1 E.2.1 dX3_readNeed_186 (lv_at hl163 0 rfl) ?_
        refine x_iastG (pc := 188) (f := (mf 5)) (wf := fun g => (WZ_NeedsT cI cJ ad mr (upd (upd (upd (upd (upd (upd mi 11 nat_167) 12 nkind_169) 13 nvalue_170) 14 nplace_168) 15 nfault_171) 16 nfaultPlace_172) (va_up (va_up (va_up (va_up (va_up mf 1 g_180) 2 g_182) 3 g_184) 4 g_186) 5 g) mg)) E hw187 5 rfl (inbE (a := (mi 6).toInt) rfl (by omega)) (fun _ => rfl) dX3_readNeed_188 (fun g_188 H locs eg_188 hw189 => ?_)
        refine lv_aload_n (pc := 189) E.1 E.2.1 dX3_readNeed_189 rfl (lv_at hl163 5 rfl) ?_
        refine lv_dup (pc := 190) E.1 E.2.1 dX3_readNeed_190 rfl ?_
        refine x_get (pc := 191) (T := TX3) (N := 6) (ci := 3) (v := .int (mi 6)) E hw189 inX3 0 5 q_361 rfl rfl (by decide) rfl rfl dX3_readNeed_191 ?_
        refine lv_iconst (pc := 194) (v := 1) E.1 E.2.1 dX3_readNeed_194 (by decide +kernel) ?_
        refine lv_iadd (pc := 195) E.1 E.2.1 dX3_readNeed_195 ?_
        refine lv_topi (fun v_190 ev_190 => ?_)
        have hv_190 : v_190.toInt = (mi 6).toInt + 1 := by rw [ev_190]; exact addE rfl (by decide +kernel) (by omega)
        refine x_put (pc := 196) (T := TX3) (N := 6) (ci := 3) (ws' := (WZ_NeedsT cI cJ ad mr (upd (upd (upd (upd (upd (upd (upd mi 6 v_190) 11 nat_167) 12 nkind_169) 13 nvalue_170) 14 nplace_168) 15 nfault_171) 16 nfaultPlace_172) (va_up (va_up (va_up (va_up (va_up mf 1 g_180) 2 g_182) 3 g_184) 4 g_186) 5 g_188) mg)) E hw189 inX3 tyX3_ok nmX3 0 5 q_361 rfl rfl (by decide) rfl rfl rfl rfl (Nat.le_of_ble_eq_true rfl) rfl dX3_readNeed_196 (fun H locs hw191 => ?_)
        exact em_v (w1 := (fun (u : Int32 × Int32 × Int32 × Int32 × Int32 × Int32 × (Nat → Int32) × (Nat → Int32) × (Nat → Int32) × (Nat → Int32) × (Nat → Int32) × Int32) => (WZ_NeedsT cI cJ ad mr (upd (upd (upd (upd (upd (upd (upd mi 11 u.1) 14 u.2.1) 12 u.2.2.1) 13 u.2.2.2.1) 15 u.2.2.2.2.1) 16 u.2.2.2.2.2.1) 6 u.2.2.2.2.2.2.2.2.2.2.2) (va_up (va_up (va_up (va_up (va_up mf 1 u.2.2.2.2.2.2.1) 2 u.2.2.2.2.2.2.2.1) 3 u.2.2.2.2.2.2.2.2.1) 4 u.2.2.2.2.2.2.2.2.2.1) 5 u.2.2.2.2.2.2.2.2.2.2.1) mg))) E hr hlk (nat_167, nplace_168, nkind_169, nvalue_170, nfault_171, nfaultPlace_172, g_180, g_182, g_184, g_186, g_188, v_190) hw191 ⟨hp_174, hp_175, hp_176, hp_177, (by show 0 ≤ v_190.toInt; omega), (by show v_190.toInt ≤ 10; omega)⟩ (Nat.le_of_ble_eq_true rfl) (Nat.le_of_ble_eq_true rfl) dX3_readNeed_199
  · skip
    have hc_20 := nltE (a := nkind_9.toInt) (b := 257) rfl (by decide +kernel) c_20
    refine lv_aload_n (pc := 26) E.1 E.2.1 dX3_readNeed_26 rfl (lv_at hl19 2 rfl) ?_
    refine x_get (pc := 27) (T := TX8) (N := 9) (ci := 8) (v := .int nkind_9) E hw13 inX8 6 4 q_544 rfl rfl (by decide) rfl rfl dX3_readNeed_27 ?_
    refine lv_sipush (pc := 30) (v := 260) E.1 E.2.1 dX3_readNeed_30 (by decide +kernel) ?_
    refine lv_icmp_le (pc := 33) (tgt := 41) E.1 E.2.1 dX3_readNeed_33 (by decide) (fun c_192 => ?_) (fun c_192 => ?_)
    · skip
      have hc_192 := leE (a := nkind_9.toInt) (b := 260) rfl (by decide +kernel) c_192
      refine lv_aload_n (pc := 41) E.1 E.2.1 dX3_readNeed_41 rfl (lv_at hl19 2 rfl) ?_
      refine ck_v (pc := 42) (ws' := (fun (u : Int32 × Int32 × Int32 × Int32) => (WZ_NeedsT cI cJ ad mr (upd (upd (upd (upd (upd (upd mi 11 u.1) 12 u.2.2.1) 13 u.2.2.2) 14 u.2.1) 15 nfault_11) 16 nfaultPlace_12) mf mg))) [false, false, false, false, false, false, true, true] hw13 rfl (fun hC_ => (rn_V (As := []) (rest := []) E hw13 (t_step l D cI cJ _ (shf 7 mr) (shf 7 (upd (upd (upd (upd (upd (upd mi 11 nat_7) 12 nkind_9) 13 nvalue_10) 14 nplace_8) 15 nfault_11) 16 nfaultPlace_12)) (shf 7 mf) (shf 7 mg) ad av tf h0 hp_14 hp_15 h3) (gdV q_934 q_723 q_724 q_160 q_725) hdV_X8_step ⟨rfl, rfl⟩ ⟨(Nat.le_of_ble_eq_true rfl), (Nat.le_of_ble_eq_true rfl)⟩ ⟨(Nat.le_of_ble_eq_true rfl), (Nat.le_of_ble_eq_true rfl)⟩ xT8_b (xT8_at hX hw13.2.2.1 (va_free hw13.2.1 hw13.2.2.1 hw13.2.2.2 _ hC_)) 6 8 rfl rfl rfl _ hC_ (nd_T _ 0) rfl hl19.1 rfl (Nat.le_of_ble_eq_true rfl) dX3_readNeed_42)) rfl (fun _ => rfl) (fun _ => rfl) (fun u_193 H1 locs hp hw195 => ?_)
      obtain ⟨nat_196, nplace_197, nkind_198, nvalue_199⟩ := u_193
      generalize H1 = H at hw195 ⊢
      have hw200 : WD D A s.heap (WZ_NeedsT cI cJ ad mr (upd (upd (upd (upd (upd (upd mi 11 nat_196) 12 nkind_198) 13 nvalue_199) 14 nplace_197) 15 nfault_11) 16 nfaultPlace_12) mf mg) H locs := hw195
      obtain ⟨hp_201, hp_202⟩ := hp
      have hp_201 : 0 ≤ nat_196.toInt := hp_201
      have hp_202 : nat_196.toInt ≤ (mi 9).toInt := hp_202
      refine lv_aload_n (pc := 45) E.1 E.2.1 dX3_readNeed_45 rfl (lv_at hl19 2 rfl) ?_
      refine lv_sipush (pc := 46) (v := 261) E.1 E.2.1 dX3_readNeed_46 (by decide +kernel) ?_
      refine ck_v (pc := 49) (ws' := (fun (u : Int32 × Int32 × Int32 × Int32 × Int32 × Int32) => (WZ_NeedsT cI cJ ad mr (upd (upd (upd (upd (upd (upd mi 11 u.1) 12 u.2.2.1) 13 u.2.2.2.1) 14 u.2.1) 15 u.2.2.2.2.1) 16 u.2.2.2.2.2) mf mg))) [false, false, false, false, false, false, true, true] hw200 rfl (fun hC_ => (rn_V (As := [.int 261]) (rest := []) E hw200 (t_pass l D cI cJ _ (shf 7 mr) (shf 7 (upd (upd (upd (upd (upd (upd mi 11 nat_196) 12 nkind_198) 13 nvalue_199) 14 nplace_197) 15 nfault_11) 16 nfaultPlace_12)) (shf 7 mf) (shf 7 mg) 261 ad av tf h0 hp_201 hp_202 h3 ⟨hp_16, hp_17⟩) (gdV q_933 q_861 q_862 q_160 q_863) hdV_X8_pass ⟨rfl, rfl⟩ ⟨(Nat.le_of_ble_eq_true rfl), (Nat.le_of_ble_eq_true rfl)⟩ ⟨(Nat.le_of_ble_eq_true rfl), (Nat.le_of_ble_eq_true rfl)⟩ xT8_b (xT8_at hX hw200.2.2.1 (va_free hw200.2.1 hw200.2.2.1 hw200.2.2.2 _ hC_)) 6 8 rfl rfl rfl _ hC_ (nd_T _ 0) rfl hl19.1 rfl (Nat.le_of_ble_eq_true rfl) dX3_readNeed_49)) rfl (fun _ => rfl) (fun _ => rfl) (fun u_203 H1 locs hp hw205 => ?_)
      obtain ⟨nat_206, nplace_207, nkind_208, nvalue_209, nfault_210, nfaultPlace_211⟩ := u_203
      generalize H1 = H at hw205 ⊢
      have hw212 : WD D A s.heap (WZ_NeedsT cI cJ ad mr (upd (upd (upd (upd (upd (upd mi 11 nat_206) 12 nkind_208) 13 nvalue_209) 14 nplace_207) 15 nfault_210) 16 nfaultPlace_211) mf mg) H locs := hw205
      obtain ⟨hp_213, hp_214, hp_215, hp_216⟩ := hp
      have hp_213 : 0 ≤ nat_206.toInt := hp_213
      have hp_214 : nat_206.toInt ≤ (mi 9).toInt := hp_214
      have hp_215 : 0 ≤ nfault_210.toInt := hp_215
      have hp_216 : nfault_210.toInt ≤ 4 := hp_216
      refine lv_aload_n (pc := 52) E.1 E.2.1 dX3_readNeed_52 rfl (lv_at hl19 2 rfl) ?_
      refine lv_iconst (pc := 53) (v := 0) E.1 E.2.1 dX3_readNeed_53 (by decide +kernel) ?_
      refine lv_iload_n (pc := 54) E.1 E.2.1 dX3_readNeed_54 rfl (lv_at hl19 3 rfl) ?_
      refine lv_iconst (pc := 55) (v := 1) E.1 E.2.1 dX3_readNeed_55 (by decide +kernel) ?_
      refine lv_isub (pc := 56) E.1 E.2.1 dX3_readNeed_56 ?_
      refine lv_topi (fun v_217 ev_217 => ?_)
      have hv_217 : v_217.toInt = z_houses.toInt - 1 := by rw [ev_217]; exact subE rfl (by decide +kernel) (by omega)
      refine ck_i (pc := 57) (ws' := (fun (u : Int32 × Int32 × Int32 × Int32 × Int32 × Int32) => (WZ_NeedsT cI cJ ad mr (upd (upd (upd (upd (upd (upd mi 11 u.1) 12 u.2.2.1) 13 u.2.2.2.1) 14 u.2.1) 15 u.2.2.2.2.1) 16 u.2.2.2.2.2) mf mg))) [false, false, false, false, false, false, true, true] hw212 rfl (fun hC_ => (rn_V (As := [.int 0, .int v_217]) (rest := []) E hw212 (t_numberB l D cI cJ _ (shf 7 mr) (shf 7 (upd (upd (upd (upd (upd (upd mi 11 nat_206) 12 nkind_208) 13 nvalue_209) 14 nplace_207) 15 nfault_210) 16 nfaultPlace_211)) (shf 7 mf) (shf 7 mg) 0 v_217 ad av tf h0 hp_213 hp_214 h3 ⟨hp_215, hp_216⟩ (by show 0 ≤ (0 : Int32).toInt; have k_0 : (0 : Int32).toInt = 0 := (by decide +kernel); omega) (by show (0 : Int32).toInt ≤ 9; have k_0 : (0 : Int32).toInt = 0 := (by decide +kernel); omega) (by show v_217.toInt ≤ 9; omega)) (gdV q_935 q_879 q_880 q_160 q_881) hdV_X8_number ⟨rfl, rfl⟩ ⟨(Nat.le_of_ble_eq_true rfl), (Nat.le_of_ble_eq_true rfl)⟩ ⟨(Nat.le_of_ble_eq_true rfl), (Nat.le_of_ble_eq_true rfl)⟩ xT8_b (xT8_at hX hw212.2.2.1 (va_free hw212.2.1 hw212.2.2.1 hw212.2.2.2 _ hC_)) 6 8 rfl rfl rfl _ hC_ (nd_T _ 0) rfl hl19.1 rfl (Nat.le_of_ble_eq_true rfl) dX3_readNeed_57)) rfl (fun _ => rfl) (fun _ => rfl) (fun r_219 u_218 H1 locs hp hw220 => ?_)
      obtain ⟨nat_221, nplace_222, nkind_223, nvalue_224, nfault_225, nfaultPlace_226⟩ := u_218
      generalize H1 = H at hw220 ⊢
      have hw227 : WD D A s.heap (WZ_NeedsT cI cJ ad mr (upd (upd (upd (upd (upd (upd mi 11 nat_221) 12 nkind_223) 13 nvalue_224) 14 nplace_222) 15 nfault_225) 16 nfaultPlace_226) mf mg) H locs := hw220
      obtain ⟨hp_228, hp_229, hp_230, hp_231, hp_232, hp_233⟩ := hp
      have hp_228 : 0 ≤ nat_221.toInt := hp_228
      have hp_229 : nat_221.toInt ≤ (mi 9).toInt := hp_229
      have hp_230 : 0 ≤ nfault_225.toInt := hp_230
      have hp_231 : nfault_225.toInt ≤ 4 := hp_231
      have hp_232 : 0 ≤ r_219.toInt := hp_232
      have hp_233 : r_219.toInt ≤ 9 := hp_233
      refine lv_istore (pc := 60) (lv' := [(4, .int r_219), (3, .int v_18), (0, .ref (mr 0)), (1, .ref (mr 7)), (2, .int z_houses)]) E.1 E.2.1 dX3_readNeed_60 hl19 (by decide) rfl (fun ls hl234 => ?_)
      refine lv_aload_n (pc := 62) E.1 E.2.1 dX3_readNeed_62 rfl (lv_at hl234 3 rfl) ?_
      refine lv_sipush (pc := 63) (v := 262) E.1 E.2.1 dX3_readNeed_63 (by decide +kernel) ?_
      refine ck_v (pc := 66) (ws' := (fun (u : Int32 × Int32 × Int32 × Int32 × Int32 × Int32) => (WZ_NeedsT cI cJ ad mr (upd (upd (upd (upd (upd (upd mi 11 u.1) 12 u.2.2.1) 13 u.2.2.2.1) 14 u.2.1) 15 u.2.2.2.2.1) 16 u.2.2.2.2.2) mf mg))) [false, false, false, false, false, false, true, true] hw227 rfl (fun hC_ => (rn_V (As := [.int 262]) (rest := []) E hw227 (t_pass l D cI cJ _ (shf 7 mr) (shf 7 (upd (upd (upd (upd (upd (upd mi 11 nat_221) 12 nkind_223) 13 nvalue_224) 14 nplace_222) 15 nfault_225) 16 nfaultPlace_226)) (shf 7 mf) (shf 7 mg) 262 ad av tf h0 hp_228 hp_229 h3 ⟨hp_230, hp_231⟩) (gdV q_933 q_861 q_862 q_160 q_863) hdV_X8_pass ⟨rfl, rfl⟩ ⟨(Nat.le_of_ble_eq_true rfl), (Nat.le_of_ble_eq_true rfl)⟩ ⟨(Nat.le_of_ble_eq_true rfl), (Nat.le_of_ble_eq_true rfl)⟩ xT8_b (xT8_at hX hw227.2.2.1 (va_free hw227.2.1 hw227.2.2.1 hw227.2.2.2 _ hC_)) 6 8 rfl rfl rfl _ hC_ (nd_T _ 0) rfl hl234.1 rfl (Nat.le_of_ble_eq_true rfl) dX3_readNeed_66)) rfl (fun _ => rfl) (fun _ => rfl) (fun u_235 H1 locs hp hw237 => ?_)
      obtain ⟨nat_238, nplace_239, nkind_240, nvalue_241, nfault_242, nfaultPlace_243⟩ := u_235
      generalize H1 = H at hw237 ⊢
      have hw244 : WD D A s.heap (WZ_NeedsT cI cJ ad mr (upd (upd (upd (upd (upd (upd mi 11 nat_238) 12 nkind_240) 13 nvalue_241) 14 nplace_239) 15 nfault_242) 16 nfaultPlace_243) mf mg) H locs := hw237
      obtain ⟨hp_245, hp_246, hp_247, hp_248⟩ := hp
      have hp_245 : 0 ≤ nat_238.toInt := hp_245
      have hp_246 : nat_238.toInt ≤ (mi 9).toInt := hp_246
      have hp_247 : 0 ≤ nfault_242.toInt := hp_247
      have hp_248 : nfault_242.toInt ≤ 4 := hp_248
      refine lv_aload_n (pc := 69) E.1 E.2.1 dX3_readNeed_69 rfl (lv_at hl234 3 rfl) ?_
      refine lv_iconst (pc := 70) (v := 0) E.1 E.2.1 dX3_readNeed_70 (by decide +kernel) ?_
      refine lv_sipush (pc := 71) (v := 9999) E.1 E.2.1 dX3_readNeed_71 (by decide +kernel) ?_
      refine ck_i (pc := 74) (ws' := (fun (u : Int32 × Int32 × Int32 × Int32 × Int32 × Int32) => (WZ_NeedsT cI cJ ad mr (upd (upd (upd (upd (upd (upd mi 11 u.1) 12 u.2.2.1) 13 u.2.2.2.1) 14 u.2.1) 15 u.2.2.2.2.1) 16 u.2.2.2.2.2) mf mg))) [false, false, false, false, false, false, true, true] hw244 rfl (fun hC_ => (rn_V (As := [.int 0, .int 9999]) (rest := []) E hw244 (t_numberA l D cI cJ _ (shf 7 mr) (shf 7 (upd (upd (upd (upd (upd (upd mi 11 nat_238) 12 nkind_240) 13 nvalue_241) 14 nplace_239) 15 nfault_242) 16 nfaultPlace_243)) (shf 7 mf) (shf 7 mg) 0 9999 ad av tf h0 hp_245 hp_246 h3 ⟨hp_247, hp_248⟩ (by show (0 : Int32).toInt ≤ (9999 : Int32).toInt; have k_0 : (0 : Int32).toInt = 0 := (by decide +kernel); have k_1 : (9999 : Int32).toInt = 9999 := (by decide +kernel); omega)) (gdV q_935 q_879 q_880 q_160 q_881) hdV_X8_number ⟨rfl, rfl⟩ ⟨(Nat.le_of_ble_eq_true rfl), (Nat.le_of_ble_eq_true rfl)⟩ ⟨(Nat.le_of_ble_eq_true rfl), (Nat.le_of_ble_eq_true rfl)⟩ xT8_b (xT8_at hX hw244.2.2.1 (va_free hw244.2.1 hw244.2.2.1 hw244.2.2.2 _ hC_)) 6 8 rfl rfl rfl _ hC_ (nd_T _ 0) rfl hl234.1 rfl (Nat.le_of_ble_eq_true rfl) dX3_readNeed_74)) rfl (fun _ => rfl) (fun _ => rfl) (fun r_250 u_249 H1 locs hp hw251 => ?_)
      obtain ⟨nat_252, nplace_253, nkind_254, nvalue_255, nfault_256, nfaultPlace_257⟩ := u_249
      generalize H1 = H at hw251 ⊢
      have hw258 : WD D A s.heap (WZ_NeedsT cI cJ ad mr (upd (upd (upd (upd (upd (upd mi 11 nat_252) 12 nkind_254) 13 nvalue_255) 14 nplace_253) 15 nfault_256) 16 nfaultPlace_257) mf mg) H locs := hw251
      obtain ⟨hp_259, hp_260, hp_261, hp_262, hp_263, hp_264⟩ := hp
      have hp_259 : 0 ≤ nat_252.toInt := hp_259
      have hp_260 : nat_252.toInt ≤ (mi 9).toInt := hp_260
      have hp_261 : 0 ≤ nfault_256.toInt := hp_261
      have hp_262 : nfault_256.toInt ≤ 4 := hp_262
      have hp_263 : (0 : Int32).toInt ≤ r_250.toInt := hp_263
      rw [show (0 : Int32).toInt = 0 from by decide +kernel] at hp_263
      have hp_264 : r_250.toInt ≤ (9999 : Int32).toInt := hp_264
      rw [show (9999 : Int32).toInt = 9999 from by decide +kernel] at hp_264
      refine lv_istore (pc := 77) (lv' := [(5, .int r_250), (4, .int r_219), (3, .int v_18), (0, .ref (mr 0)), (1, .ref (mr 7)), (2, .int z_houses)]) E.1 E.2.1 dX3_readNeed_77 hl234 (by decide) rfl (fun ls hl265 => ?_)
      refine lv_aload_n (pc := 79) E.1 E.2.1 dX3_readNeed_79 rfl (lv_at hl265 4 rfl) ?_
      refine lv_sipush (pc := 80) (v := 263) E.1 E.2.1 dX3_readNeed_80 (by decide +kernel) ?_
      refine ck_v (pc := 83) (ws' := (fun (u : Int32 × Int32 × Int32 × Int32 × Int32 × Int32) => (WZ_NeedsT cI cJ ad mr (upd (upd (upd (upd (upd (upd mi 11 u.1) 12 u.2.2.1) 13 u.2.2.2.1) 14 u.2.1) 15 u.2.2.2.2.1) 16 u.2.2.2.2.2) mf mg))) [false, false, false, false, false, false, true, true] hw258 rfl (fun hC_ => (rn_V (As := [.int 263]) (rest := []) E hw258 (t_pass l D cI cJ _ (shf 7 mr) (shf 7 (upd (upd (upd (upd (upd (upd mi 11 nat_252) 12 nkind_254) 13 nvalue_255) 14 nplace_253) 15 nfault_256) 16 nfaultPlace_257)) (shf 7 mf) (shf 7 mg) 263 ad av tf h0 hp_259 hp_260 h3 ⟨hp_261, hp_262⟩) (gdV q_933 q_861 q_862 q_160 q_863) hdV_X8_pass ⟨rfl, rfl⟩ ⟨(Nat.le_of_ble_eq_true rfl), (Nat.le_of_ble_eq_true rfl)⟩ ⟨(Nat.le_of_ble_eq_true rfl), (Nat.le_of_ble_eq_true rfl)⟩ xT8_b (xT8_at hX hw258.2.2.1 (va_free hw258.2.1 hw258.2.2.1 hw258.2.2.2 _ hC_)) 6 8 rfl rfl rfl _ hC_ (nd_T _ 0) rfl hl265.1 rfl (Nat.le_of_ble_eq_true rfl) dX3_readNeed_83)) rfl (fun _ => rfl) (fun _ => rfl) (fun u_266 H1 locs hp hw268 => ?_)
      obtain ⟨nat_269, nplace_270, nkind_271, nvalue_272, nfault_273, nfaultPlace_274⟩ := u_266
      generalize H1 = H at hw268 ⊢
      have hw275 : WD D A s.heap (WZ_NeedsT cI cJ ad mr (upd (upd (upd (upd (upd (upd mi 11 nat_269) 12 nkind_271) 13 nvalue_272) 14 nplace_270) 15 nfault_273) 16 nfaultPlace_274) mf mg) H locs := hw268
      obtain ⟨hp_276, hp_277, hp_278, hp_279⟩ := hp
      have hp_276 : 0 ≤ nat_269.toInt := hp_276
      have hp_277 : nat_269.toInt ≤ (mi 9).toInt := hp_277
      have hp_278 : 0 ≤ nfault_273.toInt := hp_278
      have hp_279 : nfault_273.toInt ≤ 4 := hp_279
      refine lv_aload_n (pc := 86) E.1 E.2.1 dX3_readNeed_86 rfl (lv_at hl265 4 rfl) ?_
      refine lv_iload (pc := 87) E.1 E.2.1 dX3_readNeed_87 (lv_at hl265 0 rfl) ?_
      refine lv_sipush (pc := 89) (v := 9999) E.1 E.2.1 dX3_readNeed_89 (by decide +kernel) ?_
      refine ck_i (pc := 92) (ws' := (fun (u : Int32 × Int32 × Int32 × Int32 × Int32 × Int32) => (WZ_NeedsT cI cJ ad mr (upd (upd (upd (upd (upd (upd mi 11 u.1) 12 u.2.2.1) 13 u.2.2.2.1) 14 u.2.1) 15 u.2.2.2.2.1) 16 u.2.2.2.2.2) mf mg))) [false, false, false, false, false, false, true, true] hw275 rfl (fun hC_ => (rn_V (As := [.int r_250, .int 9999]) (rest := []) E hw275 (t_numberA l D cI cJ _ (shf 7 mr) (shf 7 (upd (upd (upd (upd (upd (upd mi 11 nat_269) 12 nkind_271) 13 nvalue_272) 14 nplace_270) 15 nfault_273) 16 nfaultPlace_274)) (shf 7 mf) (shf 7 mg) r_250 9999 ad av tf h0 hp_276 hp_277 h3 ⟨hp_278, hp_279⟩ (by show r_250.toInt ≤ (9999 : Int32).toInt; have k_0 : (9999 : Int32).toInt = 9999 := (by decide +kernel); omega)) (gdV q_935 q_879 q_880 q_160 q_881) hdV_X8_number ⟨rfl, rfl⟩ ⟨(Nat.le_of_ble_eq_true rfl), (Nat.le_of_ble_eq_true rfl)⟩ ⟨(Nat.le_of_ble_eq_true rfl), (Nat.le_of_ble_eq_true rfl)⟩ xT8_b (xT8_at hX hw275.2.2.1 (va_free hw275.2.1 hw275.2.2.1 hw275.2.2.2 _ hC_)) 6 8 rfl rfl rfl _ hC_ (nd_T _ 0) rfl hl265.1 rfl (Nat.le_of_ble_eq_true rfl) dX3_readNeed_92)) rfl (fun _ => rfl) (fun _ => rfl) (fun r_281 u_280 H1 locs hp hw282 => ?_)
      obtain ⟨nat_283, nplace_284, nkind_285, nvalue_286, nfault_287, nfaultPlace_288⟩ := u_280
      generalize H1 = H at hw282 ⊢
      have hw289 : WD D A s.heap (WZ_NeedsT cI cJ ad mr (upd (upd (upd (upd (upd (upd mi 11 nat_283) 12 nkind_285) 13 nvalue_286) 14 nplace_284) 15 nfault_287) 16 nfaultPlace_288) mf mg) H locs := hw282
      obtain ⟨hp_290, hp_291, hp_292, hp_293, hp_294, hp_295⟩ := hp
      have hp_290 : 0 ≤ nat_283.toInt := hp_290
      have hp_291 : nat_283.toInt ≤ (mi 9).toInt := hp_291
      have hp_292 : 0 ≤ nfault_287.toInt := hp_292
      have hp_293 : nfault_287.toInt ≤ 4 := hp_293
      have hp_294 : r_250.toInt ≤ r_281.toInt := hp_294
      have hp_295 : r_281.toInt ≤ (9999 : Int32).toInt := hp_295
      rw [show (9999 : Int32).toInt = 9999 from by decide +kernel] at hp_295
      refine lv_istore (pc := 95) (lv' := [(6, .int r_281), (5, .int r_250), (4, .int r_219), (3, .int v_18), (0, .ref (mr 0)), (1, .ref (mr 7)), (2, .int z_houses)]) E.1 E.2.1 dX3_readNeed_95 hl265 (by decide) rfl (fun ls hl296 => ?_)
      refine lv_aload_n (pc := 97) E.1 E.2.1 dX3_readNeed_97 rfl (lv_at hl296 5 rfl) ?_
      refine lv_sipush (pc := 98) (v := 264) E.1 E.2.1 dX3_readNeed_98 (by decide +kernel) ?_
      refine ck_v (pc := 101) (ws' := (fun (u : Int32 × Int32 × Int32 × Int32 × Int32 × Int32) => (WZ_NeedsT cI cJ ad mr (upd (upd (upd (upd (upd (upd mi 11 u.1) 12 u.2.2.1) 13 u.2.2.2.1) 14 u.2.1) 15 u.2.2.2.2.1) 16 u.2.2.2.2.2) mf mg))) [false, false, false, false, false, false, true, true] hw289 rfl (fun hC_ => (rn_V (As := [.int 264]) (rest := []) E hw289 (t_pass l D cI cJ _ (shf 7 mr) (shf 7 (upd (upd (upd (upd (upd (upd mi 11 nat_283) 12 nkind_285) 13 nvalue_286) 14 nplace_284) 15 nfault_287) 16 nfaultPlace_288)) (shf 7 mf) (shf 7 mg) 264 ad av tf h0 hp_290 hp_291 h3 ⟨hp_292, hp_293⟩) (gdV q_933 q_861 q_862 q_160 q_863) hdV_X8_pass ⟨rfl, rfl⟩ ⟨(Nat.le_of_ble_eq_true rfl), (Nat.le_of_ble_eq_true rfl)⟩ ⟨(Nat.le_of_ble_eq_true rfl), (Nat.le_of_ble_eq_true rfl)⟩ xT8_b (xT8_at hX hw289.2.2.1 (va_free hw289.2.1 hw289.2.2.1 hw289.2.2.2 _ hC_)) 6 8 rfl rfl rfl _ hC_ (nd_T _ 0) rfl hl296.1 rfl (Nat.le_of_ble_eq_true rfl) dX3_readNeed_101)) rfl (fun _ => rfl) (fun _ => rfl) (fun u_297 H1 locs hp hw299 => ?_)
      obtain ⟨nat_300, nplace_301, nkind_302, nvalue_303, nfault_304, nfaultPlace_305⟩ := u_297
      generalize H1 = H at hw299 ⊢
      have hw306 : WD D A s.heap (WZ_NeedsT cI cJ ad mr (upd (upd (upd (upd (upd (upd mi 11 nat_300) 12 nkind_302) 13 nvalue_303) 14 nplace_301) 15 nfault_304) 16 nfaultPlace_305) mf mg) H locs := hw299
      obtain ⟨hp_307, hp_308, hp_309, hp_310⟩ := hp
      have hp_307 : 0 ≤ nat_300.toInt := hp_307
      have hp_308 : nat_300.toInt ≤ (mi 9).toInt := hp_308
      have hp_309 : 0 ≤ nfault_304.toInt := hp_309
      have hp_310 : nfault_304.toInt ≤ 4 := hp_310
      refine lv_aload_n (pc := 104) E.1 E.2.1 dX3_readNeed_104 rfl (lv_at hl296 5 rfl) ?_
      refine lv_iconst (pc := 105) (v := 1) E.1 E.2.1 dX3_readNeed_105 (by decide +kernel) ?_
      refine lv_bipush (pc := 106) (v := 99) E.1 E.2.1 dX3_readNeed_106 (by decide +kernel) ?_
      refine ck_i (pc := 108) (ws' := (fun (u : Int32 × Int32 × Int32 × Int32 × Int32 × Int32) => (WZ_NeedsT cI cJ ad mr (upd (upd (upd (upd (upd (upd mi 11 u.1) 12 u.2.2.1) 13 u.2.2.2.1) 14 u.2.1) 15 u.2.2.2.2.1) 16 u.2.2.2.2.2) mf mg))) [false, false, false, false, false, false, true, true] hw306 rfl (fun hC_ => (rn_V (As := [.int 1, .int 99]) (rest := []) E hw306 (t_numberA l D cI cJ _ (shf 7 mr) (shf 7 (upd (upd (upd (upd (upd (upd mi 11 nat_300) 12 nkind_302) 13 nvalue_303) 14 nplace_301) 15 nfault_304) 16 nfaultPlace_305)) (shf 7 mf) (shf 7 mg) 1 99 ad av tf h0 hp_307 hp_308 h3 ⟨hp_309, hp_310⟩ (by show (1 : Int32).toInt ≤ (99 : Int32).toInt; have k_0 : (1 : Int32).toInt = 1 := (by decide +kernel); have k_1 : (99 : Int32).toInt = 99 := (by decide +kernel); omega)) (gdV q_935 q_879 q_880 q_160 q_881) hdV_X8_number ⟨rfl, rfl⟩ ⟨(Nat.le_of_ble_eq_true rfl), (Nat.le_of_ble_eq_true rfl)⟩ ⟨(Nat.le_of_ble_eq_true rfl), (Nat.le_of_ble_eq_true rfl)⟩ xT8_b (xT8_at hX hw306.2.2.1 (va_free hw306.2.1 hw306.2.2.1 hw306.2.2.2 _ hC_)) 6 8 rfl rfl rfl _ hC_ (nd_T _ 0) rfl hl296.1 rfl (Nat.le_of_ble_eq_true rfl) dX3_readNeed_108)) rfl (fun _ => rfl) (fun _ => rfl) (fun r_312 u_311 H1 locs hp hw313 => ?_)
      obtain ⟨nat_314, nplace_315, nkind_316, nvalue_317, nfault_318, nfaultPlace_319⟩ := u_311
      generalize H1 = H at hw313 ⊢
      have hw320 : WD D A s.heap (WZ_NeedsT cI cJ ad mr (upd (upd (upd (upd (upd (upd mi 11 nat_314) 12 nkind_316) 13 nvalue_317) 14 nplace_315) 15 nfault_318) 16 nfaultPlace_319) mf mg) H locs := hw313
      obtain ⟨hp_321, hp_322, hp_323, hp_324, hp_325, hp_326⟩ := hp
      have hp_321 : 0 ≤ nat_314.toInt := hp_321
      have hp_322 : nat_314.toInt ≤ (mi 9).toInt := hp_322
      have hp_323 : 0 ≤ nfault_318.toInt := hp_323
      have hp_324 : nfault_318.toInt ≤ 4 := hp_324
      have hp_325 : (1 : Int32).toInt ≤ r_312.toInt := hp_325
      rw [show (1 : Int32).toInt = 1 from by decide +kernel] at hp_325
      have hp_326 : r_312.toInt ≤ (99 : Int32).toInt := hp_326
      rw [show (99 : Int32).toInt = 99 from by decide +kernel] at hp_326
      refine lv_istore (pc := 111) (lv' := [(7, .int r_312), (6, .int r_281), (5, .int r_250), (4, .int r_219), (3, .int v_18), (0, .ref (mr 0)), (1, .ref (mr 7)), (2, .int z_houses)]) E.1 E.2.1 dX3_readNeed_111 hl296 (by decide) rfl (fun ls hl327 => ?_)
      refine lv_aload_n (pc := 113) E.1 E.2.1 dX3_readNeed_113 rfl (lv_at hl327 6 rfl) ?_
      refine lv_bipush (pc := 114) (v := 59) E.1 E.2.1 dX3_readNeed_114 (by decide +kernel) ?_
      refine ck_v (pc := 116) (ws' := (fun (u : Int32 × Int32 × Int32 × Int32 × Int32 × Int32) => (WZ_NeedsT cI cJ ad mr (upd (upd (upd (upd (upd (upd mi 11 u.1) 12 u.2.2.1) 13 u.2.2.2.1) 14 u.2.1) 15 u.2.2.2.2.1) 16 u.2.2.2.2.2) mf mg))) [false, false, false, false, false, false, true, true] hw320 rfl (fun hC_ => (rn_V (As := [.int 59]) (rest := []) E hw320 (t_pass l D cI cJ _ (shf 7 mr) (shf 7 (upd (upd (upd (upd (upd (upd mi 11 nat_314) 12 nkind_316) 13 nvalue_317) 14 nplace_315) 15 nfault_318) 16 nfaultPlace_319)) (shf 7 mf) (shf 7 mg) 59 ad av tf h0 hp_321 hp_322 h3 ⟨hp_323, hp_324⟩) (gdV q_933 q_861 q_862 q_160 q_863) hdV_X8_pass ⟨rfl, rfl⟩ ⟨(Nat.le_of_ble_eq_true rfl), (Nat.le_of_ble_eq_true rfl)⟩ ⟨(Nat.le_of_ble_eq_true rfl), (Nat.le_of_ble_eq_true rfl)⟩ xT8_b (xT8_at hX hw320.2.2.1 (va_free hw320.2.1 hw320.2.2.1 hw320.2.2.2 _ hC_)) 6 8 rfl rfl rfl _ hC_ (nd_T _ 0) rfl hl327.1 rfl (Nat.le_of_ble_eq_true rfl) dX3_readNeed_116)) rfl (fun _ => rfl) (fun _ => rfl) (fun u_328 H1 locs hp hw330 => ?_)
      obtain ⟨nat_331, nplace_332, nkind_333, nvalue_334, nfault_335, nfaultPlace_336⟩ := u_328
      generalize H1 = H at hw330 ⊢
      have hw337 : WD D A s.heap (WZ_NeedsT cI cJ ad mr (upd (upd (upd (upd (upd (upd mi 11 nat_331) 12 nkind_333) 13 nvalue_334) 14 nplace_332) 15 nfault_335) 16 nfaultPlace_336) mf mg) H locs := hw330
      obtain ⟨hp_338, hp_339, hp_340, hp_341⟩ := hp
      have hp_338 : 0 ≤ nat_331.toInt := hp_338
      have hp_339 : nat_331.toInt ≤ (mi 9).toInt := hp_339
      have hp_340 : 0 ≤ nfault_335.toInt := hp_340
      have hp_341 : nfault_335.toInt ≤ 4 := hp_341
      refine lv_aload_n (pc := 119) E.1 E.2.1 dX3_readNeed_119 rfl (lv_at hl327 6 rfl) ?_
      refine x_get (pc := 120) (T := TX8) (N := 9) (ci := 8) (v := .int nfault_335) E hw337 inX8 6 7 q_554 rfl rfl (by decide) rfl rfl dX3_readNeed_120 ?_
      refine lv_if_ne (pc := 123) (tgt := 199) E.1 E.2.1 dX3_readNeed_123 (by decide) (fun c_342 => ?_) (fun c_342 => ?_)
      · skip
        have hc_342 := neE (a := nfault_335.toInt) (b := 0) rfl (by decide +kernel) c_342
        exact em_v (w1 := (fun (u : Int32 × Int32 × Int32 × Int32 × Int32 × Int32 × (Nat → Int32) × (Nat → Int32) × (Nat → Int32) × (Nat → Int32) × (Nat → Int32) × Int32) => (WZ_NeedsT cI cJ ad mr (upd (upd (upd (upd (upd (upd (upd mi 11 u.1) 14 u.2.1) 12 u.2.2.1) 13 u.2.2.2.1) 15 u.2.2.2.2.1) 16 u.2.2.2.2.2.1) 6 u.2.2.2.2.2.2.2.2.2.2.2) (va_up (va_up (va_up (va_up (va_up mf 1 u.2.2.2.2.2.2.1) 2 u.2.2.2.2.2.2.2.1) 3 u.2.2.2.2.2.2.2.2.1) 4 u.2.2.2.2.2.2.2.2.2.1) 5 u.2.2.2.2.2.2.2.2.2.2.1) mg))) E hr hlk (nat_331, nplace_332, nkind_333, nvalue_334, nfault_335, nfaultPlace_336, (mf 1), (mf 2), (mf 3), (mf 4), (mf 5), (mi 6)) hw337 ⟨hp_338, hp_339, hp_340, hp_341, h6.1, h6.2⟩ (Nat.le_of_ble_eq_true rfl) (Nat.le_of_ble_eq_true rfl) dX3_readNeed_199
      · skip
        have hc_342 := eqE (a := nfault_335.toInt) (b := 0) rfl (by decide +kernel) c_342
        refine lv_aload_n (pc := 126) E.1 E.2.1 dX3_readNeed_126 rfl (lv_at hl327 5 rfl) ?_
        refine x_get (pc := 127) (T := TX3) (N := 6) (ci := 3) (v := .int (mi 6)) E hw337 inX3 0 5 q_361 rfl rfl (by decide) rfl rfl dX3_readNeed_127 ?_
        refine lv_bipush (pc := 130) (v := 10) E.1 E.2.1 dX3_readNeed_130 (by decide +kernel) ?_
        refine lv_icmp_ge (pc := 132) (tgt := 199) E.1 E.2.1 dX3_readNeed_132 (by decide) (fun c_343 => ?_) (fun c_343 => ?_)
        · skip
          have hc_343 := leE (a := 10) (b := (mi 6).toInt) (by decide +kernel) rfl c_343
          exact em_v (w1 := (fun (u : Int32 × Int32 × Int32 × Int32 × Int32 × Int32 × (Nat → Int32) × (Nat → Int32) × (Nat → Int32) × (Nat → Int32) × (Nat → Int32) × Int32) => (WZ_NeedsT cI cJ ad mr (upd (upd (upd (upd (upd (upd (upd mi 11 u.1) 14 u.2.1) 12 u.2.2.1) 13 u.2.2.2.1) 15 u.2.2.2.2.1) 16 u.2.2.2.2.2.1) 6 u.2.2.2.2.2.2.2.2.2.2.2) (va_up (va_up (va_up (va_up (va_up mf 1 u.2.2.2.2.2.2.1) 2 u.2.2.2.2.2.2.2.1) 3 u.2.2.2.2.2.2.2.2.1) 4 u.2.2.2.2.2.2.2.2.2.1) 5 u.2.2.2.2.2.2.2.2.2.2.1) mg))) E hr hlk (nat_331, nplace_332, nkind_333, nvalue_334, nfault_335, nfaultPlace_336, (mf 1), (mf 2), (mf 3), (mf 4), (mf 5), (mi 6)) hw337 ⟨hp_338, hp_339, hp_340, hp_341, h6.1, h6.2⟩ (Nat.le_of_ble_eq_true rfl) (Nat.le_of_ble_eq_true rfl) dX3_readNeed_199
        · skip
          have hc_343 := nleE (a := 10) (b := (mi 6).toInt) (by decide +kernel) rfl c_343
          refine lv_aload_n (pc := 135) E.1 E.2.1 dX3_readNeed_135 rfl (lv_at hl327 5 rfl) ?_
          refine x_get (pc := 136) (T := TX3) (N := 6) (ci := 3) (v := .ref (mr 1)) E hw337 inX3 0 0 q_343 rfl rfl (by decide) rfl rfl dX3_readNeed_136 ?_
          refine lv_aload_n (pc := 139) E.1 E.2.1 dX3_readNeed_139 rfl (lv_at hl327 5 rfl) ?_
          refine x_get (pc := 140) (T := TX3) (N := 6) (ci := 3) (v := .int (mi 6)) E hw337 inX3 0 5 q_361 rfl rfl (by decide) rfl rfl dX3_readNeed_140 ?_
          refine lv_iload_n (pc := 143) E.1 E.2.1 dX3_readNeed_143 rfl (lv_at hl327 4 rfl) ?_
          refine x_iastG (pc := 144) (f := (mf 1)) (wf := fun g => (WZ_NeedsT cI cJ ad mr (upd (upd (upd (upd (upd (upd mi 11 nat_331) 12 nkind_333) 13 nvalue_334) 14 nplace_332) 15 nfault_335) 16 nfaultPlace_336) (va_up mf 1 g) mg)) E hw337 1 rfl (inbE (a := (mi 6).toInt) rfl (by omega)) (fun _ => rfl) dX3_readNeed_144 (fun g_344 H locs eg_344 hw345 => ?_)
          refine lv_aload_n (pc := 145) E.1 E.2.1 dX3_readNeed_145 rfl (lv_at hl327 5 rfl) ?_
          refine x_get (pc := 146) (T := TX3) (N := 6) (ci := 3) (v := .ref (mr 2)) E hw345 inX3 0 1 q_347 rfl rfl (by decide) rfl rfl dX3_readNeed_146 ?_
          refine lv_aload_n (pc := 149) E.1 E.2.1 dX3_readNeed_149 rfl (lv_at hl327 5 rfl) ?_
          refine x_get (pc := 150) (T := TX3) (N := 6) (ci := 3) (v := .int (mi 6)) E hw345 inX3 0 5 q_361 rfl rfl (by decide) rfl rfl dX3_readNeed_150 ?_
          refine lv_iload (pc := 153) E.1 E.2.1 dX3_readNeed_153 (lv_at hl327 3 rfl) ?_
          refine x_iastG (pc := 155) (f := (mf 2)) (wf := fun g => (WZ_NeedsT cI cJ ad mr (upd (upd (upd (upd (upd (upd mi 11 nat_331) 12 nkind_333) 13 nvalue_334) 14 nplace_332) 15 nfault_335) 16 nfaultPlace_336) (va_up (va_up mf 1 g_344) 2 g) mg)) E hw345 2 rfl (inbE (a := (mi 6).toInt) rfl (by omega)) (fun _ => rfl) dX3_readNeed_155 (fun g_346 H locs eg_346 hw347 => ?_)
          refine lv_aload_n (pc := 156) E.1 E.2.1 dX3_readNeed_156 rfl (lv_at hl327 5 rfl) ?_
          refine x_get (pc := 157) (T := TX3) (N := 6) (ci := 3) (v := .ref (mr 3)) E hw347 inX3 0 2 q_351 rfl rfl (by decide) rfl rfl dX3_readNeed_157 ?_
          refine lv_aload_n (pc := 160) E.1 E.2.1 dX3_readNeed_160 rfl (lv_at hl327 5 rfl) ?_
          refine x_get (pc := 161) (T := TX3) (N := 6) (ci := 3) (v := .int (mi 6)) E hw347 inX3 0 5 q_361 rfl rfl (by decide) rfl rfl dX3_readNeed_161 ?_
          refine lv_iload (pc := 164) E.1 E.2.1 dX3_readNeed_164 (lv_at hl327 2 rfl) ?_
          refine x_iastG (pc := 166) (f := (mf 3)) (wf := fun g => (WZ_NeedsT cI cJ ad mr (upd (upd (upd (upd (upd (upd mi 11 nat_331) 12 nkind_333) 13 nvalue_334) 14 nplace_332) 15 nfault_335) 16 nfaultPlace_336) (va_up (va_up (va_up mf 1 g_344) 2 g_346) 3 g) mg)) E hw347 3 rfl (inbE (a := (mi 6).toInt) rfl (by omega)) (fun _ => rfl) dX3_readNeed_166 (fun g_348 H locs eg_348 hw349 => ?_)
          refine lv_aload_n (pc := 167) E.1 E.2.1 dX3_readNeed_167 rfl (lv_at hl327 5 rfl) ?_
          refine x_get (pc := 168) (T := TX3) (N := 6) (ci := 3) (v := .ref (mr 4)) E hw349 inX3 0 3 q_354 rfl rfl (by decide) rfl rfl dX3_readNeed_168 ?_
          refine lv_aload_n (pc := 171) E.1 E.2.1 dX3_readNeed_171 rfl (lv_at hl327 5 rfl) ?_
          refine x_get (pc := 172) (T := TX3) (N := 6) (ci := 3) (v := .int (mi 6)) E hw349 inX3 0 5 q_361 rfl rfl (by decide) rfl rfl dX3_readNeed_172 ?_
          refine lv_iload (pc := 175) E.1 E.2.1 dX3_readNeed_175 (lv_at hl327 1 rfl) ?_
          refine x_iastG (pc := 177) (f := (mf 4)) (wf := fun g => (WZ_NeedsT cI cJ ad mr (upd (upd (upd (upd (upd (upd mi 11 nat_331) 12 nkind_333) 13 nvalue_334) 14 nplace_332) 15 nfault_335) 16 nfaultPlace_336) (va_up (va_up (va_up (va_up mf 1 g_344) 2 g_346) 3 g_348) 4 g) mg)) E hw349 4 rfl (inbE (a := (mi 6).toInt) rfl (by omega)) (fun _ => rfl) dX3_readNeed_177 (fun g_350 H locs eg_350 hw351 => ?_)
          refine lv_aload_n (pc := 178) E.1 E.2.1 dX3_readNeed_178 rfl (lv_at hl327 5 rfl) ?_
          refine x_get (pc := 179) (T := TX3) (N := 6) (ci := 3) (v := .ref (mr 5)) E hw351 inX3 0 4 q_358 rfl rfl (by decide) rfl rfl dX3_readNeed_179 ?_
          refine lv_aload_n (pc := 182) E.1 E.2.1 dX3_readNeed_182 rfl (lv_at hl327 5 rfl) ?_
          refine x_get (pc := 183) (T := TX3) (N := 6) (ci := 3) (v := .int (mi 6)) E hw351 inX3 0 5 q_361 rfl rfl (by decide) rfl rfl dX3_readNeed_183 ?_
          refine lv_iload (pc := 186) E.1 E.2.1 dX3_readNeed_186 (lv_at hl327 0 rfl) ?_
          refine x_iastG (pc := 188) (f := (mf 5)) (wf := fun g => (WZ_NeedsT cI cJ ad mr (upd (upd (upd (upd (upd (upd mi 11 nat_331) 12 nkind_333) 13 nvalue_334) 14 nplace_332) 15 nfault_335) 16 nfaultPlace_336) (va_up (va_up (va_up (va_up (va_up mf 1 g_344) 2 g_346) 3 g_348) 4 g_350) 5 g) mg)) E hw351 5 rfl (inbE (a := (mi 6).toInt) rfl (by omega)) (fun _ => rfl) dX3_readNeed_188 (fun g_352 H locs eg_352 hw353 => ?_)
          refine lv_aload_n (pc := 189) E.1 E.2.1 dX3_readNeed_189 rfl (lv_at hl327 5 rfl) ?_
          refine lv_dup (pc := 190) E.1 E.2.1 dX3_readNeed_190 rfl ?_
          refine x_get (pc := 191) (T := TX3) (N := 6) (ci := 3) (v := .int (mi 6)) E hw353 inX3 0 5 q_361 rfl rfl (by decide) rfl rfl dX3_readNeed_191 ?_
          refine lv_iconst (pc := 194) (v := 1) E.1 E.2.1 dX3_readNeed_194 (by decide +kernel) ?_
          refine lv_iadd (pc := 195) E.1 E.2.1 dX3_readNeed_195 ?_
          refine lv_topi (fun v_354 ev_354 => ?_)
          have hv_354 : v_354.toInt = (mi 6).toInt + 1 := by rw [ev_354]; exact addE rfl (by decide +kernel) (by omega)
          refine x_put (pc := 196) (T := TX3) (N := 6) (ci := 3) (ws' := (WZ_NeedsT cI cJ ad mr (upd (upd (upd (upd (upd (upd (upd mi 6 v_354) 11 nat_331) 12 nkind_333) 13 nvalue_334) 14 nplace_332) 15 nfault_335) 16 nfaultPlace_336) (va_up (va_up (va_up (va_up (va_up mf 1 g_344) 2 g_346) 3 g_348) 4 g_350) 5 g_352) mg)) E hw353 inX3 tyX3_ok nmX3 0 5 q_361 rfl rfl (by decide) rfl rfl rfl rfl (Nat.le_of_ble_eq_true rfl) rfl dX3_readNeed_196 (fun H locs hw355 => ?_)
          exact em_v (w1 := (fun (u : Int32 × Int32 × Int32 × Int32 × Int32 × Int32 × (Nat → Int32) × (Nat → Int32) × (Nat → Int32) × (Nat → Int32) × (Nat → Int32) × Int32) => (WZ_NeedsT cI cJ ad mr (upd (upd (upd (upd (upd (upd (upd mi 11 u.1) 14 u.2.1) 12 u.2.2.1) 13 u.2.2.2.1) 15 u.2.2.2.2.1) 16 u.2.2.2.2.2.1) 6 u.2.2.2.2.2.2.2.2.2.2.2) (va_up (va_up (va_up (va_up (va_up mf 1 u.2.2.2.2.2.2.1) 2 u.2.2.2.2.2.2.2.1) 3 u.2.2.2.2.2.2.2.2.1) 4 u.2.2.2.2.2.2.2.2.2.1) 5 u.2.2.2.2.2.2.2.2.2.2.1) mg))) E hr hlk (nat_331, nplace_332, nkind_333, nvalue_334, nfault_335, nfaultPlace_336, g_344, g_346, g_348, g_350, g_352, v_354) hw355 ⟨hp_338, hp_339, hp_340, hp_341, (by show 0 ≤ v_354.toInt; omega), (by show v_354.toInt ≤ 10; omega)⟩ (Nat.le_of_ble_eq_true rfl) (Nat.le_of_ble_eq_true rfl) dX3_readNeed_199
    · skip
      have hc_192 := nleE (a := nkind_9.toInt) (b := 260) rfl (by decide +kernel) c_192
      refine lv_aload_n (pc := 36) E.1 E.2.1 dX3_readNeed_36 rfl (lv_at hl19 2 rfl) ?_
      refine lv_iconst (pc := 37) (v := 1) E.1 E.2.1 dX3_readNeed_37 (by decide +kernel) ?_
      refine ck_v (pc := 38) (ws' := (fun (u : Int32 × Int32) => (WZ_NeedsT cI cJ ad mr (upd (upd (upd (upd (upd (upd mi 11 nat_7) 12 nkind_9) 13 nvalue_10) 14 nplace_8) 15 u.1) 16 u.2) mf mg))) [false, false, false, false, false, false, true, true] hw13 rfl (fun hC_ => (rn_V (As := [.int 1]) (rest := []) E hw13 (t_refuse l D cI cJ _ (shf 7 mr) (shf 7 (upd (upd (upd (upd (upd (upd mi 11 nat_7) 12 nkind_9) 13 nvalue_10) 14 nplace_8) 15 nfault_11) 16 nfaultPlace_12)) (shf 7 mf) (shf 7 mg) 1 ad (by show 1 ≤ (1 : Int32).toInt ∧ (1 : Int32).toInt ≤ 4; have k_0 : (1 : Int32).toInt = 1 := (by decide +kernel); omega) ⟨hp_16, hp_17⟩) (gdV q_928 q_857 q_858 q_160 q_859) hdV_X8_refuse ⟨rfl, rfl⟩ ⟨(Nat.le_of_ble_eq_true rfl), (Nat.le_of_ble_eq_true rfl)⟩ ⟨(Nat.le_of_ble_eq_true rfl), (Nat.le_of_ble_eq_true rfl)⟩ xT_b xT_at 6 8 rfl rfl rfl _ hC_ (nd_T _ 0) rfl hl19.1 rfl (Nat.le_of_ble_eq_true rfl) dX3_readNeed_38)) rfl (fun _ => rfl) (fun _ => rfl) (fun u_356 H1 locs hp hw358 => ?_)
      obtain ⟨nfault_359, nfaultPlace_360⟩ := u_356
      generalize H1 = H at hw358 ⊢
      have hw361 : WD D A s.heap (WZ_NeedsT cI cJ ad mr (upd (upd (upd (upd (upd (upd mi 11 nat_7) 12 nkind_9) 13 nvalue_10) 14 nplace_8) 15 nfault_359) 16 nfaultPlace_360) mf mg) H locs := hw358
      obtain ⟨hp_362, hp_363⟩ := hp
      have hp_362 : 1 ≤ nfault_359.toInt := hp_362
      have hp_363 : nfault_359.toInt ≤ 4 := hp_363
      refine lv_aload_n (pc := 41) E.1 E.2.1 dX3_readNeed_41 rfl (lv_at hl19 2 rfl) ?_
      refine ck_v (pc := 42) (ws' := (fun (u : Int32 × Int32 × Int32 × Int32) => (WZ_NeedsT cI cJ ad mr (upd (upd (upd (upd (upd (upd mi 11 u.1) 12 u.2.2.1) 13 u.2.2.2) 14 u.2.1) 15 nfault_359) 16 nfaultPlace_360) mf mg))) [false, false, false, false, false, false, true, true] hw361 rfl (fun hC_ => (rn_V (As := []) (rest := []) E hw361 (t_step l D cI cJ _ (shf 7 mr) (shf 7 (upd (upd (upd (upd (upd (upd mi 11 nat_7) 12 nkind_9) 13 nvalue_10) 14 nplace_8) 15 nfault_359) 16 nfaultPlace_360)) (shf 7 mf) (shf 7 mg) ad av tf h0 hp_14 hp_15 h3) (gdV q_934 q_723 q_724 q_160 q_725) hdV_X8_step ⟨rfl, rfl⟩ ⟨(Nat.le_of_ble_eq_true rfl), (Nat.le_of_ble_eq_true rfl)⟩ ⟨(Nat.le_of_ble_eq_true rfl), (Nat.le_of_ble_eq_true rfl)⟩ xT8_b (xT8_at hX hw361.2.2.1 (va_free hw361.2.1 hw361.2.2.1 hw361.2.2.2 _ hC_)) 6 8 rfl rfl rfl _ hC_ (nd_T _ 0) rfl hl19.1 rfl (Nat.le_of_ble_eq_true rfl) dX3_readNeed_42)) rfl (fun _ => rfl) (fun _ => rfl) (fun u_364 H1 locs hp hw366 => ?_)
      obtain ⟨nat_367, nplace_368, nkind_369, nvalue_370⟩ := u_364
      generalize H1 = H at hw366 ⊢
      have hw371 : WD D A s.heap (WZ_NeedsT cI cJ ad mr (upd (upd (upd (upd (upd (upd mi 11 nat_367) 12 nkind_369) 13 nvalue_370) 14 nplace_368) 15 nfault_359) 16 nfaultPlace_360) mf mg) H locs := hw366
      obtain ⟨hp_372, hp_373⟩ := hp
      have hp_372 : 0 ≤ nat_367.toInt := hp_372
      have hp_373 : nat_367.toInt ≤ (mi 9).toInt := hp_373
      refine lv_aload_n (pc := 45) E.1 E.2.1 dX3_readNeed_45 rfl (lv_at hl19 2 rfl) ?_
      refine lv_sipush (pc := 46) (v := 261) E.1 E.2.1 dX3_readNeed_46 (by decide +kernel) ?_
      refine ck_v (pc := 49) (ws' := (fun (u : Int32 × Int32 × Int32 × Int32 × Int32 × Int32) => (WZ_NeedsT cI cJ ad mr (upd (upd (upd (upd (upd (upd mi 11 u.1) 12 u.2.2.1) 13 u.2.2.2.1) 14 u.2.1) 15 u.2.2.2.2.1) 16 u.2.2.2.2.2) mf mg))) [false, false, false, false, false, false, true, true] hw371 rfl (fun hC_ => (rn_V (As := [.int 261]) (rest := []) E hw371 (t_pass l D cI cJ _ (shf 7 mr) (shf 7 (upd (upd (upd (upd (upd (upd mi 11 nat_367) 12 nkind_369) 13 nvalue_370) 14 nplace_368) 15 nfault_359) 16 nfaultPlace_360)) (shf 7 mf) (shf 7 mg) 261 ad av tf h0 hp_372 hp_373 h3 (by show 0 ≤ nfault_359.toInt ∧ nfault_359.toInt ≤ 4; omega)) (gdV q_933 q_861 q_862 q_160 q_863) hdV_X8_pass ⟨rfl, rfl⟩ ⟨(Nat.le_of_ble_eq_true rfl), (Nat.le_of_ble_eq_true rfl)⟩ ⟨(Nat.le_of_ble_eq_true rfl), (Nat.le_of_ble_eq_true rfl)⟩ xT8_b (xT8_at hX hw371.2.2.1 (va_free hw371.2.1 hw371.2.2.1 hw371.2.2.2 _ hC_)) 6 8 rfl rfl rfl _ hC_ (nd_T _ 0) rfl hl19.1 rfl (Nat.le_of_ble_eq_true rfl) dX3_readNeed_49)) rfl (fun _ => rfl) (fun _ => rfl) (fun u_374 H1 locs hp hw376 => ?_)
      obtain ⟨nat_377, nplace_378, nkind_379, nvalue_380, nfault_381, nfaultPlace_382⟩ := u_374
      generalize H1 = H at hw376 ⊢
      have hw383 : WD D A s.heap (WZ_NeedsT cI cJ ad mr (upd (upd (upd (upd (upd (upd mi 11 nat_377) 12 nkind_379) 13 nvalue_380) 14 nplace_378) 15 nfault_381) 16 nfaultPlace_382) mf mg) H locs := hw376
      obtain ⟨hp_384, hp_385, hp_386, hp_387⟩ := hp
      have hp_384 : 0 ≤ nat_377.toInt := hp_384
      have hp_385 : nat_377.toInt ≤ (mi 9).toInt := hp_385
      have hp_386 : 0 ≤ nfault_381.toInt := hp_386
      have hp_387 : nfault_381.toInt ≤ 4 := hp_387
      refine lv_aload_n (pc := 52) E.1 E.2.1 dX3_readNeed_52 rfl (lv_at hl19 2 rfl) ?_
      refine lv_iconst (pc := 53) (v := 0) E.1 E.2.1 dX3_readNeed_53 (by decide +kernel) ?_
      refine lv_iload_n (pc := 54) E.1 E.2.1 dX3_readNeed_54 rfl (lv_at hl19 3 rfl) ?_
      refine lv_iconst (pc := 55) (v := 1) E.1 E.2.1 dX3_readNeed_55 (by decide +kernel) ?_
      refine lv_isub (pc := 56) E.1 E.2.1 dX3_readNeed_56 ?_
      refine lv_topi (fun v_388 ev_388 => ?_)
      have hv_388 : v_388.toInt = z_houses.toInt - 1 := by rw [ev_388]; exact subE rfl (by decide +kernel) (by omega)
      refine ck_i (pc := 57) (ws' := (fun (u : Int32 × Int32 × Int32 × Int32 × Int32 × Int32) => (WZ_NeedsT cI cJ ad mr (upd (upd (upd (upd (upd (upd mi 11 u.1) 12 u.2.2.1) 13 u.2.2.2.1) 14 u.2.1) 15 u.2.2.2.2.1) 16 u.2.2.2.2.2) mf mg))) [false, false, false, false, false, false, true, true] hw383 rfl (fun hC_ => (rn_V (As := [.int 0, .int v_388]) (rest := []) E hw383 (t_numberB l D cI cJ _ (shf 7 mr) (shf 7 (upd (upd (upd (upd (upd (upd mi 11 nat_377) 12 nkind_379) 13 nvalue_380) 14 nplace_378) 15 nfault_381) 16 nfaultPlace_382)) (shf 7 mf) (shf 7 mg) 0 v_388 ad av tf h0 hp_384 hp_385 h3 ⟨hp_386, hp_387⟩ (by show 0 ≤ (0 : Int32).toInt; have k_0 : (0 : Int32).toInt = 0 := (by decide +kernel); omega) (by show (0 : Int32).toInt ≤ 9; have k_0 : (0 : Int32).toInt = 0 := (by decide +kernel); omega) (by show v_388.toInt ≤ 9; omega)) (gdV q_935 q_879 q_880 q_160 q_881) hdV_X8_number ⟨rfl, rfl⟩ ⟨(Nat.le_of_ble_eq_true rfl), (Nat.le_of_ble_eq_true rfl)⟩ ⟨(Nat.le_of_ble_eq_true rfl), (Nat.le_of_ble_eq_true rfl)⟩ xT8_b (xT8_at hX hw383.2.2.1 (va_free hw383.2.1 hw383.2.2.1 hw383.2.2.2 _ hC_)) 6 8 rfl rfl rfl _ hC_ (nd_T _ 0) rfl hl19.1 rfl (Nat.le_of_ble_eq_true rfl) dX3_readNeed_57)) rfl (fun _ => rfl) (fun _ => rfl) (fun r_390 u_389 H1 locs hp hw391 => ?_)
      obtain ⟨nat_392, nplace_393, nkind_394, nvalue_395, nfault_396, nfaultPlace_397⟩ := u_389
      generalize H1 = H at hw391 ⊢
      have hw398 : WD D A s.heap (WZ_NeedsT cI cJ ad mr (upd (upd (upd (upd (upd (upd mi 11 nat_392) 12 nkind_394) 13 nvalue_395) 14 nplace_393) 15 nfault_396) 16 nfaultPlace_397) mf mg) H locs := hw391
      obtain ⟨hp_399, hp_400, hp_401, hp_402, hp_403, hp_404⟩ := hp
      have hp_399 : 0 ≤ nat_392.toInt := hp_399
      have hp_400 : nat_392.toInt ≤ (mi 9).toInt := hp_400
      have hp_401 : 0 ≤ nfault_396.toInt := hp_401
      have hp_402 : nfault_396.toInt ≤ 4 := hp_402
      have hp_403 : 0 ≤ r_390.toInt := hp_403
      have hp_404 : r_390.toInt ≤ 9 := hp_404
      refine lv_istore (pc := 60) (lv' := [(4, .int r_390), (3, .int v_18), (0, .ref (mr 0)), (1, .ref (mr 7)), (2, .int z_houses)]) E.1 E.2.1 dX3_readNeed_60 hl19 (by decide) rfl (fun ls hl405 => ?_)
      refine lv_aload_n (pc := 62) E.1 E.2.1 dX3_readNeed_62 rfl (lv_at hl405 3 rfl) ?_
      refine lv_sipush (pc := 63) (v := 262) E.1 E.2.1 dX3_readNeed_63 (by decide +kernel) ?_
      refine ck_v (pc := 66) (ws' := (fun (u : Int32 × Int32 × Int32 × Int32 × Int32 × Int32) => (WZ_NeedsT cI cJ ad mr (upd (upd (upd (upd (upd (upd mi 11 u.1) 12 u.2.2.1) 13 u.2.2.2.1) 14 u.2.1) 15 u.2.2.2.2.1) 16 u.2.2.2.2.2) mf mg))) [false, false, false, false, false, false, true, true] hw398 rfl (fun hC_ => (rn_V (As := [.int 262]) (rest := []) E hw398 (t_pass l D cI cJ _ (shf 7 mr) (shf 7 (upd (upd (upd (upd (upd (upd mi 11 nat_392) 12 nkind_394) 13 nvalue_395) 14 nplace_393) 15 nfault_396) 16 nfaultPlace_397)) (shf 7 mf) (shf 7 mg) 262 ad av tf h0 hp_399 hp_400 h3 ⟨hp_401, hp_402⟩) (gdV q_933 q_861 q_862 q_160 q_863) hdV_X8_pass ⟨rfl, rfl⟩ ⟨(Nat.le_of_ble_eq_true rfl), (Nat.le_of_ble_eq_true rfl)⟩ ⟨(Nat.le_of_ble_eq_true rfl), (Nat.le_of_ble_eq_true rfl)⟩ xT8_b (xT8_at hX hw398.2.2.1 (va_free hw398.2.1 hw398.2.2.1 hw398.2.2.2 _ hC_)) 6 8 rfl rfl rfl _ hC_ (nd_T _ 0) rfl hl405.1 rfl (Nat.le_of_ble_eq_true rfl) dX3_readNeed_66)) rfl (fun _ => rfl) (fun _ => rfl) (fun u_406 H1 locs hp hw408 => ?_)
      obtain ⟨nat_409, nplace_410, nkind_411, nvalue_412, nfault_413, nfaultPlace_414⟩ := u_406
      generalize H1 = H at hw408 ⊢
      have hw415 : WD D A s.heap (WZ_NeedsT cI cJ ad mr (upd (upd (upd (upd (upd (upd mi 11 nat_409) 12 nkind_411) 13 nvalue_412) 14 nplace_410) 15 nfault_413) 16 nfaultPlace_414) mf mg) H locs := hw408
      obtain ⟨hp_416, hp_417, hp_418, hp_419⟩ := hp
      have hp_416 : 0 ≤ nat_409.toInt := hp_416
      have hp_417 : nat_409.toInt ≤ (mi 9).toInt := hp_417
      have hp_418 : 0 ≤ nfault_413.toInt := hp_418
      have hp_419 : nfault_413.toInt ≤ 4 := hp_419
      refine lv_aload_n (pc := 69) E.1 E.2.1 dX3_readNeed_69 rfl (lv_at hl405 3 rfl) ?_
      refine lv_iconst (pc := 70) (v := 0) E.1 E.2.1 dX3_readNeed_70 (by decide +kernel) ?_
      refine lv_sipush (pc := 71) (v := 9999) E.1 E.2.1 dX3_readNeed_71 (by decide +kernel) ?_
      refine ck_i (pc := 74) (ws' := (fun (u : Int32 × Int32 × Int32 × Int32 × Int32 × Int32) => (WZ_NeedsT cI cJ ad mr (upd (upd (upd (upd (upd (upd mi 11 u.1) 12 u.2.2.1) 13 u.2.2.2.1) 14 u.2.1) 15 u.2.2.2.2.1) 16 u.2.2.2.2.2) mf mg))) [false, false, false, false, false, false, true, true] hw415 rfl (fun hC_ => (rn_V (As := [.int 0, .int 9999]) (rest := []) E hw415 (t_numberA l D cI cJ _ (shf 7 mr) (shf 7 (upd (upd (upd (upd (upd (upd mi 11 nat_409) 12 nkind_411) 13 nvalue_412) 14 nplace_410) 15 nfault_413) 16 nfaultPlace_414)) (shf 7 mf) (shf 7 mg) 0 9999 ad av tf h0 hp_416 hp_417 h3 ⟨hp_418, hp_419⟩ (by show (0 : Int32).toInt ≤ (9999 : Int32).toInt; have k_0 : (0 : Int32).toInt = 0 := (by decide +kernel); have k_1 : (9999 : Int32).toInt = 9999 := (by decide +kernel); omega)) (gdV q_935 q_879 q_880 q_160 q_881) hdV_X8_number ⟨rfl, rfl⟩ ⟨(Nat.le_of_ble_eq_true rfl), (Nat.le_of_ble_eq_true rfl)⟩ ⟨(Nat.le_of_ble_eq_true rfl), (Nat.le_of_ble_eq_true rfl)⟩ xT8_b (xT8_at hX hw415.2.2.1 (va_free hw415.2.1 hw415.2.2.1 hw415.2.2.2 _ hC_)) 6 8 rfl rfl rfl _ hC_ (nd_T _ 0) rfl hl405.1 rfl (Nat.le_of_ble_eq_true rfl) dX3_readNeed_74)) rfl (fun _ => rfl) (fun _ => rfl) (fun r_421 u_420 H1 locs hp hw422 => ?_)
      obtain ⟨nat_423, nplace_424, nkind_425, nvalue_426, nfault_427, nfaultPlace_428⟩ := u_420
      generalize H1 = H at hw422 ⊢
      have hw429 : WD D A s.heap (WZ_NeedsT cI cJ ad mr (upd (upd (upd (upd (upd (upd mi 11 nat_423) 12 nkind_425) 13 nvalue_426) 14 nplace_424) 15 nfault_427) 16 nfaultPlace_428) mf mg) H locs := hw422
      obtain ⟨hp_430, hp_431, hp_432, hp_433, hp_434, hp_435⟩ := hp
      have hp_430 : 0 ≤ nat_423.toInt := hp_430
      have hp_431 : nat_423.toInt ≤ (mi 9).toInt := hp_431
      have hp_432 : 0 ≤ nfault_427.toInt := hp_432
      have hp_433 : nfault_427.toInt ≤ 4 := hp_433
      have hp_434 : (0 : Int32).toInt ≤ r_421.toInt := hp_434
      rw [show (0 : Int32).toInt = 0 from by decide +kernel] at hp_434
      have hp_435 : r_421.toInt ≤ (9999 : Int32).toInt := hp_435
      rw [show (9999 : Int32).toInt = 9999 from by decide +kernel] at hp_435
      refine lv_istore (pc := 77) (lv' := [(5, .int r_421), (4, .int r_390), (3, .int v_18), (0, .ref (mr 0)), (1, .ref (mr 7)), (2, .int z_houses)]) E.1 E.2.1 dX3_readNeed_77 hl405 (by decide) rfl (fun ls hl436 => ?_)
      refine lv_aload_n (pc := 79) E.1 E.2.1 dX3_readNeed_79 rfl (lv_at hl436 4 rfl) ?_
      refine lv_sipush (pc := 80) (v := 263) E.1 E.2.1 dX3_readNeed_80 (by decide +kernel) ?_
      refine ck_v (pc := 83) (ws' := (fun (u : Int32 × Int32 × Int32 × Int32 × Int32 × Int32) => (WZ_NeedsT cI cJ ad mr (upd (upd (upd (upd (upd (upd mi 11 u.1) 12 u.2.2.1) 13 u.2.2.2.1) 14 u.2.1) 15 u.2.2.2.2.1) 16 u.2.2.2.2.2) mf mg))) [false, false, false, false, false, false, true, true] hw429 rfl (fun hC_ => (rn_V (As := [.int 263]) (rest := []) E hw429 (t_pass l D cI cJ _ (shf 7 mr) (shf 7 (upd (upd (upd (upd (upd (upd mi 11 nat_423) 12 nkind_425) 13 nvalue_426) 14 nplace_424) 15 nfault_427) 16 nfaultPlace_428)) (shf 7 mf) (shf 7 mg) 263 ad av tf h0 hp_430 hp_431 h3 ⟨hp_432, hp_433⟩) (gdV q_933 q_861 q_862 q_160 q_863) hdV_X8_pass ⟨rfl, rfl⟩ ⟨(Nat.le_of_ble_eq_true rfl), (Nat.le_of_ble_eq_true rfl)⟩ ⟨(Nat.le_of_ble_eq_true rfl), (Nat.le_of_ble_eq_true rfl)⟩ xT8_b (xT8_at hX hw429.2.2.1 (va_free hw429.2.1 hw429.2.2.1 hw429.2.2.2 _ hC_)) 6 8 rfl rfl rfl _ hC_ (nd_T _ 0) rfl hl436.1 rfl (Nat.le_of_ble_eq_true rfl) dX3_readNeed_83)) rfl (fun _ => rfl) (fun _ => rfl) (fun u_437 H1 locs hp hw439 => ?_)
      obtain ⟨nat_440, nplace_441, nkind_442, nvalue_443, nfault_444, nfaultPlace_445⟩ := u_437
      generalize H1 = H at hw439 ⊢
      have hw446 : WD D A s.heap (WZ_NeedsT cI cJ ad mr (upd (upd (upd (upd (upd (upd mi 11 nat_440) 12 nkind_442) 13 nvalue_443) 14 nplace_441) 15 nfault_444) 16 nfaultPlace_445) mf mg) H locs := hw439
      obtain ⟨hp_447, hp_448, hp_449, hp_450⟩ := hp
      have hp_447 : 0 ≤ nat_440.toInt := hp_447
      have hp_448 : nat_440.toInt ≤ (mi 9).toInt := hp_448
      have hp_449 : 0 ≤ nfault_444.toInt := hp_449
      have hp_450 : nfault_444.toInt ≤ 4 := hp_450
      refine lv_aload_n (pc := 86) E.1 E.2.1 dX3_readNeed_86 rfl (lv_at hl436 4 rfl) ?_
      refine lv_iload (pc := 87) E.1 E.2.1 dX3_readNeed_87 (lv_at hl436 0 rfl) ?_
      refine lv_sipush (pc := 89) (v := 9999) E.1 E.2.1 dX3_readNeed_89 (by decide +kernel) ?_
      refine ck_i (pc := 92) (ws' := (fun (u : Int32 × Int32 × Int32 × Int32 × Int32 × Int32) => (WZ_NeedsT cI cJ ad mr (upd (upd (upd (upd (upd (upd mi 11 u.1) 12 u.2.2.1) 13 u.2.2.2.1) 14 u.2.1) 15 u.2.2.2.2.1) 16 u.2.2.2.2.2) mf mg))) [false, false, false, false, false, false, true, true] hw446 rfl (fun hC_ => (rn_V (As := [.int r_421, .int 9999]) (rest := []) E hw446 (t_numberA l D cI cJ _ (shf 7 mr) (shf 7 (upd (upd (upd (upd (upd (upd mi 11 nat_440) 12 nkind_442) 13 nvalue_443) 14 nplace_441) 15 nfault_444) 16 nfaultPlace_445)) (shf 7 mf) (shf 7 mg) r_421 9999 ad av tf h0 hp_447 hp_448 h3 ⟨hp_449, hp_450⟩ (by show r_421.toInt ≤ (9999 : Int32).toInt; have k_0 : (9999 : Int32).toInt = 9999 := (by decide +kernel); omega)) (gdV q_935 q_879 q_880 q_160 q_881) hdV_X8_number ⟨rfl, rfl⟩ ⟨(Nat.le_of_ble_eq_true rfl), (Nat.le_of_ble_eq_true rfl)⟩ ⟨(Nat.le_of_ble_eq_true rfl), (Nat.le_of_ble_eq_true rfl)⟩ xT8_b (xT8_at hX hw446.2.2.1 (va_free hw446.2.1 hw446.2.2.1 hw446.2.2.2 _ hC_)) 6 8 rfl rfl rfl _ hC_ (nd_T _ 0) rfl hl436.1 rfl (Nat.le_of_ble_eq_true rfl) dX3_readNeed_92)) rfl (fun _ => rfl) (fun _ => rfl) (fun r_452 u_451 H1 locs hp hw453 => ?_)
      obtain ⟨nat_454, nplace_455, nkind_456, nvalue_457, nfault_458, nfaultPlace_459⟩ := u_451
      generalize H1 = H at hw453 ⊢
      have hw460 : WD D A s.heap (WZ_NeedsT cI cJ ad mr (upd (upd (upd (upd (upd (upd mi 11 nat_454) 12 nkind_456) 13 nvalue_457) 14 nplace_455) 15 nfault_458) 16 nfaultPlace_459) mf mg) H locs := hw453
      obtain ⟨hp_461, hp_462, hp_463, hp_464, hp_465, hp_466⟩ := hp
      have hp_461 : 0 ≤ nat_454.toInt := hp_461
      have hp_462 : nat_454.toInt ≤ (mi 9).toInt := hp_462
      have hp_463 : 0 ≤ nfault_458.toInt := hp_463
      have hp_464 : nfault_458.toInt ≤ 4 := hp_464
      have hp_465 : r_421.toInt ≤ r_452.toInt := hp_465
      have hp_466 : r_452.toInt ≤ (9999 : Int32).toInt := hp_466
      rw [show (9999 : Int32).toInt = 9999 from by decide +kernel] at hp_466
      refine lv_istore (pc := 95) (lv' := [(6, .int r_452), (5, .int r_421), (4, .int r_390), (3, .int v_18), (0, .ref (mr 0)), (1, .ref (mr 7)), (2, .int z_houses)]) E.1 E.2.1 dX3_readNeed_95 hl436 (by decide) rfl (fun ls hl467 => ?_)
      refine lv_aload_n (pc := 97) E.1 E.2.1 dX3_readNeed_97 rfl (lv_at hl467 5 rfl) ?_
      refine lv_sipush (pc := 98) (v := 264) E.1 E.2.1 dX3_readNeed_98 (by decide +kernel) ?_
      refine ck_v (pc := 101) (ws' := (fun (u : Int32 × Int32 × Int32 × Int32 × Int32 × Int32) => (WZ_NeedsT cI cJ ad mr (upd (upd (upd (upd (upd (upd mi 11 u.1) 12 u.2.2.1) 13 u.2.2.2.1) 14 u.2.1) 15 u.2.2.2.2.1) 16 u.2.2.2.2.2) mf mg))) [false, false, false, false, false, false, true, true] hw460 rfl (fun hC_ => (rn_V (As := [.int 264]) (rest := []) E hw460 (t_pass l D cI cJ _ (shf 7 mr) (shf 7 (upd (upd (upd (upd (upd (upd mi 11 nat_454) 12 nkind_456) 13 nvalue_457) 14 nplace_455) 15 nfault_458) 16 nfaultPlace_459)) (shf 7 mf) (shf 7 mg) 264 ad av tf h0 hp_461 hp_462 h3 ⟨hp_463, hp_464⟩) (gdV q_933 q_861 q_862 q_160 q_863) hdV_X8_pass ⟨rfl, rfl⟩ ⟨(Nat.le_of_ble_eq_true rfl), (Nat.le_of_ble_eq_true rfl)⟩ ⟨(Nat.le_of_ble_eq_true rfl), (Nat.le_of_ble_eq_true rfl)⟩ xT8_b (xT8_at hX hw460.2.2.1 (va_free hw460.2.1 hw460.2.2.1 hw460.2.2.2 _ hC_)) 6 8 rfl rfl rfl _ hC_ (nd_T _ 0) rfl hl467.1 rfl (Nat.le_of_ble_eq_true rfl) dX3_readNeed_101)) rfl (fun _ => rfl) (fun _ => rfl) (fun u_468 H1 locs hp hw470 => ?_)
      obtain ⟨nat_471, nplace_472, nkind_473, nvalue_474, nfault_475, nfaultPlace_476⟩ := u_468
      generalize H1 = H at hw470 ⊢
      have hw477 : WD D A s.heap (WZ_NeedsT cI cJ ad mr (upd (upd (upd (upd (upd (upd mi 11 nat_471) 12 nkind_473) 13 nvalue_474) 14 nplace_472) 15 nfault_475) 16 nfaultPlace_476) mf mg) H locs := hw470
      obtain ⟨hp_478, hp_479, hp_480, hp_481⟩ := hp
      have hp_478 : 0 ≤ nat_471.toInt := hp_478
      have hp_479 : nat_471.toInt ≤ (mi 9).toInt := hp_479
      have hp_480 : 0 ≤ nfault_475.toInt := hp_480
      have hp_481 : nfault_475.toInt ≤ 4 := hp_481
      refine lv_aload_n (pc := 104) E.1 E.2.1 dX3_readNeed_104 rfl (lv_at hl467 5 rfl) ?_
      refine lv_iconst (pc := 105) (v := 1) E.1 E.2.1 dX3_readNeed_105 (by decide +kernel) ?_
      refine lv_bipush (pc := 106) (v := 99) E.1 E.2.1 dX3_readNeed_106 (by decide +kernel) ?_
      refine ck_i (pc := 108) (ws' := (fun (u : Int32 × Int32 × Int32 × Int32 × Int32 × Int32) => (WZ_NeedsT cI cJ ad mr (upd (upd (upd (upd (upd (upd mi 11 u.1) 12 u.2.2.1) 13 u.2.2.2.1) 14 u.2.1) 15 u.2.2.2.2.1) 16 u.2.2.2.2.2) mf mg))) [false, false, false, false, false, false, true, true] hw477 rfl (fun hC_ => (rn_V (As := [.int 1, .int 99]) (rest := []) E hw477 (t_numberA l D cI cJ _ (shf 7 mr) (shf 7 (upd (upd (upd (upd (upd (upd mi 11 nat_471) 12 nkind_473) 13 nvalue_474) 14 nplace_472) 15 nfault_475) 16 nfaultPlace_476)) (shf 7 mf) (shf 7 mg) 1 99 ad av tf h0 hp_478 hp_479 h3 ⟨hp_480, hp_481⟩ (by show (1 : Int32).toInt ≤ (99 : Int32).toInt; have k_0 : (1 : Int32).toInt = 1 := (by decide +kernel); have k_1 : (99 : Int32).toInt = 99 := (by decide +kernel); omega)) (gdV q_935 q_879 q_880 q_160 q_881) hdV_X8_number ⟨rfl, rfl⟩ ⟨(Nat.le_of_ble_eq_true rfl), (Nat.le_of_ble_eq_true rfl)⟩ ⟨(Nat.le_of_ble_eq_true rfl), (Nat.le_of_ble_eq_true rfl)⟩ xT8_b (xT8_at hX hw477.2.2.1 (va_free hw477.2.1 hw477.2.2.1 hw477.2.2.2 _ hC_)) 6 8 rfl rfl rfl _ hC_ (nd_T _ 0) rfl hl467.1 rfl (Nat.le_of_ble_eq_true rfl) dX3_readNeed_108)) rfl (fun _ => rfl) (fun _ => rfl) (fun r_483 u_482 H1 locs hp hw484 => ?_)
      obtain ⟨nat_485, nplace_486, nkind_487, nvalue_488, nfault_489, nfaultPlace_490⟩ := u_482
      generalize H1 = H at hw484 ⊢
      have hw491 : WD D A s.heap (WZ_NeedsT cI cJ ad mr (upd (upd (upd (upd (upd (upd mi 11 nat_485) 12 nkind_487) 13 nvalue_488) 14 nplace_486) 15 nfault_489) 16 nfaultPlace_490) mf mg) H locs := hw484
      obtain ⟨hp_492, hp_493, hp_494, hp_495, hp_496, hp_497⟩ := hp
      have hp_492 : 0 ≤ nat_485.toInt := hp_492
      have hp_493 : nat_485.toInt ≤ (mi 9).toInt := hp_493
      have hp_494 : 0 ≤ nfault_489.toInt := hp_494
      have hp_495 : nfault_489.toInt ≤ 4 := hp_495
      have hp_496 : (1 : Int32).toInt ≤ r_483.toInt := hp_496
      rw [show (1 : Int32).toInt = 1 from by decide +kernel] at hp_496
      have hp_497 : r_483.toInt ≤ (99 : Int32).toInt := hp_497
      rw [show (99 : Int32).toInt = 99 from by decide +kernel] at hp_497
      refine lv_istore (pc := 111) (lv' := [(7, .int r_483), (6, .int r_452), (5, .int r_421), (4, .int r_390), (3, .int v_18), (0, .ref (mr 0)), (1, .ref (mr 7)), (2, .int z_houses)]) E.1 E.2.1 dX3_readNeed_111 hl467 (by decide) rfl (fun ls hl498 => ?_)
      refine lv_aload_n (pc := 113) E.1 E.2.1 dX3_readNeed_113 rfl (lv_at hl498 6 rfl) ?_
      refine lv_bipush (pc := 114) (v := 59) E.1 E.2.1 dX3_readNeed_114 (by decide +kernel) ?_
      refine ck_v (pc := 116) (ws' := (fun (u : Int32 × Int32 × Int32 × Int32 × Int32 × Int32) => (WZ_NeedsT cI cJ ad mr (upd (upd (upd (upd (upd (upd mi 11 u.1) 12 u.2.2.1) 13 u.2.2.2.1) 14 u.2.1) 15 u.2.2.2.2.1) 16 u.2.2.2.2.2) mf mg))) [false, false, false, false, false, false, true, true] hw491 rfl (fun hC_ => (rn_V (As := [.int 59]) (rest := []) E hw491 (t_pass l D cI cJ _ (shf 7 mr) (shf 7 (upd (upd (upd (upd (upd (upd mi 11 nat_485) 12 nkind_487) 13 nvalue_488) 14 nplace_486) 15 nfault_489) 16 nfaultPlace_490)) (shf 7 mf) (shf 7 mg) 59 ad av tf h0 hp_492 hp_493 h3 ⟨hp_494, hp_495⟩) (gdV q_933 q_861 q_862 q_160 q_863) hdV_X8_pass ⟨rfl, rfl⟩ ⟨(Nat.le_of_ble_eq_true rfl), (Nat.le_of_ble_eq_true rfl)⟩ ⟨(Nat.le_of_ble_eq_true rfl), (Nat.le_of_ble_eq_true rfl)⟩ xT8_b (xT8_at hX hw491.2.2.1 (va_free hw491.2.1 hw491.2.2.1 hw491.2.2.2 _ hC_)) 6 8 rfl rfl rfl _ hC_ (nd_T _ 0) rfl hl498.1 rfl (Nat.le_of_ble_eq_true rfl) dX3_readNeed_116)) rfl (fun _ => rfl) (fun _ => rfl) (fun u_499 H1 locs hp hw501 => ?_)
      obtain ⟨nat_502, nplace_503, nkind_504, nvalue_505, nfault_506, nfaultPlace_507⟩ := u_499
      generalize H1 = H at hw501 ⊢
      have hw508 : WD D A s.heap (WZ_NeedsT cI cJ ad mr (upd (upd (upd (upd (upd (upd mi 11 nat_502) 12 nkind_504) 13 nvalue_505) 14 nplace_503) 15 nfault_506) 16 nfaultPlace_507) mf mg) H locs := hw501
      obtain ⟨hp_509, hp_510, hp_511, hp_512⟩ := hp
      have hp_509 : 0 ≤ nat_502.toInt := hp_509
      have hp_510 : nat_502.toInt ≤ (mi 9).toInt := hp_510
      have hp_511 : 0 ≤ nfault_506.toInt := hp_511
      have hp_512 : nfault_506.toInt ≤ 4 := hp_512
      refine lv_aload_n (pc := 119) E.1 E.2.1 dX3_readNeed_119 rfl (lv_at hl498 6 rfl) ?_
      refine x_get (pc := 120) (T := TX8) (N := 9) (ci := 8) (v := .int nfault_506) E hw508 inX8 6 7 q_554 rfl rfl (by decide) rfl rfl dX3_readNeed_120 ?_
      refine lv_if_ne (pc := 123) (tgt := 199) E.1 E.2.1 dX3_readNeed_123 (by decide) (fun c_513 => ?_) (fun c_513 => ?_)
      · skip
        have hc_513 := neE (a := nfault_506.toInt) (b := 0) rfl (by decide +kernel) c_513
        exact em_v (w1 := (fun (u : Int32 × Int32 × Int32 × Int32 × Int32 × Int32 × (Nat → Int32) × (Nat → Int32) × (Nat → Int32) × (Nat → Int32) × (Nat → Int32) × Int32) => (WZ_NeedsT cI cJ ad mr (upd (upd (upd (upd (upd (upd (upd mi 11 u.1) 14 u.2.1) 12 u.2.2.1) 13 u.2.2.2.1) 15 u.2.2.2.2.1) 16 u.2.2.2.2.2.1) 6 u.2.2.2.2.2.2.2.2.2.2.2) (va_up (va_up (va_up (va_up (va_up mf 1 u.2.2.2.2.2.2.1) 2 u.2.2.2.2.2.2.2.1) 3 u.2.2.2.2.2.2.2.2.1) 4 u.2.2.2.2.2.2.2.2.2.1) 5 u.2.2.2.2.2.2.2.2.2.2.1) mg))) E hr hlk (nat_502, nplace_503, nkind_504, nvalue_505, nfault_506, nfaultPlace_507, (mf 1), (mf 2), (mf 3), (mf 4), (mf 5), (mi 6)) hw508 ⟨hp_509, hp_510, hp_511, hp_512, h6.1, h6.2⟩ (Nat.le_of_ble_eq_true rfl) (Nat.le_of_ble_eq_true rfl) dX3_readNeed_199
      · skip
        have hc_513 := eqE (a := nfault_506.toInt) (b := 0) rfl (by decide +kernel) c_513
        refine lv_aload_n (pc := 126) E.1 E.2.1 dX3_readNeed_126 rfl (lv_at hl498 5 rfl) ?_
        refine x_get (pc := 127) (T := TX3) (N := 6) (ci := 3) (v := .int (mi 6)) E hw508 inX3 0 5 q_361 rfl rfl (by decide) rfl rfl dX3_readNeed_127 ?_
        refine lv_bipush (pc := 130) (v := 10) E.1 E.2.1 dX3_readNeed_130 (by decide +kernel) ?_
        refine lv_icmp_ge (pc := 132) (tgt := 199) E.1 E.2.1 dX3_readNeed_132 (by decide) (fun c_514 => ?_) (fun c_514 => ?_)
        · skip
          have hc_514 := leE (a := 10) (b := (mi 6).toInt) (by decide +kernel) rfl c_514
          exact em_v (w1 := (fun (u : Int32 × Int32 × Int32 × Int32 × Int32 × Int32 × (Nat → Int32) × (Nat → Int32) × (Nat → Int32) × (Nat → Int32) × (Nat → Int32) × Int32) => (WZ_NeedsT cI cJ ad mr (upd (upd (upd (upd (upd (upd (upd mi 11 u.1) 14 u.2.1) 12 u.2.2.1) 13 u.2.2.2.1) 15 u.2.2.2.2.1) 16 u.2.2.2.2.2.1) 6 u.2.2.2.2.2.2.2.2.2.2.2) (va_up (va_up (va_up (va_up (va_up mf 1 u.2.2.2.2.2.2.1) 2 u.2.2.2.2.2.2.2.1) 3 u.2.2.2.2.2.2.2.2.1) 4 u.2.2.2.2.2.2.2.2.2.1) 5 u.2.2.2.2.2.2.2.2.2.2.1) mg))) E hr hlk (nat_502, nplace_503, nkind_504, nvalue_505, nfault_506, nfaultPlace_507, (mf 1), (mf 2), (mf 3), (mf 4), (mf 5), (mi 6)) hw508 ⟨hp_509, hp_510, hp_511, hp_512, h6.1, h6.2⟩ (Nat.le_of_ble_eq_true rfl) (Nat.le_of_ble_eq_true rfl) dX3_readNeed_199
        · skip
          have hc_514 := nleE (a := 10) (b := (mi 6).toInt) (by decide +kernel) rfl c_514
          refine lv_aload_n (pc := 135) E.1 E.2.1 dX3_readNeed_135 rfl (lv_at hl498 5 rfl) ?_
          refine x_get (pc := 136) (T := TX3) (N := 6) (ci := 3) (v := .ref (mr 1)) E hw508 inX3 0 0 q_343 rfl rfl (by decide) rfl rfl dX3_readNeed_136 ?_
          refine lv_aload_n (pc := 139) E.1 E.2.1 dX3_readNeed_139 rfl (lv_at hl498 5 rfl) ?_
          refine x_get (pc := 140) (T := TX3) (N := 6) (ci := 3) (v := .int (mi 6)) E hw508 inX3 0 5 q_361 rfl rfl (by decide) rfl rfl dX3_readNeed_140 ?_
          refine lv_iload_n (pc := 143) E.1 E.2.1 dX3_readNeed_143 rfl (lv_at hl498 4 rfl) ?_
          refine x_iastG (pc := 144) (f := (mf 1)) (wf := fun g => (WZ_NeedsT cI cJ ad mr (upd (upd (upd (upd (upd (upd mi 11 nat_502) 12 nkind_504) 13 nvalue_505) 14 nplace_503) 15 nfault_506) 16 nfaultPlace_507) (va_up mf 1 g) mg)) E hw508 1 rfl (inbE (a := (mi 6).toInt) rfl (by omega)) (fun _ => rfl) dX3_readNeed_144 (fun g_515 H locs eg_515 hw516 => ?_)
          refine lv_aload_n (pc := 145) E.1 E.2.1 dX3_readNeed_145 rfl (lv_at hl498 5 rfl) ?_
          refine x_get (pc := 146) (T := TX3) (N := 6) (ci := 3) (v := .ref (mr 2)) E hw516 inX3 0 1 q_347 rfl rfl (by decide) rfl rfl dX3_readNeed_146 ?_
          refine lv_aload_n (pc := 149) E.1 E.2.1 dX3_readNeed_149 rfl (lv_at hl498 5 rfl) ?_
          refine x_get (pc := 150) (T := TX3) (N := 6) (ci := 3) (v := .int (mi 6)) E hw516 inX3 0 5 q_361 rfl rfl (by decide) rfl rfl dX3_readNeed_150 ?_
          refine lv_iload (pc := 153) E.1 E.2.1 dX3_readNeed_153 (lv_at hl498 3 rfl) ?_
          refine x_iastG (pc := 155) (f := (mf 2)) (wf := fun g => (WZ_NeedsT cI cJ ad mr (upd (upd (upd (upd (upd (upd mi 11 nat_502) 12 nkind_504) 13 nvalue_505) 14 nplace_503) 15 nfault_506) 16 nfaultPlace_507) (va_up (va_up mf 1 g_515) 2 g) mg)) E hw516 2 rfl (inbE (a := (mi 6).toInt) rfl (by omega)) (fun _ => rfl) dX3_readNeed_155 (fun g_517 H locs eg_517 hw518 => ?_)
          refine lv_aload_n (pc := 156) E.1 E.2.1 dX3_readNeed_156 rfl (lv_at hl498 5 rfl) ?_
          refine x_get (pc := 157) (T := TX3) (N := 6) (ci := 3) (v := .ref (mr 3)) E hw518 inX3 0 2 q_351 rfl rfl (by decide) rfl rfl dX3_readNeed_157 ?_
          refine lv_aload_n (pc := 160) E.1 E.2.1 dX3_readNeed_160 rfl (lv_at hl498 5 rfl) ?_
          refine x_get (pc := 161) (T := TX3) (N := 6) (ci := 3) (v := .int (mi 6)) E hw518 inX3 0 5 q_361 rfl rfl (by decide) rfl rfl dX3_readNeed_161 ?_
          refine lv_iload (pc := 164) E.1 E.2.1 dX3_readNeed_164 (lv_at hl498 2 rfl) ?_
          refine x_iastG (pc := 166) (f := (mf 3)) (wf := fun g => (WZ_NeedsT cI cJ ad mr (upd (upd (upd (upd (upd (upd mi 11 nat_502) 12 nkind_504) 13 nvalue_505) 14 nplace_503) 15 nfault_506) 16 nfaultPlace_507) (va_up (va_up (va_up mf 1 g_515) 2 g_517) 3 g) mg)) E hw518 3 rfl (inbE (a := (mi 6).toInt) rfl (by omega)) (fun _ => rfl) dX3_readNeed_166 (fun g_519 H locs eg_519 hw520 => ?_)
          refine lv_aload_n (pc := 167) E.1 E.2.1 dX3_readNeed_167 rfl (lv_at hl498 5 rfl) ?_
          refine x_get (pc := 168) (T := TX3) (N := 6) (ci := 3) (v := .ref (mr 4)) E hw520 inX3 0 3 q_354 rfl rfl (by decide) rfl rfl dX3_readNeed_168 ?_
          refine lv_aload_n (pc := 171) E.1 E.2.1 dX3_readNeed_171 rfl (lv_at hl498 5 rfl) ?_
          refine x_get (pc := 172) (T := TX3) (N := 6) (ci := 3) (v := .int (mi 6)) E hw520 inX3 0 5 q_361 rfl rfl (by decide) rfl rfl dX3_readNeed_172 ?_
          refine lv_iload (pc := 175) E.1 E.2.1 dX3_readNeed_175 (lv_at hl498 1 rfl) ?_
          refine x_iastG (pc := 177) (f := (mf 4)) (wf := fun g => (WZ_NeedsT cI cJ ad mr (upd (upd (upd (upd (upd (upd mi 11 nat_502) 12 nkind_504) 13 nvalue_505) 14 nplace_503) 15 nfault_506) 16 nfaultPlace_507) (va_up (va_up (va_up (va_up mf 1 g_515) 2 g_517) 3 g_519) 4 g) mg)) E hw520 4 rfl (inbE (a := (mi 6).toInt) rfl (by omega)) (fun _ => rfl) dX3_readNeed_177 (fun g_521 H locs eg_521 hw522 => ?_)
          refine lv_aload_n (pc := 178) E.1 E.2.1 dX3_readNeed_178 rfl (lv_at hl498 5 rfl) ?_
          refine x_get (pc := 179) (T := TX3) (N := 6) (ci := 3) (v := .ref (mr 5)) E hw522 inX3 0 4 q_358 rfl rfl (by decide) rfl rfl dX3_readNeed_179 ?_
          refine lv_aload_n (pc := 182) E.1 E.2.1 dX3_readNeed_182 rfl (lv_at hl498 5 rfl) ?_
          refine x_get (pc := 183) (T := TX3) (N := 6) (ci := 3) (v := .int (mi 6)) E hw522 inX3 0 5 q_361 rfl rfl (by decide) rfl rfl dX3_readNeed_183 ?_
          refine lv_iload (pc := 186) E.1 E.2.1 dX3_readNeed_186 (lv_at hl498 0 rfl) ?_
          refine x_iastG (pc := 188) (f := (mf 5)) (wf := fun g => (WZ_NeedsT cI cJ ad mr (upd (upd (upd (upd (upd (upd mi 11 nat_502) 12 nkind_504) 13 nvalue_505) 14 nplace_503) 15 nfault_506) 16 nfaultPlace_507) (va_up (va_up (va_up (va_up (va_up mf 1 g_515) 2 g_517) 3 g_519) 4 g_521) 5 g) mg)) E hw522 5 rfl (inbE (a := (mi 6).toInt) rfl (by omega)) (fun _ => rfl) dX3_readNeed_188 (fun g_523 H locs eg_523 hw524 => ?_)
          refine lv_aload_n (pc := 189) E.1 E.2.1 dX3_readNeed_189 rfl (lv_at hl498 5 rfl) ?_
          refine lv_dup (pc := 190) E.1 E.2.1 dX3_readNeed_190 rfl ?_
          refine x_get (pc := 191) (T := TX3) (N := 6) (ci := 3) (v := .int (mi 6)) E hw524 inX3 0 5 q_361 rfl rfl (by decide) rfl rfl dX3_readNeed_191 ?_
          refine lv_iconst (pc := 194) (v := 1) E.1 E.2.1 dX3_readNeed_194 (by decide +kernel) ?_
          refine lv_iadd (pc := 195) E.1 E.2.1 dX3_readNeed_195 ?_
          refine lv_topi (fun v_525 ev_525 => ?_)
          have hv_525 : v_525.toInt = (mi 6).toInt + 1 := by rw [ev_525]; exact addE rfl (by decide +kernel) (by omega)
          refine x_put (pc := 196) (T := TX3) (N := 6) (ci := 3) (ws' := (WZ_NeedsT cI cJ ad mr (upd (upd (upd (upd (upd (upd (upd mi 6 v_525) 11 nat_502) 12 nkind_504) 13 nvalue_505) 14 nplace_503) 15 nfault_506) 16 nfaultPlace_507) (va_up (va_up (va_up (va_up (va_up mf 1 g_515) 2 g_517) 3 g_519) 4 g_521) 5 g_523) mg)) E hw524 inX3 tyX3_ok nmX3 0 5 q_361 rfl rfl (by decide) rfl rfl rfl rfl (Nat.le_of_ble_eq_true rfl) rfl dX3_readNeed_196 (fun H locs hw526 => ?_)
          exact em_v (w1 := (fun (u : Int32 × Int32 × Int32 × Int32 × Int32 × Int32 × (Nat → Int32) × (Nat → Int32) × (Nat → Int32) × (Nat → Int32) × (Nat → Int32) × Int32) => (WZ_NeedsT cI cJ ad mr (upd (upd (upd (upd (upd (upd (upd mi 11 u.1) 14 u.2.1) 12 u.2.2.1) 13 u.2.2.2.1) 15 u.2.2.2.2.1) 16 u.2.2.2.2.2.1) 6 u.2.2.2.2.2.2.2.2.2.2.2) (va_up (va_up (va_up (va_up (va_up mf 1 u.2.2.2.2.2.2.1) 2 u.2.2.2.2.2.2.2.1) 3 u.2.2.2.2.2.2.2.2.1) 4 u.2.2.2.2.2.2.2.2.2.1) 5 u.2.2.2.2.2.2.2.2.2.2.1) mg))) E hr hlk (nat_502, nplace_503, nkind_504, nvalue_505, nfault_506, nfaultPlace_507, g_515, g_517, g_519, g_521, g_523, v_525) hw526 ⟨hp_509, hp_510, hp_511, hp_512, (by show 0 ≤ v_525.toInt; omega), (by show v_525.toInt ≤ 10; omega)⟩ (Nat.le_of_ble_eq_true rfl) (Nat.le_of_ble_eq_true rfl) dX3_readNeed_199
