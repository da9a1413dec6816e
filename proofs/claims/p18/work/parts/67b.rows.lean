set_option maxHeartbeats 4000000 in
set_option maxRecDepth 100000 in
theorem t_readOperand (l : Launch) (D : va_G) (cI cJ : ClassId) (sz : Nat) (mr : Nat → Nat) (mi : Nat → Int32) (mf : Nat → Nat → Int32) (mg : Nat → Nat → Int64)  (ad av : Nat → Nat) (tf : Value) (h0 : 0 ≤ (mi 12).toInt ∧ (mi 12).toInt ≤ 400) (h1 : 0 ≤ (mi 14).toInt) (h2 : (mi 14).toInt ≤ (mi 12).toInt) (h3 : 0 ≤ (mi 13).toInt ∧ (mi 13).toInt ≤ 6) (h4 : 0 ≤ (mi 18).toInt ∧ (mi 18).toInt ≤ 4) (h5 : 0 ≤ (mi 2).toInt ∧ (mi 2).toInt ≤ 400) : Met l yX2_readOperand (Cond.code yX2_readOperand cX2_readOperand 2 none :: GW) ({ frames := 7, cells := 0, slots := 0, locals := 171 } : Room) (va_Pc [.ref (mr 0), .ref (mr 10)] (PW D cI cJ sz (WZ_LawT cI cJ ad mr mi mf mg) (xT8 ad av tf (va_A (WZ_LawT cI cJ ad mr mi mf mg) sz)))) (va_Qv (fun (u : Int32 × Int32 × Int32 × Int32 × Int32 × Int32 × (Nat → Int32) × Int32) => (0 ≤ u.1.toInt) ∧ (u.1.toInt ≤ (mi 12).toInt) ∧ (0 ≤ u.2.2.2.2.1.toInt) ∧ (u.2.2.2.2.1.toInt ≤ 4) ∧ (0 ≤ u.2.2.2.2.2.2.2.toInt) ∧ (u.2.2.2.2.2.2.2.toInt ≤ 400)) (fun u => QW D cI cJ (va_A (WZ_LawT cI cJ ad mr mi mf mg) sz) ((fun (u : Int32 × Int32 × Int32 × Int32 × Int32 × Int32 × (Nat → Int32) × Int32) => (WZ_LawT cI cJ ad mr (upd (upd (upd (upd (upd (upd (upd mi 14 u.1) 17 u.2.1) 15 u.2.2.1) 16 u.2.2.2.1) 18 u.2.2.2.2.1) 19 u.2.2.2.2.2.1) 2 u.2.2.2.2.2.2.2) (va_up mf 1 u.2.2.2.2.2.2.1) mg)) u)) (va_A (WZ_LawT cI cJ ad mr mi mf mg) sz)) 0 0 (va_A (WZ_LawT cI cJ ad mr mi mf mg) sz) := by
  refine mk_metA (X := fun A => xT8 ad av tf A) (y := yX2_readOperand) (bytes := cX2_readOperand) (maxL := 2) (avs := [.ref (mr 0), .ref (mr 10)]) (WS := (WZ_LawT cI cJ ad mr mi mf mg)) (Qf := fun A => va_Qv (fun (u : Int32 × Int32 × Int32 × Int32 × Int32 × Int32 × (Nat → Int32) × Int32) => (0 ≤ u.1.toInt) ∧ (u.1.toInt ≤ (mi 12).toInt) ∧ (0 ≤ u.2.2.2.2.1.toInt) ∧ (u.2.2.2.2.1.toInt ≤ 4) ∧ (0 ≤ u.2.2.2.2.2.2.2.toInt) ∧ (u.2.2.2.2.2.2.2.toInt ≤ 400)) (fun u => QW D cI cJ A ((fun (u : Int32 × Int32 × Int32 × Int32 × Int32 × Int32 × (Nat → Int32) × Int32) => (WZ_LawT cI cJ ad mr (upd (upd (upd (upd (upd (upd (upd mi 14 u.1) 17 u.2.1) 15 u.2.2.1) 16 u.2.2.2.1) 18 u.2.2.2.2.1) 19 u.2.2.2.2.2.1) 2 u.2.2.2.2.2.2.2) (va_up mf 1 u.2.2.2.2.2.2.1) mg)) u)) A) (by decide) (Nat.le_of_ble_eq_true rfl) ?_
  intro p e s m below meth c A ls E hr hlk hnm hX hw1 hl2
  have hl3 : lv_has ls 2 [(0, .ref (mr 0)), (1, .ref (mr 10))] := hl2
  refine lv_aload_n (pc := 0) E.1 E.2.1 dX2_readOperand_0 rfl (lv_at hl3 1 rfl) ?_
  refine x_get (pc := 1) (T := TX8) (N := 9) (ci := 8) (v := .int (mi 15)) E hw1 inX8 5 4 q_545 rfl rfl (by decide) rfl rfl dX2_readOperand_1 ?_
  refine lv_iconst (pc := 4) (v := 1) E.1 E.2.1 dX2_readOperand_4 (by decide +kernel) ?_
  refine lv_icmp_ne (pc := 5) (tgt := 21) E.1 E.2.1 dX2_readOperand_5 (by decide) (fun c_4 => ?_) (fun c_4 => ?_)
  · skip
    have hc_4 := neE (a := (mi 15).toInt) (b := 1) rfl (by decide +kernel) c_4
    refine lv_aload_n (pc := 21) E.1 E.2.1 dX2_readOperand_21 rfl (lv_at hl3 1 rfl) ?_
    refine x_get (pc := 22) (T := TX8) (N := 9) (ci := 8) (v := .int (mi 15)) E hw1 inX8 5 4 q_545 rfl rfl (by decide) rfl rfl dX2_readOperand_22 ?_
    refine lv_sipush (pc := 25) (v := 261) E.1 E.2.1 dX2_readOperand_25 (by decide +kernel) ?_
    refine lv_icmp_lt (pc := 28) (tgt := 42) E.1 E.2.1 dX2_readOperand_28 (by decide) (fun c_5 => ?_) (fun c_5 => ?_)
    · skip
      have hc_5 := ltE (a := (mi 15).toInt) (b := 261) rfl (by decide +kernel) c_5
      refine lv_aload_n (pc := 42) E.1 E.2.1 dX2_readOperand_42 rfl (lv_at hl3 1 rfl) ?_
      refine lv_iconst (pc := 43) (v := 1) E.1 E.2.1 dX2_readOperand_43 (by decide +kernel) ?_
      refine ck_v (pc := 44) (ws' := (fun (u : Int32 × Int32) => (WZ_LawT cI cJ ad mr (upd (upd mi 18 u.1) 19 u.2) mf mg))) [false, false, false, false, false, true, true] hw1 rfl (fun hC_ => (rn_V (As := [.int 1]) (rest := []) E hw1 (t_refuse l D cI cJ _ (shf 10 mr) (shf 10 mi) (shf 10 mf) (shf 10 mg) 1 ad (by show 1 ≤ (1 : Int32).toInt ∧ (1 : Int32).toInt ≤ 4; have k_0 : (1 : Int32).toInt = 1 := (by decide +kernel); omega) h4) (gdV q_856 q_857 q_858 q_160 q_859) hdV_X8_refuse ⟨rfl, rfl⟩ ⟨(Nat.le_of_ble_eq_true rfl), (Nat.le_of_ble_eq_true rfl)⟩ ⟨(Nat.le_of_ble_eq_true rfl), (Nat.le_of_ble_eq_true rfl)⟩ xT_b xT_at 5 8 rfl rfl rfl _ hC_ (nd_T _ 0) rfl hl3.1 rfl (Nat.le_of_ble_eq_true rfl) dX2_readOperand_44)) rfl (fun _ => rfl) (fun _ => rfl) (fun u_6 H1 locs hp hw8 => ?_)
      obtain ⟨nfault_9, nfaultPlace_10⟩ := u_6
      generalize H1 = H at hw8 ⊢
      have hw11 : WD D A s.heap (WZ_LawT cI cJ ad mr (upd (upd mi 18 nfault_9) 19 nfaultPlace_10) mf mg) H locs := hw8
      obtain ⟨hp_12, hp_13⟩ := hp
      have hp_12 : 1 ≤ nfault_9.toInt := hp_12
      have hp_13 : nfault_9.toInt ≤ 4 := hp_13
      refine lv_aload_n (pc := 47) E.1 E.2.1 dX2_readOperand_47 rfl (lv_at hl3 1 rfl) ?_
      refine ck_v (pc := 48) (ws' := (fun (u : Int32 × Int32 × Int32 × Int32) => (WZ_LawT cI cJ ad mr (upd (upd (upd (upd (upd (upd mi 14 u.1) 15 u.2.2.1) 16 u.2.2.2) 17 u.2.1) 18 nfault_9) 19 nfaultPlace_10) mf mg))) [false, false, false, false, false, true, true] hw11 rfl (fun hC_ => (rn_V (As := []) (rest := []) E hw11 (t_step l D cI cJ _ (shf 10 mr) (shf 10 (upd (upd mi 18 nfault_9) 19 nfaultPlace_10)) (shf 10 mf) (shf 10 mg) ad av tf h0 h1 h2 h3) (gdV q_877 q_723 q_724 q_160 q_725) hdV_X8_step ⟨rfl, rfl⟩ ⟨(Nat.le_of_ble_eq_true rfl), (Nat.le_of_ble_eq_true rfl)⟩ ⟨(Nat.le_of_ble_eq_true rfl), (Nat.le_of_ble_eq_true rfl)⟩ xT8_b (xT8_at hX hw11.2.2.1 (va_free hw11.2.1 hw11.2.2.1 hw11.2.2.2 _ hC_)) 5 8 rfl rfl rfl _ hC_ (nd_T _ 0) rfl hl3.1 rfl (Nat.le_of_ble_eq_true rfl) dX2_readOperand_48)) rfl (fun _ => rfl) (fun _ => rfl) (fun u_14 H1 locs hp hw16 => ?_)
      obtain ⟨nat_17, nplace_18, nkind_19, nvalue_20⟩ := u_14
      generalize H1 = H at hw16 ⊢
      have hw21 : WD D A s.heap (WZ_LawT cI cJ ad mr (upd (upd (upd (upd (upd (upd mi 14 nat_17) 15 nkind_19) 16 nvalue_20) 17 nplace_18) 18 nfault_9) 19 nfaultPlace_10) mf mg) H locs := hw16
      obtain ⟨hp_22, hp_23⟩ := hp
      have hp_22 : 0 ≤ nat_17.toInt := hp_22
      have hp_23 : nat_17.toInt ≤ (mi 12).toInt := hp_23
      exact em_v (w1 := (fun (u : Int32 × Int32 × Int32 × Int32 × Int32 × Int32 × (Nat → Int32) × Int32) => (WZ_LawT cI cJ ad mr (upd (upd (upd (upd (upd (upd (upd mi 14 u.1) 17 u.2.1) 15 u.2.2.1) 16 u.2.2.2.1) 18 u.2.2.2.2.1) 19 u.2.2.2.2.2.1) 2 u.2.2.2.2.2.2.2) (va_up mf 1 u.2.2.2.2.2.2.1) mg))) E hr hlk (nat_17, nplace_18, nkind_19, nvalue_20, nfault_9, nfaultPlace_10, (mf 1), (mi 2)) hw21 ⟨hp_22, hp_23, (by show 0 ≤ nfault_9.toInt; omega), hp_13, h5.1, h5.2⟩ (Nat.le_of_ble_eq_true rfl) (Nat.le_of_ble_eq_true rfl) dX2_readOperand_51
    · skip
      have hc_5 := nltE (a := (mi 15).toInt) (b := 261) rfl (by decide +kernel) c_5
      refine lv_aload_n (pc := 31) E.1 E.2.1 dX2_readOperand_31 rfl (lv_at hl3 0 rfl) ?_
      refine lv_aload_n (pc := 32) E.1 E.2.1 dX2_readOperand_32 rfl (lv_at hl3 1 rfl) ?_
      refine x_get (pc := 33) (T := TX8) (N := 9) (ci := 8) (v := .int (mi 15)) E hw1 inX8 5 4 q_545 rfl rfl (by decide) rfl rfl dX2_readOperand_33 ?_
      refine ck_v (pc := 36) (ws' := (fun (u : (Nat → Int32) × Int32) => (WZ_LawT cI cJ ad mr (upd mi 2 u.2) (va_up mf 1 u.1) mg))) [true, true, true, true, true, false, false] hw1 rfl (fun hC_ => (rn_V (As := [.int (mi 15)]) (rest := []) E hw1 (t_emit l D cI cJ _ mr mi mf mg (mi 15) h5) (gdV q_873 q_875 q_6 q_157 q_876) hdV_X2_emit ⟨rfl, rfl⟩ ⟨(Nat.le_of_ble_eq_true rfl), (Nat.le_of_ble_eq_true rfl)⟩ ⟨(Nat.le_of_ble_eq_true rfl), (Nat.le_of_ble_eq_true rfl)⟩ xT_b xT_at 0 2 rfl rfl rfl _ hC_ (nd_T _ 0) rfl hl3.1 rfl (Nat.le_of_ble_eq_true rfl) dX2_readOperand_36)) rfl (fun _ => rfl) (fun _ => rfl) (fun u_24 H1 locs hp hw26 => ?_)
      obtain ⟨gcode_27, nsize_28⟩ := u_24
      generalize H1 = H at hw26 ⊢
      have hw29 : WD D A s.heap (WZ_LawT cI cJ ad mr (upd mi 2 nsize_28) (va_up mf 1 gcode_27) mg) H locs := hw26
      obtain ⟨hp_30, hp_31⟩ := hp
      have hp_30 : 0 ≤ nsize_28.toInt := hp_30
      have hp_31 : nsize_28.toInt ≤ 400 := hp_31
      refine lv_goto (pc := 39) (tgt := 47) E.1 E.2.1 dX2_readOperand_39 (by decide) ?_
      refine lv_aload_n (pc := 47) E.1 E.2.1 dX2_readOperand_47 rfl (lv_at hl3 1 rfl) ?_
      refine ck_v (pc := 48) (ws' := (fun (u : Int32 × Int32 × Int32 × Int32) => (WZ_LawT cI cJ ad mr (upd (upd (upd (upd (upd mi 2 nsize_28) 14 u.1) 15 u.2.2.1) 16 u.2.2.2) 17 u.2.1) (va_up mf 1 gcode_27) mg))) [false, false, false, false, false, true, true] hw29 rfl (fun hC_ => (rn_V (As := []) (rest := []) E hw29 (t_step l D cI cJ _ (shf 10 mr) (shf 10 (upd mi 2 nsize_28)) (shf 10 (va_up mf 1 gcode_27)) (shf 10 mg) ad av tf h0 h1 h2 h3) (gdV q_877 q_723 q_724 q_160 q_725) hdV_X8_step ⟨rfl, rfl⟩ ⟨(Nat.le_of_ble_eq_true rfl), (Nat.le_of_ble_eq_true rfl)⟩ ⟨(Nat.le_of_ble_eq_true rfl), (Nat.le_of_ble_eq_true rfl)⟩ xT8_b (xT8_at hX hw29.2.2.1 (va_free hw29.2.1 hw29.2.2.1 hw29.2.2.2 _ hC_)) 5 8 rfl rfl rfl _ hC_ (nd_T _ 0) rfl hl3.1 rfl (Nat.le_of_ble_eq_true rfl) dX2_readOperand_48)) rfl (fun _ => rfl) (fun _ => rfl) (fun u_32 H1 locs hp hw34 => ?_)
      obtain ⟨nat_35, nplace_36, nkind_37, nvalue_38⟩ := u_32
      generalize H1 = H at hw34 ⊢
      have hw39 : WD D A s.heap (WZ_LawT cI cJ ad mr (upd (upd (upd (upd (upd mi 2 nsize_28) 14 nat_35) 15 nkind_37) 16 nvalue_38) 17 nplace_36) (va_up mf 1 gcode_27) mg) H locs := hw34
      obtain ⟨hp_40, hp_41⟩ := hp
      have hp_40 : 0 ≤ nat_35.toInt := hp_40
      have hp_41 : nat_35.toInt ≤ (mi 12).toInt := hp_41
      exact em_v (w1 := (fun (u : Int32 × Int32 × Int32 × Int32 × Int32 × Int32 × (Nat → Int32) × Int32) => (WZ_LawT cI cJ ad mr (upd (upd (upd (upd (upd (upd (upd mi 14 u.1) 17 u.2.1) 15 u.2.2.1) 16 u.2.2.2.1) 18 u.2.2.2.2.1) 19 u.2.2.2.2.2.1) 2 u.2.2.2.2.2.2.2) (va_up mf 1 u.2.2.2.2.2.2.1) mg))) E hr hlk (nat_35, nplace_36, nkind_37, nvalue_38, (mi 18), (mi 19), gcode_27, nsize_28) hw39 ⟨hp_40, hp_41, h4.1, h4.2, hp_30, hp_31⟩ (Nat.le_of_ble_eq_true rfl) (Nat.le_of_ble_eq_true rfl) dX2_readOperand_51
  · skip
    have hc_4 := eqE (a := (mi 15).toInt) (b := 1) rfl (by decide +kernel) c_4
    refine lv_aload_n (pc := 8) E.1 E.2.1 dX2_readOperand_8 rfl (lv_at hl3 0 rfl) ?_
    refine lv_iconst (pc := 9) (v := (-1)) E.1 E.2.1 dX2_readOperand_9 (by decide +kernel) ?_
    refine lv_aload_n (pc := 10) E.1 E.2.1 dX2_readOperand_10 rfl (lv_at hl3 1 rfl) ?_
    refine x_get (pc := 11) (T := TX8) (N := 9) (ci := 8) (v := .int (mi 16)) E hw1 inX8 5 5 q_547 rfl rfl (by decide) rfl rfl dX2_readOperand_11 ?_
    refine lv_isub (pc := 14) E.1 E.2.1 dX2_readOperand_14 ?_
    refine lv_topi (fun v_42 ev_42 => ?_)
    refine ck_v (pc := 15) (ws' := (fun (u : (Nat → Int32) × Int32) => (WZ_LawT cI cJ ad mr (upd mi 2 u.2) (va_up mf 1 u.1) mg))) [true, true, true, true, true, false, false] hw1 rfl (fun hC_ => (rn_V (As := [.int v_42]) (rest := []) E hw1 (t_emit l D cI cJ _ mr mi mf mg v_42 h5) (gdV q_873 q_875 q_6 q_157 q_876) hdV_X2_emit ⟨rfl, rfl⟩ ⟨(Nat.le_of_ble_eq_true rfl), (Nat.le_of_ble_eq_true rfl)⟩ ⟨(Nat.le_of_ble_eq_true rfl), (Nat.le_of_ble_eq_true rfl)⟩ xT_b xT_at 0 2 rfl rfl rfl _ hC_ (nd_T _ 0) rfl hl3.1 rfl (Nat.le_of_ble_eq_true rfl) dX2_readOperand_15)) rfl (fun _ => rfl) (fun _ => rfl) (fun u_43 H1 locs hp hw45 => ?_)
    obtain ⟨gcode_46, nsize_47⟩ := u_43
    generalize H1 = H at hw45 ⊢
    have hw48 : WD D A s.heap (WZ_LawT cI cJ ad mr (upd mi 2 nsize_47) (va_up mf 1 gcode_46) mg) H locs := hw45
    obtain ⟨hp_49, hp_50⟩ := hp
    have hp_49 : 0 ≤ nsize_47.toInt := hp_49
    have hp_50 : nsize_47.toInt ≤ 400 := hp_50
    refine lv_goto (pc := 18) (tgt := 47) E.1 E.2.1 dX2_readOperand_18 (by decide) ?_
    refine lv_aload_n (pc := 47) E.1 E.2.1 dX2_readOperand_47 rfl (lv_at hl3 1 rfl) ?_
    refine ck_v (pc := 48) (ws' := (fun (u : Int32 × Int32 × Int32 × Int32) => (WZ_LawT cI cJ ad mr (upd (upd (upd (upd (upd mi 2 nsize_47) 14 u.1) 15 u.2.2.1) 16 u.2.2.2) 17 u.2.1) (va_up mf 1 gcode_46) mg))) [false, false, false, false, false, true, true] hw48 rfl (fun hC_ => (rn_V (As := []) (rest := []) E hw48 (t_step l D cI cJ _ (shf 10 mr) (shf 10 (upd mi 2 nsize_47)) (shf 10 (va_up mf 1 gcode_46)) (shf 10 mg) ad av tf h0 h1 h2 h3) (gdV q_877 q_723 q_724 q_160 q_725) hdV_X8_step ⟨rfl, rfl⟩ ⟨(Nat.le_of_ble_eq_true rfl), (Nat.le_of_ble_eq_true rfl)⟩ ⟨(Nat.le_of_ble_eq_true rfl), (Nat.le_of_ble_eq_true rfl)⟩ xT8_b (xT8_at hX hw48.2.2.1 (va_free hw48.2.1 hw48.2.2.1 hw48.2.2.2 _ hC_)) 5 8 rfl rfl rfl _ hC_ (nd_T _ 0) rfl hl3.1 rfl (Nat.le_of_ble_eq_true rfl) dX2_readOperand_48)) rfl (fun _ => rfl) (fun _ => rfl) (fun u_51 H1 locs hp hw53 => ?_)
    obtain ⟨nat_54, nplace_55, nkind_56, nvalue_57⟩ := u_51
    generalize H1 = H at hw53 ⊢
    have hw58 : WD D A s.heap (WZ_LawT cI cJ ad mr (upd (upd (upd (upd (upd mi 2 nsize_47) 14 nat_54) 15 nkind_56) 16 nvalue_57) 17 nplace_55) (va_up mf 1 gcode_46) mg) H locs := hw53
    obtain ⟨hp_59, hp_60⟩ := hp
    have hp_59 : 0 ≤ nat_54.toInt := hp_59
    have hp_60 : nat_54.toInt ≤ (mi 12).toInt := hp_60
    exact em_v (w1 := (fun (u : Int32 × Int32 × Int32 × Int32 × Int32 × Int32 × (Nat → Int32) × Int32) => (WZ_LawT cI cJ ad mr (upd (upd (upd (upd (upd (upd (upd mi 14 u.1) 17 u.2.1) 15 u.2.2.1) 16 u.2.2.2.1) 18 u.2.2.2.2.1) 19 u.2.2.2.2.2.1) 2 u.2.2.2.2.2.2.2) (va_up mf 1 u.2.2.2.2.2.2.1) mg))) E hr hlk (nat_54, nplace_55, nkind_56, nvalue_57, (mi 18), (mi 19), gcode_46, nsize_47) hw58 ⟨hp_59, hp_60, h4.1, h4.2, hp_49, hp_50⟩ (Nat.le_of_ble_eq_true rfl) (Nat.le_of_ble_eq_true rfl) dX2_readOperand_51
set_option maxHeartbeats 4000000 in
set_option maxRecDepth 100000 in
theorem t_readSum (l : Launch) (D : va_G) (cI cJ : ClassId) (sz : Nat) (mr : Nat → Nat) (mi : Nat → Int32) (mf : Nat → Nat → Int32) (mg : Nat → Nat → Int64)  (ad av : Nat → Nat) (tf : Value) (h0 : 0 ≤ (mi 12).toInt ∧ (mi 12).toInt ≤ 400) (h1 : 0 ≤ (mi 14).toInt) (h2 : (mi 14).toInt ≤ (mi 12).toInt) (h3 : 0 ≤ (mi 13).toInt ∧ (mi 13).toInt ≤ 6) (h4 : 0 ≤ (mi 18).toInt ∧ (mi 18).toInt ≤ 4) (h5 : 0 ≤ (mi 2).toInt ∧ (mi 2).toInt ≤ 400) : Met l yX2_readSum (Cond.code yX2_readSum cX2_readSum 5 none :: GW) ({ frames := 8, cells := 0, slots := 0, locals := 194 } : Room) (va_Pc [.ref (mr 0), .ref (mr 10)] (PW D cI cJ sz (WZ_LawT cI cJ ad mr mi mf mg) (xT8 ad av tf (va_A (WZ_LawT cI cJ ad mr mi mf mg) sz)))) (va_Qv (fun (u : Int32 × Int32 × Int32 × Int32 × Int32 × Int32 × (Nat → Int32) × Int32) => (0 ≤ u.1.toInt) ∧ (u.1.toInt ≤ (mi 12).toInt) ∧ (0 ≤ u.2.2.2.2.1.toInt) ∧ (u.2.2.2.2.1.toInt ≤ 4) ∧ (0 ≤ u.2.2.2.2.2.2.2.toInt) ∧ (u.2.2.2.2.2.2.2.toInt ≤ 400)) (fun u => QW D cI cJ (va_A (WZ_LawT cI cJ ad mr mi mf mg) sz) ((fun (u : Int32 × Int32 × Int32 × Int32 × Int32 × Int32 × (Nat → Int32) × Int32) => (WZ_LawT cI cJ ad mr (upd (upd (upd (upd (upd (upd (upd mi 14 u.1) 17 u.2.1) 15 u.2.2.1) 16 u.2.2.2.1) 18 u.2.2.2.2.1) 19 u.2.2.2.2.2.1) 2 u.2.2.2.2.2.2.2) (va_up mf 1 u.2.2.2.2.2.2.1) mg)) u)) (va_A (WZ_LawT cI cJ ad mr mi mf mg) sz)) 0 0 (va_A (WZ_LawT cI cJ ad mr mi mf mg) sz) := by
  refine mk_metA (X := fun A => xT8 ad av tf A) (y := yX2_readSum) (bytes := cX2_readSum) (maxL := 5) (avs := [.ref (mr 0), .ref (mr 10)]) (WS := (WZ_LawT cI cJ ad mr mi mf mg)) (Qf := fun A => va_Qv (fun (u : Int32 × Int32 × Int32 × Int32 × Int32 × Int32 × (Nat → Int32) × Int32) => (0 ≤ u.1.toInt) ∧ (u.1.toInt ≤ (mi 12).toInt) ∧ (0 ≤ u.2.2.2.2.1.toInt) ∧ (u.2.2.2.2.1.toInt ≤ 4) ∧ (0 ≤ u.2.2.2.2.2.2.2.toInt) ∧ (u.2.2.2.2.2.2.2.toInt ≤ 400)) (fun u => QW D cI cJ A ((fun (u : Int32 × Int32 × Int32 × Int32 × Int32 × Int32 × (Nat → Int32) × Int32) => (WZ_LawT cI cJ ad mr (upd (upd (upd (upd (upd (upd (upd mi 14 u.1) 17 u.2.1) 15 u.2.2.1) 16 u.2.2.2.1) 18 u.2.2.2.2.1) 19 u.2.2.2.2.2.1) 2 u.2.2.2.2.2.2.2) (va_up mf 1 u.2.2.2.2.2.2.1) mg)) u)) A) (by decide) (Nat.le_of_ble_eq_true rfl) ?_
  intro p e s m below meth c A ls E hr hlk hnm hX hw1 hl2
  have hl3 : lv_has ls 5 [(0, .ref (mr 0)), (1, .ref (mr 10))] := hl2
  have join_4 : ∀ (x_5 : Int32) (x_6 : Int32) (x_7 : Int32) (x_8 : Int32) (x_9 : Int32) (x_10 : Int32) (x_11 : Int32) (x_12 : Int32) (g_13 : Nat → Int32) (H : Heap) (locs : List Loc) (ls : Array Slot), (0 ≤ x_6.toInt) ∧ (x_6.toInt ≤ (mi 12).toInt) ∧ (0 ≤ x_10.toInt) ∧ (x_10.toInt ≤ 4) ∧ (0 ≤ x_12.toInt) ∧ (x_12.toInt ≤ 400) → WD D A s.heap (WZ_LawT cI cJ ad mr (upd (upd (upd (upd (upd (upd (upd mi 2 x_12) 14 x_6) 15 x_8) 16 x_9) 17 x_7) 18 x_10) 19 x_11) (va_up mf 1 g_13) mg) H locs → lv_has ls 5 [(0, .ref (mr 0)), (1, .ref (mr 10)), (2, .int x_5)] → W p l e ({ frames := 8, cells := 0, slots := 0, locals := 194 } : Room) s m ([.ref (mr 0), .ref (mr 10)] : List Value).toArray below meth c H locs 0 0 (MQ below (va_Qv (fun (u : Int32 × Int32 × Int32 × Int32 × Int32 × Int32 × (Nat → Int32) × Int32) => (0 ≤ u.1.toInt) ∧ (u.1.toInt ≤ (mi 12).toInt) ∧ (0 ≤ u.2.2.2.2.1.toInt) ∧ (u.2.2.2.2.1.toInt ≤ 4) ∧ (0 ≤ u.2.2.2.2.2.2.2.toInt) ∧ (u.2.2.2.2.2.2.2.toInt ≤ 400)) (fun u => QW D cI cJ A ((fun (u : Int32 × Int32 × Int32 × Int32 × Int32 × Int32 × (Nat → Int32) × Int32) => (WZ_LawT cI cJ ad mr (upd (upd (upd (upd (upd (upd (upd mi 14 u.1) 17 u.2.1) 15 u.2.2.1) 16 u.2.2.2.1) 18 u.2.2.2.2.1) 19 u.2.2.2.2.2.1) 2 u.2.2.2.2.2.2.2) (va_up mf 1 u.2.2.2.2.2.2.1) mg)) u)) A) ([.ref (mr 0), .ref (mr 10)] : List Value).toArray s 0 0 A) (F0 m 125 ls []) := by
    intro x_5 x_6 x_7 x_8 x_9 x_10 x_11 x_12 g_13 H locs ls hinv hw14 hl15
    obtain ⟨hj_13_0, hj_13_1, hj_13_2, hj_13_3, hj_13_4, hj_13_5⟩ := hinv
    refine lv_aload_n (pc := 125) E.1 E.2.1 dX2_readSum_125 rfl (lv_at hl15 0 rfl) ?_
    refine lv_iload_n (pc := 126) E.1 E.2.1 dX2_readSum_126 rfl (lv_at hl15 2 rfl) ?_
    refine ck_v (pc := 127) (ws' := (fun (u : (Nat → Int32) × Int32) => (WZ_LawT cI cJ ad mr (upd (upd (upd (upd (upd (upd (upd mi 2 u.2) 14 x_6) 15 x_8) 16 x_9) 17 x_7) 18 x_10) 19 x_11) (va_up mf 1 u.1) mg))) [true, true, true, true, true, false, false] hw14 rfl (fun hC_ => (rn_V (As := [.int x_5]) (rest := []) E hw14 (t_emit l D cI cJ _ mr (upd (upd (upd (upd (upd (upd (upd mi 2 x_12) 14 x_6) 15 x_8) 16 x_9) 17 x_7) 18 x_10) 19 x_11) (va_up mf 1 g_13) mg x_5 ⟨hj_13_4, hj_13_5⟩) (gdV q_873 q_875 q_6 q_157 q_876) hdV_X2_emit ⟨rfl, rfl⟩ ⟨(Nat.le_of_ble_eq_true rfl), (Nat.le_of_ble_eq_true rfl)⟩ ⟨(Nat.le_of_ble_eq_true rfl), (Nat.le_of_ble_eq_true rfl)⟩ xT_b xT_at 0 2 rfl rfl rfl _ hC_ (nd_T _ 0) rfl hl15.1 rfl (Nat.le_of_ble_eq_true rfl) dX2_readSum_127)) rfl (fun _ => rfl) (fun _ => rfl) (fun u_16 H1 locs hp hw18 => ?_)
    obtain ⟨gcode_19, nsize_20⟩ := u_16
    generalize H1 = H at hw18 ⊢
    have hw21 : WD D A s.heap (WZ_LawT cI cJ ad mr (upd (upd (upd (upd (upd (upd (upd mi 2 nsize_20) 14 x_6) 15 x_8) 16 x_9) 17 x_7) 18 x_10) 19 x_11) (va_up mf 1 gcode_19) mg) H locs := hw18
    obtain ⟨hp_22, hp_23⟩ := hp
    have hp_22 : 0 ≤ nsize_20.toInt := hp_22
    have hp_23 : nsize_20.toInt ≤ 400 := hp_23
    exact em_v (w1 := (fun (u : Int32 × Int32 × Int32 × Int32 × Int32 × Int32 × (Nat → Int32) × Int32) => (WZ_LawT cI cJ ad mr (upd (upd (upd (upd (upd (upd (upd mi 14 u.1) 17 u.2.1) 15 u.2.2.1) 16 u.2.2.2.1) 18 u.2.2.2.2.1) 19 u.2.2.2.2.2.1) 2 u.2.2.2.2.2.2.2) (va_up mf 1 u.2.2.2.2.2.2.1) mg))) E hr hlk (x_6, x_7, x_8, x_9, x_10, x_11, gcode_19, nsize_20) hw21 ⟨hj_13_0, hj_13_1, hj_13_2, hj_13_3, hp_22, hp_23⟩ (Nat.le_of_ble_eq_true rfl) (Nat.le_of_ble_eq_true rfl) dX2_readSum_130
  refine lv_iconst (pc := 0) (v := 0) E.1 E.2.1 dX2_readSum_0 (by decide +kernel) ?_
  refine lv_istore_n (pc := 1) (lv' := [(2, .int 0), (0, .ref (mr 0)), (1, .ref (mr 10))]) E.1 E.2.1 dX2_readSum_1 rfl hl3 (by decide) rfl (fun ls hl24 => ?_)
  refine lv_aload_n (pc := 2) E.1 E.2.1 dX2_readSum_2 rfl (lv_at hl24 1 rfl) ?_
  refine lv_aload_n (pc := 3) E.1 E.2.1 dX2_readSum_3 rfl (lv_at hl24 2 rfl) ?_
  refine ck_v (pc := 4) (ws' := (fun (u : Int32 × Int32 × Int32 × Int32 × Int32 × Int32 × (Nat → Int32) × Int32) => (WZ_LawT cI cJ ad mr (upd (upd (upd (upd (upd (upd (upd mi 2 u.2.2.2.2.2.2.2) 14 u.1) 15 u.2.2.1) 16 u.2.2.2.1) 17 u.2.1) 18 u.2.2.2.2.1) 19 u.2.2.2.2.2.1) (va_up mf 1 u.2.2.2.2.2.2.1) mg))) [true, true, true, true, true, true, true] hw1 rfl (fun hC_ => (rn_V (As := [.ref (mr 10)]) (rest := []) E hw1 (t_readOperand l D cI cJ _ mr mi mf mg ad av tf h0 h1 h2 h3 h4 h5) (gdV q_869 q_871 q_5 q_157 q_872) hdV_X2_readOperand ⟨rfl, rfl⟩ ⟨(Nat.le_of_ble_eq_true rfl), (Nat.le_of_ble_eq_true rfl)⟩ ⟨(Nat.le_of_ble_eq_true rfl), (Nat.le_of_ble_eq_true rfl)⟩ xT8_b (xT8_at hX hw1.2.2.1 (va_free hw1.2.1 hw1.2.2.1 hw1.2.2.2 _ hC_)) 0 2 rfl rfl rfl _ hC_ (nd_T _ 0) rfl hl24.1 rfl (Nat.le_of_ble_eq_true rfl) dX2_readSum_4)) rfl (fun _ => rfl) (fun _ => rfl) (fun u_25 H1 locs hp hw27 => ?_)
  obtain ⟨ntat_28, ntplace_29, ntkind_30, ntvalue_31, ntfault_32, ntfaultPlace_33, gcode_34, nsize_35⟩ := u_25
  generalize H1 = H at hw27 ⊢
  have hw36 : WD D A s.heap (WZ_LawT cI cJ ad mr (upd (upd (upd (upd (upd (upd (upd mi 2 nsize_35) 14 ntat_28) 15 ntkind_30) 16 ntvalue_31) 17 ntplace_29) 18 ntfault_32) 19 ntfaultPlace_33) (va_up mf 1 gcode_34) mg) H locs := hw27
  obtain ⟨hp_37, hp_38, hp_39, hp_40, hp_41, hp_42⟩ := hp
  have hp_37 : 0 ≤ ntat_28.toInt := hp_37
  have hp_38 : ntat_28.toInt ≤ (mi 12).toInt := hp_38
  have hp_39 : 0 ≤ ntfault_32.toInt := hp_39
  have hp_40 : ntfault_32.toInt ≤ 4 := hp_40
  have hp_41 : 0 ≤ nsize_35.toInt := hp_41
  have hp_42 : nsize_35.toInt ≤ 400 := hp_42
  refine lv_iconst (pc := 7) (v := 0) E.1 E.2.1 dX2_readSum_7 (by decide +kernel) ?_
  refine lv_istore_n (pc := 8) (lv' := [(3, .int 0), (2, .int 0), (0, .ref (mr 0)), (1, .ref (mr 10))]) E.1 E.2.1 dX2_readSum_8 rfl hl24 (by decide) rfl (fun ls hl43 => ?_)
  have loop_44 : ∀ (k : Nat) (x_45 : Int32) (x_46 : Int32) (x_47 : Int32) (x_48 : Int32) (x_49 : Int32) (x_50 : Int32) (x_51 : Int32) (x_52 : Int32) (x_53 : Int32) (g_54 : Nat → Int32) (H : Heap) (locs : List Loc) (ls : Array Slot), (0 ≤ x_47.toInt) ∧ (x_47.toInt ≤ (mi 12).toInt) ∧ (0 ≤ x_51.toInt) ∧ (x_51.toInt ≤ 4) ∧ (0 ≤ x_53.toInt) ∧ (x_53.toInt ≤ 400) ∧ (0 ≤ x_45.toInt) ∧ (x_45.toInt ≤ 401) → 401 - x_45.toInt < (k : Int) → WD D A s.heap (WZ_LawT cI cJ ad mr (upd (upd (upd (upd (upd (upd (upd mi 2 x_53) 14 x_47) 15 x_49) 16 x_50) 17 x_48) 18 x_51) 19 x_52) (va_up mf 1 g_54) mg) H locs → lv_has ls 5 [(3, .int x_45), (2, .int x_46), (0, .ref (mr 0)), (1, .ref (mr 10))] → W p l e ({ frames := 8, cells := 0, slots := 0, locals := 194 } : Room) s m ([.ref (mr 0), .ref (mr 10)] : List Value).toArray below meth c H locs 0 0 (MQ below (va_Qv (fun (u : Int32 × Int32 × Int32 × Int32 × Int32 × Int32 × (Nat → Int32) × Int32) => (0 ≤ u.1.toInt) ∧ (u.1.toInt ≤ (mi 12).toInt) ∧ (0 ≤ u.2.2.2.2.1.toInt) ∧ (u.2.2.2.2.1.toInt ≤ 4) ∧ (0 ≤ u.2.2.2.2.2.2.2.toInt) ∧ (u.2.2.2.2.2.2.2.toInt ≤ 400)) (fun u => QW D cI cJ A ((fun (u : Int32 × Int32 × Int32 × Int32 × Int32 × Int32 × (Nat → Int32) × Int32) => (WZ_LawT cI cJ ad mr (upd (upd (upd (upd (upd (upd (upd mi 14 u.1) 17 u.2.1) 15 u.2.2.1) 16 u.2.2.2.1) 18 u.2.2.2.2.1) 19 u.2.2.2.2.2.1) 2 u.2.2.2.2.2.2.2) (va_up mf 1 u.2.2.2.2.2.2.1) mg)) u)) A) ([.ref (mr 0), .ref (mr 10)] : List Value).toArray s 0 0 A) (F0 m 9 ls []) := by
    intro k
    induction k with
    | zero =>
      intro x_45 x_46 x_47 x_48 x_49 x_50 x_51 x_52 x_53 g_54 _ _ _ hinv hm
      obtain ⟨hi_54_0, hi_54_1, hi_54_2, hi_54_3, hi_54_4, hi_54_5, hi_54_6, hi_54_7⟩ := hinv
      exact absurd hm (by omega)
    | succ k ih_55 =>
      intro x_45 x_46 x_47 x_48 x_49 x_50 x_51 x_52 x_53 g_54 H locs ls hinv hm hw56 hl57
      obtain ⟨hi_54_0, hi_54_1, hi_54_2, hi_54_3, hi_54_4, hi_54_5, hi_54_6, hi_54_7⟩ := hinv
      refine lv_iload_n (pc := 9) E.1 E.2.1 dX2_readSum_9 rfl (lv_at hl57 0 rfl) ?_
      refine lv_sipush (pc := 10) (v := 400) E.1 E.2.1 dX2_readSum_10 (by decide +kernel) ?_
      refine lv_icmp_gt (pc := 13) (tgt := 125) E.1 E.2.1 dX2_readSum_13 (by decide) (fun c_58 => ?_) (fun c_58 => ?_)
      · skip
        have hc_58 := ltE (a := 400) (b := x_45.toInt) (by decide +kernel) rfl c_58
        exact join_4 x_46 x_47 x_48 x_49 x_50 x_51 x_52 x_53 g_54 _ _ _ ⟨hi_54_0, hi_54_1, hi_54_2, hi_54_3, hi_54_4, hi_54_5⟩ hw56 (lv_sub hl57 [2, 3, 1] rfl)
      · skip
        have hc_58 := nltE (a := 400) (b := x_45.toInt) (by decide +kernel) rfl c_58
        refine lv_aload_n (pc := 16) E.1 E.2.1 dX2_readSum_16 rfl (lv_at hl57 3 rfl) ?_
        refine x_get (pc := 17) (T := TX8) (N := 9) (ci := 8) (v := .int x_51) E hw56 inX8 5 7 q_551 rfl rfl (by decide) rfl rfl dX2_readSum_17 ?_
        refine lv_if_ne (pc := 20) (tgt := 125) E.1 E.2.1 dX2_readSum_20 (by decide) (fun c_59 => ?_) (fun c_59 => ?_)
        · skip
          have hc_59 := neE (a := x_51.toInt) (b := 0) rfl (by decide +kernel) c_59
          exact join_4 x_46 x_47 x_48 x_49 x_50 x_51 x_52 x_53 g_54 _ _ _ ⟨hi_54_0, hi_54_1, hi_54_2, hi_54_3, hi_54_4, hi_54_5⟩ hw56 (lv_sub hl57 [2, 3, 1] rfl)
        · skip
          have hc_59 := eqE (a := x_51.toInt) (b := 0) rfl (by decide +kernel) c_59
          refine lv_aload_n (pc := 23) E.1 E.2.1 dX2_readSum_23 rfl (lv_at hl57 3 rfl) ?_
          refine x_get (pc := 24) (T := TX8) (N := 9) (ci := 8) (v := .int x_49) E hw56 inX8 5 4 q_545 rfl rfl (by decide) rfl rfl dX2_readSum_24 ?_
          refine lv_istore (pc := 27) (lv' := [(4, .int x_49), (3, .int x_45), (2, .int x_46), (0, .ref (mr 0)), (1, .ref (mr 10))]) E.1 E.2.1 dX2_readSum_27 hl57 (by decide) rfl (fun ls hl60 => ?_)
          refine lv_iload (pc := 29) E.1 E.2.1 dX2_readSum_29 (lv_at hl60 0 rfl) ?_
          refine lv_bipush (pc := 31) (v := 42) E.1 E.2.1 dX2_readSum_31 (by decide +kernel) ?_
          refine lv_icmp_ne (pc := 33) (tgt := 54) E.1 E.2.1 dX2_readSum_33 (by decide) (fun c_61 => ?_) (fun c_61 => ?_)
          · skip
            have hc_61 := neE (a := x_49.toInt) (b := 42) rfl (by decide +kernel) c_61
            refine lv_iload (pc := 54) E.1 E.2.1 dX2_readSum_54 (lv_at hl60 0 rfl) ?_
            refine lv_bipush (pc := 56) (v := 47) E.1 E.2.1 dX2_readSum_56 (by decide +kernel) ?_
            refine lv_icmp_ne (pc := 58) (tgt := 88) E.1 E.2.1 dX2_readSum_58 (by decide) (fun c_62 => ?_) (fun c_62 => ?_)
            · skip
              have hc_62 := neE (a := x_49.toInt) (b := 47) rfl (by decide +kernel) c_62
              refine lv_iload (pc := 88) E.1 E.2.1 dX2_readSum_88 (lv_at hl60 0 rfl) ?_
              refine lv_bipush (pc := 90) (v := 43) E.1 E.2.1 dX2_readSum_90 (by decide +kernel) ?_
              refine lv_icmp_eq (pc := 92) (tgt := 102) E.1 E.2.1 dX2_readSum_92 (by decide) (fun c_63 => ?_) (fun c_63 => ?_)
              · skip
                have hc_63 := eqE (a := x_49.toInt) (b := 43) rfl (by decide +kernel) c_63
                refine lv_aload_n (pc := 102) E.1 E.2.1 dX2_readSum_102 rfl (lv_at hl60 3 rfl) ?_
                refine lv_iload_n (pc := 103) E.1 E.2.1 dX2_readSum_103 rfl (lv_at hl60 2 rfl) ?_
                refine ck_v (pc := 104) (ws' := (fun (u : (Nat → Int32) × Int32) => (WZ_LawT cI cJ ad mr (upd (upd (upd (upd (upd (upd (upd mi 2 u.2) 14 x_47) 15 x_49) 16 x_50) 17 x_48) 18 x_51) 19 x_52) (va_up mf 1 u.1) mg))) [true, true, true, true, true, false, false] hw56 rfl (fun hC_ => (rn_V (As := [.int x_46]) (rest := []) E hw56 (t_emit l D cI cJ _ mr (upd (upd (upd (upd (upd (upd (upd mi 2 x_53) 14 x_47) 15 x_49) 16 x_50) 17 x_48) 18 x_51) 19 x_52) (va_up mf 1 g_54) mg x_46 ⟨hi_54_4, hi_54_5⟩) (gdV q_873 q_875 q_6 q_157 q_876) hdV_X2_emit ⟨rfl, rfl⟩ ⟨(Nat.le_of_ble_eq_true rfl), (Nat.le_of_ble_eq_true rfl)⟩ ⟨(Nat.le_of_ble_eq_true rfl), (Nat.le_of_ble_eq_true rfl)⟩ xT_b xT_at 0 2 rfl rfl rfl _ hC_ (nd_T _ 0) rfl hl60.1 rfl (Nat.le_of_ble_eq_true rfl) dX2_readSum_104)) rfl (fun _ => rfl) (fun _ => rfl) (fun u_64 H1 locs hp hw66 => ?_)
                obtain ⟨gcode_67, nsize_68⟩ := u_64
                generalize H1 = H at hw66 ⊢
                have hw69 : WD D A s.heap (WZ_LawT cI cJ ad mr (upd (upd (upd (upd (upd (upd (upd mi 2 nsize_68) 14 x_47) 15 x_49) 16 x_50) 17 x_48) 18 x_51) 19 x_52) (va_up mf 1 gcode_67) mg) H locs := hw66
                obtain ⟨hp_70, hp_71⟩ := hp
                have hp_70 : 0 ≤ nsize_68.toInt := hp_70
                have hp_71 : nsize_68.toInt ≤ 400 := hp_71
                refine lv_iload (pc := 107) E.1 E.2.1 dX2_readSum_107 (lv_at hl60 0 rfl) ?_
                refine lv_istore_n (pc := 109) (lv' := [(2, .int x_49), (4, .int x_49), (3, .int x_45), (0, .ref (mr 0)), (1, .ref (mr 10))]) E.1 E.2.1 dX2_readSum_109 rfl hl60 (by decide) rfl (fun ls hl72 => ?_)
                refine lv_aload_n (pc := 110) E.1 E.2.1 dX2_readSum_110 rfl (lv_at hl72 4 rfl) ?_
                refine ck_v (pc := 111) (ws' := (fun (u : Int32 × Int32 × Int32 × Int32) => (WZ_LawT cI cJ ad mr (upd (upd (upd (upd (upd (upd (upd mi 2 nsize_68) 14 u.1) 15 u.2.2.1) 16 u.2.2.2) 17 u.2.1) 18 x_51) 19 x_52) (va_up mf 1 gcode_67) mg))) [false, false, false, false, false, true, true] hw69 rfl (fun hC_ => (rn_V (As := []) (rest := []) E hw69 (t_step l D cI cJ _ (shf 10 mr) (shf 10 (upd (upd (upd (upd (upd (upd (upd mi 2 nsize_68) 14 x_47) 15 x_49) 16 x_50) 17 x_48) 18 x_51) 19 x_52)) (shf 10 (va_up mf 1 gcode_67)) (shf 10 mg) ad av tf h0 hi_54_0 hi_54_1 h3) (gdV q_877 q_723 q_724 q_160 q_725) hdV_X8_step ⟨rfl, rfl⟩ ⟨(Nat.le_of_ble_eq_true rfl), (Nat.le_of_ble_eq_true rfl)⟩ ⟨(Nat.le_of_ble_eq_true rfl), (Nat.le_of_ble_eq_true rfl)⟩ xT8_b (xT8_at hX hw69.2.2.1 (va_free hw69.2.1 hw69.2.2.1 hw69.2.2.2 _ hC_)) 5 8 rfl rfl rfl _ hC_ (nd_T _ 0) rfl hl72.1 rfl (Nat.le_of_ble_eq_true rfl) dX2_readSum_111)) rfl (fun _ => rfl) (fun _ => rfl) (fun u_73 H1 locs hp hw75 => ?_)
                obtain ⟨nat_76, nplace_77, nkind_78, nvalue_79⟩ := u_73
                generalize H1 = H at hw75 ⊢
                have hw80 : WD D A s.heap (WZ_LawT cI cJ ad mr (upd (upd (upd (upd (upd (upd (upd mi 2 nsize_68) 14 nat_76) 15 nkind_78) 16 nvalue_79) 17 nplace_77) 18 x_51) 19 x_52) (va_up mf 1 gcode_67) mg) H locs := hw75
                obtain ⟨hp_81, hp_82⟩ := hp
                have hp_81 : 0 ≤ nat_76.toInt := hp_81
                have hp_82 : nat_76.toInt ≤ (mi 12).toInt := hp_82
                refine lv_aload_n (pc := 114) E.1 E.2.1 dX2_readSum_114 rfl (lv_at hl72 3 rfl) ?_
                refine lv_aload_n (pc := 115) E.1 E.2.1 dX2_readSum_115 rfl (lv_at hl72 4 rfl) ?_
                refine ck_v (pc := 116) (ws' := (fun (u : Int32 × Int32 × Int32 × Int32 × Int32 × Int32 × (Nat → Int32) × Int32) => (WZ_LawT cI cJ ad mr (upd (upd (upd (upd (upd (upd (upd mi 2 u.2.2.2.2.2.2.2) 14 u.1) 15 u.2.2.1) 16 u.2.2.2.1) 17 u.2.1) 18 u.2.2.2.2.1) 19 u.2.2.2.2.2.1) (va_up mf 1 u.2.2.2.2.2.2.1) mg))) [true, true, true, true, true, true, true] hw80 rfl (fun hC_ => (rn_V (As := [.ref (mr 10)]) (rest := []) E hw80 (t_readOperand l D cI cJ _ mr (upd (upd (upd (upd (upd (upd (upd mi 2 nsize_68) 14 nat_76) 15 nkind_78) 16 nvalue_79) 17 nplace_77) 18 x_51) 19 x_52) (va_up mf 1 gcode_67) mg ad av tf h0 hp_81 hp_82 h3 ⟨hi_54_2, hi_54_3⟩ ⟨hp_70, hp_71⟩) (gdV q_869 q_871 q_5 q_157 q_872) hdV_X2_readOperand ⟨rfl, rfl⟩ ⟨(Nat.le_of_ble_eq_true rfl), (Nat.le_of_ble_eq_true rfl)⟩ ⟨(Nat.le_of_ble_eq_true rfl), (Nat.le_of_ble_eq_true rfl)⟩ xT8_b (xT8_at hX hw80.2.2.1 (va_free hw80.2.1 hw80.2.2.1 hw80.2.2.2 _ hC_)) 0 2 rfl rfl rfl _ hC_ (nd_T _ 0) rfl hl72.1 rfl (Nat.le_of_ble_eq_true rfl) dX2_readSum_116)) rfl (fun _ => rfl) (fun _ => rfl) (fun u_83 H1 locs hp hw85 => ?_)
                obtain ⟨ntat_86, ntplace_87, ntkind_88, ntvalue_89, ntfault_90, ntfaultPlace_91, gcode_92, nsize_93⟩ := u_83
                generalize H1 = H at hw85 ⊢
                have hw94 : WD D A s.heap (WZ_LawT cI cJ ad mr (upd (upd (upd (upd (upd (upd (upd mi 2 nsize_93) 14 ntat_86) 15 ntkind_88) 16 ntvalue_89) 17 ntplace_87) 18 ntfault_90) 19 ntfaultPlace_91) (va_up mf 1 gcode_92) mg) H locs := hw85
                obtain ⟨hp_95, hp_96, hp_97, hp_98, hp_99, hp_100⟩ := hp
                have hp_95 : 0 ≤ ntat_86.toInt := hp_95
                have hp_96 : ntat_86.toInt ≤ (mi 12).toInt := hp_96
                have hp_97 : 0 ≤ ntfault_90.toInt := hp_97
                have hp_98 : ntfault_90.toInt ≤ 4 := hp_98
                have hp_99 : 0 ≤ nsize_93.toInt := hp_99
                have hp_100 : nsize_93.toInt ≤ 400 := hp_100
                obtain ⟨v_101, ev_101⟩ : ∃ z : Int32, x_45 + Int32.ofInt (1) = z := ⟨_, rfl⟩
                have hv_101 : v_101.toInt = x_45.toInt + (1) := by rw [← ev_101]; exact incE rfl (by decide) (by omega)
                refine lv_iinc (pc := 119) (v := v_101) (lv' := [(3, .int v_101), (2, .int x_49), (4, .int x_49), (0, .ref (mr 0)), (1, .ref (mr 10))]) E.1 E.2.1 dX2_readSum_119 hl72 (k := 2) rfl ev_101 (by decide) rfl (fun ls hl102 => ?_)
                refine lv_goto (pc := 122) (tgt := 9) E.1 E.2.1 dX2_readSum_122 (by decide) ?_
                exact ih_55 v_101 x_49 ntat_86 ntplace_87 ntkind_88 ntvalue_89 ntfault_90 ntfaultPlace_91 nsize_93 gcode_92 _ _ _ ⟨hp_95, hp_96, hp_97, hp_98, hp_99, hp_100, (by show 0 ≤ v_101.toInt; omega), (by show v_101.toInt ≤ 401; omega)⟩ (by omega) hw94 (lv_sub hl102 [0, 1, 3, 4] rfl)
              · skip
                have hc_63 := neE (a := x_49.toInt) (b := 43) rfl (by decide +kernel) c_63
                refine lv_iload (pc := 95) E.1 E.2.1 dX2_readSum_95 (lv_at hl60 0 rfl) ?_
                refine lv_bipush (pc := 97) (v := 45) E.1 E.2.1 dX2_readSum_97 (by decide +kernel) ?_
                refine lv_icmp_ne (pc := 99) (tgt := 125) E.1 E.2.1 dX2_readSum_99 (by decide) (fun c_103 => ?_) (fun c_103 => ?_)
                · skip
                  have hc_103 := neE (a := x_49.toInt) (b := 45) rfl (by decide +kernel) c_103
                  exact join_4 x_46 x_47 x_48 x_49 x_50 x_51 x_52 x_53 g_54 _ _ _ ⟨hi_54_0, hi_54_1, hi_54_2, hi_54_3, hi_54_4, hi_54_5⟩ hw56 (lv_sub hl60 [3, 4, 2] rfl)
                · skip
                  have hc_103 := eqE (a := x_49.toInt) (b := 45) rfl (by decide +kernel) c_103
                  refine lv_aload_n (pc := 102) E.1 E.2.1 dX2_readSum_102 rfl (lv_at hl60 3 rfl) ?_
                  refine lv_iload_n (pc := 103) E.1 E.2.1 dX2_readSum_103 rfl (lv_at hl60 2 rfl) ?_
                  refine ck_v (pc := 104) (ws' := (fun (u : (Nat → Int32) × Int32) => (WZ_LawT cI cJ ad mr (upd (upd (upd (upd (upd (upd (upd mi 2 u.2) 14 x_47) 15 x_49) 16 x_50) 17 x_48) 18 x_51) 19 x_52) (va_up mf 1 u.1) mg))) [true, true, true, true, true, false, false] hw56 rfl (fun hC_ => (rn_V (As := [.int x_46]) (rest := []) E hw56 (t_emit l D cI cJ _ mr (upd (upd (upd (upd (upd (upd (upd mi 2 x_53) 14 x_47) 15 x_49) 16 x_50) 17 x_48) 18 x_51) 19 x_52) (va_up mf 1 g_54) mg x_46 ⟨hi_54_4, hi_54_5⟩) (gdV q_873 q_875 q_6 q_157 q_876) hdV_X2_emit ⟨rfl, rfl⟩ ⟨(Nat.le_of_ble_eq_true rfl), (Nat.le_of_ble_eq_true rfl)⟩ ⟨(Nat.le_of_ble_eq_true rfl), (Nat.le_of_ble_eq_true rfl)⟩ xT_b xT_at 0 2 rfl rfl rfl _ hC_ (nd_T _ 0) rfl hl60.1 rfl (Nat.le_of_ble_eq_true rfl) dX2_readSum_104)) rfl (fun _ => rfl) (fun _ => rfl) (fun u_104 H1 locs hp hw106 => ?_)
                  obtain ⟨gcode_107, nsize_108⟩ := u_104
                  generalize H1 = H at hw106 ⊢
                  have hw109 : WD D A s.heap (WZ_LawT cI cJ ad mr (upd (upd (upd (upd (upd (upd (upd mi 2 nsize_108) 14 x_47) 15 x_49) 16 x_50) 17 x_48) 18 x_51) 19 x_52) (va_up mf 1 gcode_107) mg) H locs := hw106
                  obtain ⟨hp_110, hp_111⟩ := hp
                  have hp_110 : 0 ≤ nsize_108.toInt := hp_110
                  have hp_111 : nsize_108.toInt ≤ 400 := hp_111
                  refine lv_iload (pc := 107) E.1 E.2.1 dX2_readSum_107 (lv_at hl60 0 rfl) ?_
                  refine lv_istore_n (pc := 109) (lv' := [(2, .int x_49), (4, .int x_49), (3, .int x_45), (0, .ref (mr 0)), (1, .ref (mr 10))]) E.1 E.2.1 dX2_readSum_109 rfl hl60 (by decide) rfl (fun ls hl112 => ?_)
                  refine lv_aload_n (pc := 110) E.1 E.2.1 dX2_readSum_110 rfl (lv_at hl112 4 rfl) ?_
                  refine ck_v (pc := 111) (ws' := (fun (u : Int32 × Int32 × Int32 × Int32) => (WZ_LawT cI cJ ad mr (upd (upd (upd (upd (upd (upd (upd mi 2 nsize_108) 14 u.1) 15 u.2.2.1) 16 u.2.2.2) 17 u.2.1) 18 x_51) 19 x_52) (va_up mf 1 gcode_107) mg))) [false, false, false, false, false, true, true] hw109 rfl (fun hC_ => (rn_V (As := []) (rest := []) E hw109 (t_step l D cI cJ _ (shf 10 mr) (shf 10 (upd (upd (upd (upd (upd (upd (upd mi 2 nsize_108) 14 x_47) 15 x_49) 16 x_50) 17 x_48) 18 x_51) 19 x_52)) (shf 10 (va_up mf 1 gcode_107)) (shf 10 mg) ad av tf h0 hi_54_0 hi_54_1 h3) (gdV q_877 q_723 q_724 q_160 q_725) hdV_X8_step ⟨rfl, rfl⟩ ⟨(Nat.le_of_ble_eq_true rfl), (Nat.le_of_ble_eq_true rfl)⟩ ⟨(Nat.le_of_ble_eq_true rfl), (Nat.le_of_ble_eq_true rfl)⟩ xT8_b (xT8_at hX hw109.2.2.1 (va_free hw109.2.1 hw109.2.2.1 hw109.2.2.2 _ hC_)) 5 8 rfl rfl rfl _ hC_ (nd_T _ 0) rfl hl112.1 rfl (Nat.le_of_ble_eq_true rfl) dX2_readSum_111)) rfl (fun _ => rfl) (fun _ => rfl) (fun u_113 H1 locs hp hw115 => ?_)
                  obtain ⟨nat_116, nplace_117, nkind_118, nvalue_119⟩ := u_113
                  generalize H1 = H at hw115 ⊢
                  have hw120 : WD D A s.heap (WZ_LawT cI cJ ad mr (upd (upd (upd (upd (upd (upd (upd mi 2 nsize_108) 14 nat_116) 15 nkind_118) 16 nvalue_119) 17 nplace_117) 18 x_51) 19 x_52) (va_up mf 1 gcode_107) mg) H locs := hw115
                  obtain ⟨hp_121, hp_122⟩ := hp
                  have hp_121 : 0 ≤ nat_116.toInt := hp_121
                  have hp_122 : nat_116.toInt ≤ (mi 12).toInt := hp_122
                  refine lv_aload_n (pc := 114) E.1 E.2.1 dX2_readSum_114 rfl (lv_at hl112 3 rfl) ?_
                  refine lv_aload_n (pc := 115) E.1 E.2.1 dX2_readSum_115 rfl (lv_at hl112 4 rfl) ?_
                  refine ck_v (pc := 116) (ws' := (fun (u : Int32 × Int32 × Int32 × Int32 × Int32 × Int32 × (Nat → Int32) × Int32) => (WZ_LawT cI cJ ad mr (upd (upd (upd (upd (upd (upd (upd mi 2 u.2.2.2.2.2.2.2) 14 u.1) 15 u.2.2.1) 16 u.2.2.2.1) 17 u.2.1) 18 u.2.2.2.2.1) 19 u.2.2.2.2.2.1) (va_up mf 1 u.2.2.2.2.2.2.1) mg))) [true, true, true, true, true, true, true] hw120 rfl (fun hC_ => (rn_V (As := [.ref (mr 10)]) (rest := []) E hw120 (t_readOperand l D cI cJ _ mr (upd (upd (upd (upd (upd (upd (upd mi 2 nsize_108) 14 nat_116) 15 nkind_118) 16 nvalue_119) 17 nplace_117) 18 x_51) 19 x_52) (va_up mf 1 gcode_107) mg ad av tf h0 hp_121 hp_122 h3 ⟨hi_54_2, hi_54_3⟩ ⟨hp_110, hp_111⟩) (gdV q_869 q_871 q_5 q_157 q_872) hdV_X2_readOperand ⟨rfl, rfl⟩ ⟨(Nat.le_of_ble_eq_true rfl), (Nat.le_of_ble_eq_true rfl)⟩ ⟨(Nat.le_of_ble_eq_true rfl), (Nat.le_of_ble_eq_true rfl)⟩ xT8_b (xT8_at hX hw120.2.2.1 (va_free hw120.2.1 hw120.2.2.1 hw120.2.2.2 _ hC_)) 0 2 rfl rfl rfl _ hC_ (nd_T _ 0) rfl hl112.1 rfl (Nat.le_of_ble_eq_true rfl) dX2_readSum_116)) rfl (fun _ => rfl) (fun _ => rfl) (fun u_123 H1 locs hp hw125 => ?_)
                  obtain ⟨ntat_126, ntplace_127, ntkind_128, ntvalue_129, ntfault_130, ntfaultPlace_131, gcode_132, nsize_133⟩ := u_123
                  generalize H1 = H at hw125 ⊢
                  have hw134 : WD D A s.heap (WZ_LawT cI cJ ad mr (upd (upd (upd (upd (upd (upd (upd mi 2 nsize_133) 14 ntat_126) 15 ntkind_128) 16 ntvalue_129) 17 ntplace_127) 18 ntfault_130) 19 ntfaultPlace_131) (va_up mf 1 gcode_132) mg) H locs := hw125
                  obtain ⟨hp_135, hp_136, hp_137, hp_138, hp_139, hp_140⟩ := hp
                  have hp_135 : 0 ≤ ntat_126.toInt := hp_135
                  have hp_136 : ntat_126.toInt ≤ (mi 12).toInt := hp_136
                  have hp_137 : 0 ≤ ntfault_130.toInt := hp_137
                  have hp_138 : ntfault_130.toInt ≤ 4 := hp_138
                  have hp_139 : 0 ≤ nsize_133.toInt := hp_139
                  have hp_140 : nsize_133.toInt ≤ 400 := hp_140
                  obtain ⟨v_141, ev_141⟩ : ∃ z : Int32, x_45 + Int32.ofInt (1) = z := ⟨_, rfl⟩
                  have hv_141 : v_141.toInt = x_45.toInt + (1) := by rw [← ev_141]; exact incE rfl (by decide) (by omega)
                  refine lv_iinc (pc := 119) (v := v_141) (lv' := [(3, .int v_141), (2, .int x_49), (4, .int x_49), (0, .ref (mr 0)), (1, .ref (mr 10))]) E.1 E.2.1 dX2_readSum_119 hl112 (k := 2) rfl ev_141 (by decide) rfl (fun ls hl142 => ?_)
                  refine lv_goto (pc := 122) (tgt := 9) E.1 E.2.1 dX2_readSum_122 (by decide) ?_
                  exact ih_55 v_141 x_49 ntat_126 ntplace_127 ntkind_128 ntvalue_129 ntfault_130 ntfaultPlace_131 nsize_133 gcode_132 _ _ _ ⟨hp_135, hp_136, hp_137, hp_138, hp_139, hp_140, (by show 0 ≤ v_141.toInt; omega), (by show v_141.toInt ≤ 401; omega)⟩ (by omega) hw134 (lv_sub hl142 [0, 1, 3, 4] rfl)
            · skip
              have hc_62 := eqE (a := x_49.toInt) (b := 47) rfl (by decide +kernel) c_62
              refine lv_aload_n (pc := 61) E.1 E.2.1 dX2_readSum_61 rfl (lv_at hl60 4 rfl) ?_
              refine ck_v (pc := 62) (ws' := (fun (u : Int32 × Int32 × Int32 × Int32) => (WZ_LawT cI cJ ad mr (upd (upd (upd (upd (upd (upd (upd mi 2 x_53) 14 u.1) 15 u.2.2.1) 16 u.2.2.2) 17 u.2.1) 18 x_51) 19 x_52) (va_up mf 1 g_54) mg))) [false, false, false, false, false, true, true] hw56 rfl (fun hC_ => (rn_V (As := []) (rest := []) E hw56 (t_step l D cI cJ _ (shf 10 mr) (shf 10 (upd (upd (upd (upd (upd (upd (upd mi 2 x_53) 14 x_47) 15 x_49) 16 x_50) 17 x_48) 18 x_51) 19 x_52)) (shf 10 (va_up mf 1 g_54)) (shf 10 mg) ad av tf h0 hi_54_0 hi_54_1 h3) (gdV q_877 q_723 q_724 q_160 q_725) hdV_X8_step ⟨rfl, rfl⟩ ⟨(Nat.le_of_ble_eq_true rfl), (Nat.le_of_ble_eq_true rfl)⟩ ⟨(Nat.le_of_ble_eq_true rfl), (Nat.le_of_ble_eq_true rfl)⟩ xT8_b (xT8_at hX hw56.2.2.1 (va_free hw56.2.1 hw56.2.2.1 hw56.2.2.2 _ hC_)) 5 8 rfl rfl rfl _ hC_ (nd_T _ 0) rfl hl60.1 rfl (Nat.le_of_ble_eq_true rfl) dX2_readSum_62)) rfl (fun _ => rfl) (fun _ => rfl) (fun u_143 H1 locs hp hw145 => ?_)
              obtain ⟨nat_146, nplace_147, nkind_148, nvalue_149⟩ := u_143
              generalize H1 = H at hw145 ⊢
              have hw150 : WD D A s.heap (WZ_LawT cI cJ ad mr (upd (upd (upd (upd (upd (upd (upd mi 2 x_53) 14 nat_146) 15 nkind_148) 16 nvalue_149) 17 nplace_147) 18 x_51) 19 x_52) (va_up mf 1 g_54) mg) H locs := hw145
              obtain ⟨hp_151, hp_152⟩ := hp
              have hp_151 : 0 ≤ nat_146.toInt := hp_151
              have hp_152 : nat_146.toInt ≤ (mi 12).toInt := hp_152
              refine lv_aload_n (pc := 65) E.1 E.2.1 dX2_readSum_65 rfl (lv_at hl60 3 rfl) ?_
              refine lv_iconst (pc := 66) (v := (-1)) E.1 E.2.1 dX2_readSum_66 (by decide +kernel) ?_
              refine lv_aload_n (pc := 67) E.1 E.2.1 dX2_readSum_67 rfl (lv_at hl60 4 rfl) ?_
              refine lv_iconst (pc := 68) (v := 1) E.1 E.2.1 dX2_readSum_68 (by decide +kernel) ?_
              refine lv_sipush (pc := 69) (v := 9999) E.1 E.2.1 dX2_readSum_69 (by decide +kernel) ?_
              refine ck_i (pc := 72) (ws' := (fun (u : Int32 × Int32 × Int32 × Int32 × Int32 × Int32) => (WZ_LawT cI cJ ad mr (upd (upd (upd (upd (upd (upd (upd mi 2 x_53) 14 u.1) 15 u.2.2.1) 16 u.2.2.2.1) 17 u.2.1) 18 u.2.2.2.2.1) 19 u.2.2.2.2.2) (va_up mf 1 g_54) mg))) [false, false, false, false, false, true, true] hw150 rfl (fun hC_ => (rn_V (As := [.int 1, .int 9999]) (rest := [.int (-1), .ref (mr 0)]) E hw150 (t_numberA l D cI cJ _ (shf 10 mr) (shf 10 (upd (upd (upd (upd (upd (upd (upd mi 2 x_53) 14 nat_146) 15 nkind_148) 16 nvalue_149) 17 nplace_147) 18 x_51) 19 x_52)) (shf 10 (va_up mf 1 g_54)) (shf 10 mg) 1 9999 ad av tf h0 hp_151 hp_152 h3 ⟨hi_54_2, hi_54_3⟩ (by show (1 : Int32).toInt ≤ (9999 : Int32).toInt; have k_0 : (1 : Int32).toInt = 1 := (by decide +kernel); have k_1 : (9999 : Int32).toInt = 9999 := (by decide +kernel); omega)) (gdV q_878 q_879 q_880 q_160 q_881) hdV_X8_number ⟨rfl, rfl⟩ ⟨(Nat.le_of_ble_eq_true rfl), (Nat.le_of_ble_eq_true rfl)⟩ ⟨(Nat.le_of_ble_eq_true rfl), (Nat.le_of_ble_eq_true rfl)⟩ xT8_b (xT8_at hX hw150.2.2.1 (va_free hw150.2.1 hw150.2.2.1 hw150.2.2.2 _ hC_)) 5 8 rfl rfl rfl _ hC_ (nd_T _ 0) rfl hl60.1 rfl (Nat.le_of_ble_eq_true rfl) dX2_readSum_72)) rfl (fun _ => rfl) (fun _ => rfl) (fun r_154 u_153 H1 locs hp hw155 => ?_)
              obtain ⟨nat_156, nplace_157, nkind_158, nvalue_159, nfault_160, nfaultPlace_161⟩ := u_153
              generalize H1 = H at hw155 ⊢
              have hw162 : WD D A s.heap (WZ_LawT cI cJ ad mr (upd (upd (upd (upd (upd (upd (upd mi 2 x_53) 14 nat_156) 15 nkind_158) 16 nvalue_159) 17 nplace_157) 18 nfault_160) 19 nfaultPlace_161) (va_up mf 1 g_54) mg) H locs := hw155
              obtain ⟨hp_163, hp_164, hp_165, hp_166, hp_167, hp_168⟩ := hp
              have hp_163 : 0 ≤ nat_156.toInt := hp_163
              have hp_164 : nat_156.toInt ≤ (mi 12).toInt := hp_164
              have hp_165 : 0 ≤ nfault_160.toInt := hp_165
              have hp_166 : nfault_160.toInt ≤ 4 := hp_166
              have hp_167 : (1 : Int32).toInt ≤ r_154.toInt := hp_167
              rw [show (1 : Int32).toInt = 1 from by decide +kernel] at hp_167
              have hp_168 : r_154.toInt ≤ (9999 : Int32).toInt := hp_168
              rw [show (9999 : Int32).toInt = 9999 from by decide +kernel] at hp_168
              refine lv_isub (pc := 75) E.1 E.2.1 dX2_readSum_75 ?_
              refine lv_topi (fun v_169 ev_169 => ?_)
              have hv_169 : v_169.toInt = (-1) - r_154.toInt := by rw [ev_169]; exact subE (by decide +kernel) rfl (by omega)
              refine ck_v (pc := 76) (ws' := (fun (u : (Nat → Int32) × Int32) => (WZ_LawT cI cJ ad mr (upd (upd (upd (upd (upd (upd (upd mi 2 u.2) 14 nat_156) 15 nkind_158) 16 nvalue_159) 17 nplace_157) 18 nfault_160) 19 nfaultPlace_161) (va_up mf 1 u.1) mg))) [true, true, true, true, true, false, false] hw162 rfl (fun hC_ => (rn_V (As := [.int v_169]) (rest := []) E hw162 (t_emit l D cI cJ _ mr (upd (upd (upd (upd (upd (upd (upd mi 2 x_53) 14 nat_156) 15 nkind_158) 16 nvalue_159) 17 nplace_157) 18 nfault_160) 19 nfaultPlace_161) (va_up mf 1 g_54) mg v_169 ⟨hi_54_4, hi_54_5⟩) (gdV q_873 q_875 q_6 q_157 q_876) hdV_X2_emit ⟨rfl, rfl⟩ ⟨(Nat.le_of_ble_eq_true rfl), (Nat.le_of_ble_eq_true rfl)⟩ ⟨(Nat.le_of_ble_eq_true rfl), (Nat.le_of_ble_eq_true rfl)⟩ xT_b xT_at 0 2 rfl rfl rfl _ hC_ (nd_T _ 0) rfl hl60.1 rfl (Nat.le_of_ble_eq_true rfl) dX2_readSum_76)) rfl (fun _ => rfl) (fun _ => rfl) (fun u_170 H1 locs hp hw172 => ?_)
              obtain ⟨gcode_173, nsize_174⟩ := u_170
              generalize H1 = H at hw172 ⊢
              have hw175 : WD D A s.heap (WZ_LawT cI cJ ad mr (upd (upd (upd (upd (upd (upd (upd mi 2 nsize_174) 14 nat_156) 15 nkind_158) 16 nvalue_159) 17 nplace_157) 18 nfault_160) 19 nfaultPlace_161) (va_up mf 1 gcode_173) mg) H locs := hw172
              obtain ⟨hp_176, hp_177⟩ := hp
              have hp_176 : 0 ≤ nsize_174.toInt := hp_176
              have hp_177 : nsize_174.toInt ≤ 400 := hp_177
              refine lv_aload_n (pc := 79) E.1 E.2.1 dX2_readSum_79 rfl (lv_at hl60 3 rfl) ?_
              refine lv_iload (pc := 80) E.1 E.2.1 dX2_readSum_80 (lv_at hl60 0 rfl) ?_
              refine ck_v (pc := 82) (ws' := (fun (u : (Nat → Int32) × Int32) => (WZ_LawT cI cJ ad mr (upd (upd (upd (upd (upd (upd (upd mi 2 u.2) 14 nat_156) 15 nkind_158) 16 nvalue_159) 17 nplace_157) 18 nfault_160) 19 nfaultPlace_161) (va_up mf 1 u.1) mg))) [true, true, true, true, true, false, false] hw175 rfl (fun hC_ => (rn_V (As := [.int x_49]) (rest := []) E hw175 (t_emit l D cI cJ _ mr (upd (upd (upd (upd (upd (upd (upd mi 2 nsize_174) 14 nat_156) 15 nkind_158) 16 nvalue_159) 17 nplace_157) 18 nfault_160) 19 nfaultPlace_161) (va_up mf 1 gcode_173) mg x_49 ⟨hp_176, hp_177⟩) (gdV q_873 q_875 q_6 q_157 q_876) hdV_X2_emit ⟨rfl, rfl⟩ ⟨(Nat.le_of_ble_eq_true rfl), (Nat.le_of_ble_eq_true rfl)⟩ ⟨(Nat.le_of_ble_eq_true rfl), (Nat.le_of_ble_eq_true rfl)⟩ xT_b xT_at 0 2 rfl rfl rfl _ hC_ (nd_T _ 0) rfl hl60.1 rfl (Nat.le_of_ble_eq_true rfl) dX2_readSum_82)) rfl (fun _ => rfl) (fun _ => rfl) (fun u_178 H1 locs hp hw180 => ?_)
              obtain ⟨gcode_181, nsize_182⟩ := u_178
              generalize H1 = H at hw180 ⊢
              have hw183 : WD D A s.heap (WZ_LawT cI cJ ad mr (upd (upd (upd (upd (upd (upd (upd mi 2 nsize_182) 14 nat_156) 15 nkind_158) 16 nvalue_159) 17 nplace_157) 18 nfault_160) 19 nfaultPlace_161) (va_up mf 1 gcode_181) mg) H locs := hw180
              obtain ⟨hp_184, hp_185⟩ := hp
              have hp_184 : 0 ≤ nsize_182.toInt := hp_184
              have hp_185 : nsize_182.toInt ≤ 400 := hp_185
              refine lv_goto (pc := 85) (tgt := 119) E.1 E.2.1 dX2_readSum_85 (by decide) ?_
              obtain ⟨v_186, ev_186⟩ : ∃ z : Int32, x_45 + Int32.ofInt (1) = z := ⟨_, rfl⟩
              have hv_186 : v_186.toInt = x_45.toInt + (1) := by rw [← ev_186]; exact incE rfl (by decide) (by omega)
              refine lv_iinc (pc := 119) (v := v_186) (lv' := [(3, .int v_186), (4, .int x_49), (2, .int x_46), (0, .ref (mr 0)), (1, .ref (mr 10))]) E.1 E.2.1 dX2_readSum_119 hl60 (k := 1) rfl ev_186 (by decide) rfl (fun ls hl187 => ?_)
              refine lv_goto (pc := 122) (tgt := 9) E.1 E.2.1 dX2_readSum_122 (by decide) ?_
              exact ih_55 v_186 x_46 nat_156 nplace_157 nkind_158 nvalue_159 nfault_160 nfaultPlace_161 nsize_182 gcode_181 _ _ _ ⟨hp_163, hp_164, hp_165, hp_166, hp_184, hp_185, (by show 0 ≤ v_186.toInt; omega), (by show v_186.toInt ≤ 401; omega)⟩ (by omega) hw183 (lv_sub hl187 [0, 2, 3, 4] rfl)
          · skip
            have hc_61 := eqE (a := x_49.toInt) (b := 42) rfl (by decide +kernel) c_61
            refine lv_aload_n (pc := 36) E.1 E.2.1 dX2_readSum_36 rfl (lv_at hl60 4 rfl) ?_
            refine ck_v (pc := 37) (ws' := (fun (u : Int32 × Int32 × Int32 × Int32) => (WZ_LawT cI cJ ad mr (upd (upd (upd (upd (upd (upd (upd mi 2 x_53) 14 u.1) 15 u.2.2.1) 16 u.2.2.2) 17 u.2.1) 18 x_51) 19 x_52) (va_up mf 1 g_54) mg))) [false, false, false, false, false, true, true] hw56 rfl (fun hC_ => (rn_V (As := []) (rest := []) E hw56 (t_step l D cI cJ _ (shf 10 mr) (shf 10 (upd (upd (upd (upd (upd (upd (upd mi 2 x_53) 14 x_47) 15 x_49) 16 x_50) 17 x_48) 18 x_51) 19 x_52)) (shf 10 (va_up mf 1 g_54)) (shf 10 mg) ad av tf h0 hi_54_0 hi_54_1 h3) (gdV q_877 q_723 q_724 q_160 q_725) hdV_X8_step ⟨rfl, rfl⟩ ⟨(Nat.le_of_ble_eq_true rfl), (Nat.le_of_ble_eq_true rfl)⟩ ⟨(Nat.le_of_ble_eq_true rfl), (Nat.le_of_ble_eq_true rfl)⟩ xT8_b (xT8_at hX hw56.2.2.1 (va_free hw56.2.1 hw56.2.2.1 hw56.2.2.2 _ hC_)) 5 8 rfl rfl rfl _ hC_ (nd_T _ 0) rfl hl60.1 rfl (Nat.le_of_ble_eq_true rfl) dX2_readSum_37)) rfl (fun _ => rfl) (fun _ => rfl) (fun u_188 H1 locs hp hw190 => ?_)
            obtain ⟨nat_191, nplace_192, nkind_193, nvalue_194⟩ := u_188
            generalize H1 = H at hw190 ⊢
            have hw195 : WD D A s.heap (WZ_LawT cI cJ ad mr (upd (upd (upd (upd (upd (upd (upd mi 2 x_53) 14 nat_191) 15 nkind_193) 16 nvalue_194) 17 nplace_192) 18 x_51) 19 x_52) (va_up mf 1 g_54) mg) H locs := hw190
            obtain ⟨hp_196, hp_197⟩ := hp
            have hp_196 : 0 ≤ nat_191.toInt := hp_196
            have hp_197 : nat_191.toInt ≤ (mi 12).toInt := hp_197
            refine lv_aload_n (pc := 40) E.1 E.2.1 dX2_readSum_40 rfl (lv_at hl60 3 rfl) ?_
            refine lv_aload_n (pc := 41) E.1 E.2.1 dX2_readSum_41 rfl (lv_at hl60 4 rfl) ?_
            refine ck_v (pc := 42) (ws' := (fun (u : Int32 × Int32 × Int32 × Int32 × Int32 × Int32 × (Nat → Int32) × Int32) => (WZ_LawT cI cJ ad mr (upd (upd (upd (upd (upd (upd (upd mi 2 u.2.2.2.2.2.2.2) 14 u.1) 15 u.2.2.1) 16 u.2.2.2.1) 17 u.2.1) 18 u.2.2.2.2.1) 19 u.2.2.2.2.2.1) (va_up mf 1 u.2.2.2.2.2.2.1) mg))) [true, true, true, true, true, true, true] hw195 rfl (fun hC_ => (rn_V (As := [.ref (mr 10)]) (rest := []) E hw195 (t_readOperand l D cI cJ _ mr (upd (upd (upd (upd (upd (upd (upd mi 2 x_53) 14 nat_191) 15 nkind_193) 16 nvalue_194) 17 nplace_192) 18 x_51) 19 x_52) (va_up mf 1 g_54) mg ad av tf h0 hp_196 hp_197 h3 ⟨hi_54_2, hi_54_3⟩ ⟨hi_54_4, hi_54_5⟩) (gdV q_869 q_871 q_5 q_157 q_872) hdV_X2_readOperand ⟨rfl, rfl⟩ ⟨(Nat.le_of_ble_eq_true rfl), (Nat.le_of_ble_eq_true rfl)⟩ ⟨(Nat.le_of_ble_eq_true rfl), (Nat.le_of_ble_eq_true rfl)⟩ xT8_b (xT8_at hX hw195.2.2.1 (va_free hw195.2.1 hw195.2.2.1 hw195.2.2.2 _ hC_)) 0 2 rfl rfl rfl _ hC_ (nd_T _ 0) rfl hl60.1 rfl (Nat.le_of_ble_eq_true rfl) dX2_readSum_42)) rfl (fun _ => rfl) (fun _ => rfl) (fun u_198 H1 locs hp hw200 => ?_)
            obtain ⟨ntat_201, ntplace_202, ntkind_203, ntvalue_204, ntfault_205, ntfaultPlace_206, gcode_207, nsize_208⟩ := u_198
            generalize H1 = H at hw200 ⊢
            have hw209 : WD D A s.heap (WZ_LawT cI cJ ad mr (upd (upd (upd (upd (upd (upd (upd mi 2 nsize_208) 14 ntat_201) 15 ntkind_203) 16 ntvalue_204) 17 ntplace_202) 18 ntfault_205) 19 ntfaultPlace_206) (va_up mf 1 gcode_207) mg) H locs := hw200
            obtain ⟨hp_210, hp_211, hp_212, hp_213, hp_214, hp_215⟩ := hp
            have hp_210 : 0 ≤ ntat_201.toInt := hp_210
            have hp_211 : ntat_201.toInt ≤ (mi 12).toInt := hp_211
            have hp_212 : 0 ≤ ntfault_205.toInt := hp_212
            have hp_213 : ntfault_205.toInt ≤ 4 := hp_213
            have hp_214 : 0 ≤ nsize_208.toInt := hp_214
            have hp_215 : nsize_208.toInt ≤ 400 := hp_215
            refine lv_aload_n (pc := 45) E.1 E.2.1 dX2_readSum_45 rfl (lv_at hl60 3 rfl) ?_
            refine lv_iload (pc := 46) E.1 E.2.1 dX2_readSum_46 (lv_at hl60 0 rfl) ?_
            refine ck_v (pc := 48) (ws' := (fun (u : (Nat → Int32) × Int32) => (WZ_LawT cI cJ ad mr (upd (upd (upd (upd (upd (upd (upd mi 2 u.2) 14 ntat_201) 15 ntkind_203) 16 ntvalue_204) 17 ntplace_202) 18 ntfault_205) 19 ntfaultPlace_206) (va_up mf 1 u.1) mg))) [true, true, true, true, true, false, false] hw209 rfl (fun hC_ => (rn_V (As := [.int x_49]) (rest := []) E hw209 (t_emit l D cI cJ _ mr (upd (upd (upd (upd (upd (upd (upd mi 2 nsize_208) 14 ntat_201) 15 ntkind_203) 16 ntvalue_204) 17 ntplace_202) 18 ntfault_205) 19 ntfaultPlace_206) (va_up mf 1 gcode_207) mg x_49 ⟨hp_214, hp_215⟩) (gdV q_873 q_875 q_6 q_157 q_876) hdV_X2_emit ⟨rfl, rfl⟩ ⟨(Nat.le_of_ble_eq_true rfl), (Nat.le_of_ble_eq_true rfl)⟩ ⟨(Nat.le_of_ble_eq_true rfl), (Nat.le_of_ble_eq_true rfl)⟩ xT_b xT_at 0 2 rfl rfl rfl _ hC_ (nd_T _ 0) rfl hl60.1 rfl (Nat.le_of_ble_eq_true rfl) dX2_readSum_48)) rfl (fun _ => rfl) (fun _ => rfl) (fun u_216 H1 locs hp hw218 => ?_)
            obtain ⟨gcode_219, nsize_220⟩ := u_216
            generalize H1 = H at hw218 ⊢
            have hw221 : WD D A s.heap (WZ_LawT cI cJ ad mr (upd (upd (upd (upd (upd (upd (upd mi 2 nsize_220) 14 ntat_201) 15 ntkind_203) 16 ntvalue_204) 17 ntplace_202) 18 ntfault_205) 19 ntfaultPlace_206) (va_up mf 1 gcode_219) mg) H locs := hw218
            obtain ⟨hp_222, hp_223⟩ := hp
            have hp_222 : 0 ≤ nsize_220.toInt := hp_222
            have hp_223 : nsize_220.toInt ≤ 400 := hp_223
            refine lv_goto (pc := 51) (tgt := 119) E.1 E.2.1 dX2_readSum_51 (by decide) ?_
            obtain ⟨v_224, ev_224⟩ : ∃ z : Int32, x_45 + Int32.ofInt (1) = z := ⟨_, rfl⟩
            have hv_224 : v_224.toInt = x_45.toInt + (1) := by rw [← ev_224]; exact incE rfl (by decide) (by omega)
            refine lv_iinc (pc := 119) (v := v_224) (lv' := [(3, .int v_224), (4, .int x_49), (2, .int x_46), (0, .ref (mr 0)), (1, .ref (mr 10))]) E.1 E.2.1 dX2_readSum_119 hl60 (k := 1) rfl ev_224 (by decide) rfl (fun ls hl225 => ?_)
            refine lv_goto (pc := 122) (tgt := 9) E.1 E.2.1 dX2_readSum_122 (by decide) ?_
            exact ih_55 v_224 x_46 ntat_201 ntplace_202 ntkind_203 ntvalue_204 ntfault_205 ntfaultPlace_206 nsize_220 gcode_219 _ _ _ ⟨hp_210, hp_211, hp_212, hp_213, hp_222, hp_223, (by show 0 ≤ v_224.toInt; omega), (by show v_224.toInt ≤ 401; omega)⟩ (by omega) hw221 (lv_sub hl225 [0, 2, 3, 4] rfl)
  exact loop_44 (Int.toNat (401 - 0) + 1) 0 0 ntat_28 ntplace_29 ntkind_30 ntvalue_31 ntfault_32 ntfaultPlace_33 nsize_35 gcode_34 _ _ _ ⟨hp_37, hp_38, hp_39, hp_40, hp_41, hp_42, (by show 0 ≤ (0 : Int32).toInt; have k_0 : (0 : Int32).toInt = 0 := (by decide +kernel); omega), (by show (0 : Int32).toInt ≤ 401; have k_0 : (0 : Int32).toInt = 0 := (by decide +kernel); omega)⟩ (by have k_0 : (0 : Int32).toInt = 0 := (by decide +kernel); have k_1 : (0 : Int32).toInt = 0 := (by decide +kernel); omega) hw36 (lv_sub hl43 [0, 1, 2, 3] rfl)
set_option maxHeartbeats 4000000 in
set_option maxRecDepth 100000 in
theorem t_openPart (l : Launch) (D : va_G) (cI cJ : ClassId) (sz : Nat) (mr : Nat → Nat) (mi : Nat → Int32) (mf : Nat → Nat → Int32) (mg : Nat → Nat → Int64)  (ad av : Nat → Nat) (tf : Value) (h0 : 0 ≤ (mi 12).toInt ∧ (mi 12).toInt ≤ 400) (h1 : 0 ≤ (mi 14).toInt) (h2 : (mi 14).toInt ≤ (mi 12).toInt) (h3 : 0 ≤ (mi 13).toInt ∧ (mi 13).toInt ≤ 6) (h4 : 0 ≤ (mi 18).toInt ∧ (mi 18).toInt ≤ 4) (h5 : 0 ≤ (mi 7).toInt) (h6 : (mi 7).toInt ≤ 64) : Met l yX2_openPart (Cond.code yX2_openPart cX2_openPart 2 none :: GW) ({ frames := 7, cells := 0, slots := 0, locals := 171 } : Room) (va_Pc [.ref (mr 0), .ref (mr 10)] (PW D cI cJ sz (WZ_LawT cI cJ ad mr mi mf mg) (xT8 ad av tf (va_A (WZ_LawT cI cJ ad mr mi mf mg) sz)))) (va_Qv (fun (u : Int32 × Int32 × Int32 × Int32 × Int32 × Int32 × Int32 × Int32 × (Nat → Int32) × Int32) => (0 ≤ u.1.toInt) ∧ (u.1.toInt ≤ (mi 12).toInt) ∧ (0 ≤ u.2.2.2.2.1.toInt) ∧ (u.2.2.2.2.1.toInt ≤ 4) ∧ (0 ≤ u.2.2.2.2.2.2.2.2.2.toInt) ∧ (u.2.2.2.2.2.2.2.2.2.toInt ≤ 64)) (fun u => QW D cI cJ (va_A (WZ_LawT cI cJ ad mr mi mf mg) sz) ((fun (u : Int32 × Int32 × Int32 × Int32 × Int32 × Int32 × Int32 × Int32 × (Nat → Int32) × Int32) => (WZ_LawT cI cJ ad mr (upd (upd (upd (upd (upd (upd (upd (upd (upd mi 14 u.1) 17 u.2.1) 15 u.2.2.1) 16 u.2.2.2.1) 18 u.2.2.2.2.1) 19 u.2.2.2.2.2.1) 9 u.2.2.2.2.2.2.1) 8 u.2.2.2.2.2.2.2.1) 7 u.2.2.2.2.2.2.2.2.2) (va_up mf 6 u.2.2.2.2.2.2.2.2.1) mg)) u)) (va_A (WZ_LawT cI cJ ad mr mi mf mg) sz)) 0 0 (va_A (WZ_LawT cI cJ ad mr mi mf mg) sz) := by
  refine mk_metA (X := fun A => xT8 ad av tf A) (y := yX2_openPart) (bytes := cX2_openPart) (maxL := 2) (avs := [.ref (mr 0), .ref (mr 10)]) (WS := (WZ_LawT cI cJ ad mr mi mf mg)) (Qf := fun A => va_Qv (fun (u : Int32 × Int32 × Int32 × Int32 × Int32 × Int32 × Int32 × Int32 × (Nat → Int32) × Int32) => (0 ≤ u.1.toInt) ∧ (u.1.toInt ≤ (mi 12).toInt) ∧ (0 ≤ u.2.2.2.2.1.toInt) ∧ (u.2.2.2.2.1.toInt ≤ 4) ∧ (0 ≤ u.2.2.2.2.2.2.2.2.2.toInt) ∧ (u.2.2.2.2.2.2.2.2.2.toInt ≤ 64)) (fun u => QW D cI cJ A ((fun (u : Int32 × Int32 × Int32 × Int32 × Int32 × Int32 × Int32 × Int32 × (Nat → Int32) × Int32) => (WZ_LawT cI cJ ad mr (upd (upd (upd (upd (upd (upd (upd (upd (upd mi 14 u.1) 17 u.2.1) 15 u.2.2.1) 16 u.2.2.2.1) 18 u.2.2.2.2.1) 19 u.2.2.2.2.2.1) 9 u.2.2.2.2.2.2.1) 8 u.2.2.2.2.2.2.2.1) 7 u.2.2.2.2.2.2.2.2.2) (va_up mf 6 u.2.2.2.2.2.2.2.2.1) mg)) u)) A) (by decide) (Nat.le_of_ble_eq_true rfl) ?_
  intro p e s m below meth c A ls E hr hlk hnm hX hw1 hl2
  have hl3 : lv_has ls 2 [(0, .ref (mr 0)), (1, .ref (mr 10))] := hl2
  refine lv_aload_n (pc := 0) E.1 E.2.1 dX2_openPart_0 rfl (lv_at hl3 0 rfl) ?_
  refine x_get (pc := 1) (T := TX2) (N := 9) (ci := 2) (v := .int (mi 9)) E hw1 inX2 0 8 q_393 rfl rfl (by decide) rfl rfl dX2_openPart_1 ?_
  refine lv_bipush (pc := 4) (v := 8) E.1 E.2.1 dX2_openPart_4 (by decide +kernel) ?_
  refine lv_icmp_lt (pc := 6) (tgt := 14) E.1 E.2.1 dX2_openPart_6 (by decide) (fun c_4 => ?_) (fun c_4 => ?_)
  · skip
    have hc_4 := ltE (a := (mi 9).toInt) (b := 8) rfl (by decide +kernel) c_4
    refine lv_aload_n (pc := 14) E.1 E.2.1 dX2_openPart_14 rfl (lv_at hl3 0 rfl) ?_
    refine lv_dup (pc := 15) E.1 E.2.1 dX2_openPart_15 rfl ?_
    refine x_get (pc := 16) (T := TX2) (N := 9) (ci := 2) (v := .int (mi 9)) E hw1 inX2 0 8 q_393 rfl rfl (by decide) rfl rfl dX2_openPart_16 ?_
    refine lv_iconst (pc := 19) (v := 1) E.1 E.2.1 dX2_openPart_19 (by decide +kernel) ?_
    refine lv_iadd (pc := 20) E.1 E.2.1 dX2_openPart_20 ?_
    refine lv_topi (fun v_5 ev_5 => ?_)
    refine x_put (pc := 21) (T := TX2) (N := 9) (ci := 2) (ws' := (WZ_LawT cI cJ ad mr (upd mi 9 v_5) mf mg)) E hw1 inX2 tyX2_ok nmX2 0 8 q_393 rfl rfl (by decide) rfl rfl rfl rfl (Nat.le_of_ble_eq_true rfl) rfl dX2_openPart_21 (fun H locs hw6 => ?_)
    refine lv_aload_n (pc := 24) E.1 E.2.1 dX2_openPart_24 rfl (lv_at hl3 1 rfl) ?_
    refine x_get (pc := 25) (T := TX8) (N := 9) (ci := 8) (v := .int (mi 15)) E hw6 inX8 5 4 q_545 rfl rfl (by decide) rfl rfl dX2_openPart_25 ?_
    refine lv_bipush (pc := 28) (v := 40) E.1 E.2.1 dX2_openPart_28 (by decide +kernel) ?_
    refine lv_icmp_ne (pc := 30) (tgt := 43) E.1 E.2.1 dX2_openPart_30 (by decide) (fun c_7 => ?_) (fun c_7 => ?_)
    · skip
      have hc_7 := neE (a := (mi 15).toInt) (b := 40) rfl (by decide +kernel) c_7
      refine lv_aload_n (pc := 43) E.1 E.2.1 dX2_openPart_43 rfl (lv_at hl3 0 rfl) ?_
      refine lv_aload_n (pc := 44) E.1 E.2.1 dX2_openPart_44 rfl (lv_at hl3 1 rfl) ?_
      refine x_get (pc := 45) (T := TX8) (N := 9) (ci := 8) (v := .int (mi 15)) E hw6 inX8 5 4 q_545 rfl rfl (by decide) rfl rfl dX2_openPart_45 ?_
      refine ck_v (pc := 48) (ws' := (fun (u : (Nat → Int32) × Int32) => (WZ_LawT cI cJ ad mr (upd (upd mi 7 u.2) 9 v_5) (va_up mf 6 u.1) mg))) [true, true, true, true, true, false, false] hw6 rfl (fun hC_ => (rn_V (As := [.int (mi 15)]) (rest := []) E hw6 (t_hold l D cI cJ _ mr (upd mi 9 v_5) mf mg (mi 15) ⟨h5, h6⟩) (gdV q_890 q_892 q_9 q_157 q_893) hdV_X2_hold ⟨rfl, rfl⟩ ⟨(Nat.le_of_ble_eq_true rfl), (Nat.le_of_ble_eq_true rfl)⟩ ⟨(Nat.le_of_ble_eq_true rfl), (Nat.le_of_ble_eq_true rfl)⟩ xT_b xT_at 0 2 rfl rfl rfl _ hC_ (nd_T _ 0) rfl hl3.1 rfl (Nat.le_of_ble_eq_true rfl) dX2_openPart_48)) rfl (fun _ => rfl) (fun _ => rfl) (fun u_8 H1 locs hp hw10 => ?_)
      obtain ⟨gheld_11, nholding_12⟩ := u_8
      generalize H1 = H at hw10 ⊢
      have hw13 : WD D A s.heap (WZ_LawT cI cJ ad mr (upd (upd mi 7 nholding_12) 9 v_5) (va_up mf 6 gheld_11) mg) H locs := hw10
      obtain ⟨hp_14, hp_15⟩ := hp
      have hp_14 : 0 ≤ nholding_12.toInt := hp_14
      have hp_15 : nholding_12.toInt ≤ 64 := hp_15
      refine lv_aload_n (pc := 51) E.1 E.2.1 dX2_openPart_51 rfl (lv_at hl3 1 rfl) ?_
      refine ck_v (pc := 52) (ws' := (fun (u : Int32 × Int32 × Int32 × Int32) => (WZ_LawT cI cJ ad mr (upd (upd (upd (upd (upd (upd mi 7 nholding_12) 9 v_5) 14 u.1) 15 u.2.2.1) 16 u.2.2.2) 17 u.2.1) (va_up mf 6 gheld_11) mg))) [false, false, false, false, false, true, true] hw13 rfl (fun hC_ => (rn_V (As := []) (rest := []) E hw13 (t_step l D cI cJ _ (shf 10 mr) (shf 10 (upd (upd mi 7 nholding_12) 9 v_5)) (shf 10 (va_up mf 6 gheld_11)) (shf 10 mg) ad av tf h0 h1 h2 h3) (gdV q_877 q_723 q_724 q_160 q_725) hdV_X8_step ⟨rfl, rfl⟩ ⟨(Nat.le_of_ble_eq_true rfl), (Nat.le_of_ble_eq_true rfl)⟩ ⟨(Nat.le_of_ble_eq_true rfl), (Nat.le_of_ble_eq_true rfl)⟩ xT8_b (xT8_at hX hw13.2.2.1 (va_free hw13.2.1 hw13.2.2.1 hw13.2.2.2 _ hC_)) 5 8 rfl rfl rfl _ hC_ (nd_T _ 0) rfl hl3.1 rfl (Nat.le_of_ble_eq_true rfl) dX2_openPart_52)) rfl (fun _ => rfl) (fun _ => rfl) (fun u_16 H1 locs hp hw18 => ?_)
      obtain ⟨nat_19, nplace_20, nkind_21, nvalue_22⟩ := u_16
      generalize H1 = H at hw18 ⊢
      have hw23 : WD D A s.heap (WZ_LawT cI cJ ad mr (upd (upd (upd (upd (upd (upd mi 7 nholding_12) 9 v_5) 14 nat_19) 15 nkind_21) 16 nvalue_22) 17 nplace_20) (va_up mf 6 gheld_11) mg) H locs := hw18
      obtain ⟨hp_24, hp_25⟩ := hp
      have hp_24 : 0 ≤ nat_19.toInt := hp_24
      have hp_25 : nat_19.toInt ≤ (mi 12).toInt := hp_25
      exact em_v (w1 := (fun (u : Int32 × Int32 × Int32 × Int32 × Int32 × Int32 × Int32 × Int32 × (Nat → Int32) × Int32) => (WZ_LawT cI cJ ad mr (upd (upd (upd (upd (upd (upd (upd (upd (upd mi 14 u.1) 17 u.2.1) 15 u.2.2.1) 16 u.2.2.2.1) 18 u.2.2.2.2.1) 19 u.2.2.2.2.2.1) 9 u.2.2.2.2.2.2.1) 8 u.2.2.2.2.2.2.2.1) 7 u.2.2.2.2.2.2.2.2.2) (va_up mf 6 u.2.2.2.2.2.2.2.2.1) mg))) E hr hlk (nat_19, nplace_20, nkind_21, nvalue_22, (mi 18), (mi 19), v_5, (mi 8), gheld_11, nholding_12) hw23 ⟨hp_24, hp_25, h4.1, h4.2, hp_14, hp_15⟩ (Nat.le_of_ble_eq_true rfl) (Nat.le_of_ble_eq_true rfl) dX2_openPart_55
    · skip
      have hc_7 := eqE (a := (mi 15).toInt) (b := 40) rfl (by decide +kernel) c_7
      refine lv_aload_n (pc := 33) E.1 E.2.1 dX2_openPart_33 rfl (lv_at hl3 0 rfl) ?_
      refine lv_dup (pc := 34) E.1 E.2.1 dX2_openPart_34 rfl ?_
      refine x_get (pc := 35) (T := TX2) (N := 9) (ci := 2) (v := .int (mi 8)) E hw6 inX2 0 7 q_392 rfl rfl (by decide) rfl rfl dX2_openPart_35 ?_
      refine lv_iconst (pc := 38) (v := 1) E.1 E.2.1 dX2_openPart_38 (by decide +kernel) ?_
      refine lv_iadd (pc := 39) E.1 E.2.1 dX2_openPart_39 ?_
      refine lv_topi (fun v_26 ev_26 => ?_)
      refine x_put (pc := 40) (T := TX2) (N := 9) (ci := 2) (ws' := (WZ_LawT cI cJ ad mr (upd (upd mi 8 v_26) 9 v_5) mf mg)) E hw6 inX2 tyX2_ok nmX2 0 7 q_392 rfl rfl (by decide) rfl rfl rfl rfl (Nat.le_of_ble_eq_true rfl) rfl dX2_openPart_40 (fun H locs hw27 => ?_)
      refine lv_aload_n (pc := 43) E.1 E.2.1 dX2_openPart_43 rfl (lv_at hl3 0 rfl) ?_
      refine lv_aload_n (pc := 44) E.1 E.2.1 dX2_openPart_44 rfl (lv_at hl3 1 rfl) ?_
      refine x_get (pc := 45) (T := TX8) (N := 9) (ci := 8) (v := .int (mi 15)) E hw27 inX8 5 4 q_545 rfl rfl (by decide) rfl rfl dX2_openPart_45 ?_
      refine ck_v (pc := 48) (ws' := (fun (u : (Nat → Int32) × Int32) => (WZ_LawT cI cJ ad mr (upd (upd (upd mi 7 u.2) 8 v_26) 9 v_5) (va_up mf 6 u.1) mg))) [true, true, true, true, true, false, false] hw27 rfl (fun hC_ => (rn_V (As := [.int (mi 15)]) (rest := []) E hw27 (t_hold l D cI cJ _ mr (upd (upd mi 8 v_26) 9 v_5) mf mg (mi 15) ⟨h5, h6⟩) (gdV q_890 q_892 q_9 q_157 q_893) hdV_X2_hold ⟨rfl, rfl⟩ ⟨(Nat.le_of_ble_eq_true rfl), (Nat.le_of_ble_eq_true rfl)⟩ ⟨(Nat.le_of_ble_eq_true rfl), (Nat.le_of_ble_eq_true rfl)⟩ xT_b xT_at 0 2 rfl rfl rfl _ hC_ (nd_T _ 0) rfl hl3.1 rfl (Nat.le_of_ble_eq_true rfl) dX2_openPart_48)) rfl (fun _ => rfl) (fun _ => rfl) (fun u_28 H1 locs hp hw30 => ?_)
      obtain ⟨gheld_31, nholding_32⟩ := u_28
      generalize H1 = H at hw30 ⊢
      have hw33 : WD D A s.heap (WZ_LawT cI cJ ad mr (upd (upd (upd mi 7 nholding_32) 8 v_26) 9 v_5) (va_up mf 6 gheld_31) mg) H locs := hw30
      obtain ⟨hp_34, hp_35⟩ := hp
      have hp_34 : 0 ≤ nholding_32.toInt := hp_34
      have hp_35 : nholding_32.toInt ≤ 64 := hp_35
      refine lv_aload_n (pc := 51) E.1 E.2.1 dX2_openPart_51 rfl (lv_at hl3 1 rfl) ?_
      refine ck_v (pc := 52) (ws' := (fun (u : Int32 × Int32 × Int32 × Int32) => (WZ_LawT cI cJ ad mr (upd (upd (upd (upd (upd (upd (upd mi 7 nholding_32) 8 v_26) 9 v_5) 14 u.1) 15 u.2.2.1) 16 u.2.2.2) 17 u.2.1) (va_up mf 6 gheld_31) mg))) [false, false, false, false, false, true, true] hw33 rfl (fun hC_ => (rn_V (As := []) (rest := []) E hw33 (t_step l D cI cJ _ (shf 10 mr) (shf 10 (upd (upd (upd mi 7 nholding_32) 8 v_26) 9 v_5)) (shf 10 (va_up mf 6 gheld_31)) (shf 10 mg) ad av tf h0 h1 h2 h3) (gdV q_877 q_723 q_724 q_160 q_725) hdV_X8_step ⟨rfl, rfl⟩ ⟨(Nat.le_of_ble_eq_true rfl), (Nat.le_of_ble_eq_true rfl)⟩ ⟨(Nat.le_of_ble_eq_true rfl), (Nat.le_of_ble_eq_true rfl)⟩ xT8_b (xT8_at hX hw33.2.2.1 (va_free hw33.2.1 hw33.2.2.1 hw33.2.2.2 _ hC_)) 5 8 rfl rfl rfl _ hC_ (nd_T _ 0) rfl hl3.1 rfl (Nat.le_of_ble_eq_true rfl) dX2_openPart_52)) rfl (fun _ => rfl) (fun _ => rfl) (fun u_36 H1 locs hp hw38 => ?_)
      obtain ⟨nat_39, nplace_40, nkind_41, nvalue_42⟩ := u_36
      generalize H1 = H at hw38 ⊢
      have hw43 : WD D A s.heap (WZ_LawT cI cJ ad mr (upd (upd (upd (upd (upd (upd (upd mi 7 nholding_32) 8 v_26) 9 v_5) 14 nat_39) 15 nkind_41) 16 nvalue_42) 17 nplace_40) (va_up mf 6 gheld_31) mg) H locs := hw38
      obtain ⟨hp_44, hp_45⟩ := hp
      have hp_44 : 0 ≤ nat_39.toInt := hp_44
      have hp_45 : nat_39.toInt ≤ (mi 12).toInt := hp_45
      exact em_v (w1 := (fun (u : Int32 × Int32 × Int32 × Int32 × Int32 × Int32 × Int32 × Int32 × (Nat → Int32) × Int32) => (WZ_LawT cI cJ ad mr (upd (upd (upd (upd (upd (upd (upd (upd (upd mi 14 u.1) 17 u.2.1) 15 u.2.2.1) 16 u.2.2.2.1) 18 u.2.2.2.2.1) 19 u.2.2.2.2.2.1) 9 u.2.2.2.2.2.2.1) 8 u.2.2.2.2.2.2.2.1) 7 u.2.2.2.2.2.2.2.2.2) (va_up mf 6 u.2.2.2.2.2.2.2.2.1) mg))) E hr hlk (nat_39, nplace_40, nkind_41, nvalue_42, (mi 18), (mi 19), v_5, v_26, gheld_31, nholding_32) hw43 ⟨hp_44, hp_45, h4.1, h4.2, hp_34, hp_35⟩ (Nat.le_of_ble_eq_true rfl) (Nat.le_of_ble_eq_true rfl) dX2_openPart_55
  · skip
    have hc_4 := nltE (a := (mi 9).toInt) (b := 8) rfl (by decide +kernel) c_4
    refine lv_aload_n (pc := 9) E.1 E.2.1 dX2_openPart_9 rfl (lv_at hl3 1 rfl) ?_
    refine lv_iconst (pc := 10) (v := 3) E.1 E.2.1 dX2_openPart_10 (by decide +kernel) ?_
    refine ck_v (pc := 11) (ws' := (fun (u : Int32 × Int32) => (WZ_LawT cI cJ ad mr (upd (upd mi 18 u.1) 19 u.2) mf mg))) [false, false, false, false, false, true, true] hw1 rfl (fun hC_ => (rn_V (As := [.int 3]) (rest := []) E hw1 (t_refuse l D cI cJ _ (shf 10 mr) (shf 10 mi) (shf 10 mf) (shf 10 mg) 3 ad (by show 1 ≤ (3 : Int32).toInt ∧ (3 : Int32).toInt ≤ 4; have k_0 : (3 : Int32).toInt = 3 := (by decide +kernel); omega) h4) (gdV q_856 q_857 q_858 q_160 q_859) hdV_X8_refuse ⟨rfl, rfl⟩ ⟨(Nat.le_of_ble_eq_true rfl), (Nat.le_of_ble_eq_true rfl)⟩ ⟨(Nat.le_of_ble_eq_true rfl), (Nat.le_of_ble_eq_true rfl)⟩ xT_b xT_at 5 8 rfl rfl rfl _ hC_ (nd_T _ 0) rfl hl3.1 rfl (Nat.le_of_ble_eq_true rfl) dX2_openPart_11)) rfl (fun _ => rfl) (fun _ => rfl) (fun u_46 H1 locs hp hw48 => ?_)
    obtain ⟨nfault_49, nfaultPlace_50⟩ := u_46
    generalize H1 = H at hw48 ⊢
    have hw51 : WD D A s.heap (WZ_LawT cI cJ ad mr (upd (upd mi 18 nfault_49) 19 nfaultPlace_50) mf mg) H locs := hw48
    obtain ⟨hp_52, hp_53⟩ := hp
    have hp_52 : 1 ≤ nfault_49.toInt := hp_52
    have hp_53 : nfault_49.toInt ≤ 4 := hp_53
    refine lv_aload_n (pc := 14) E.1 E.2.1 dX2_openPart_14 rfl (lv_at hl3 0 rfl) ?_
    refine lv_dup (pc := 15) E.1 E.2.1 dX2_openPart_15 rfl ?_
    refine x_get (pc := 16) (T := TX2) (N := 9) (ci := 2) (v := .int (mi 9)) E hw51 inX2 0 8 q_393 rfl rfl (by decide) rfl rfl dX2_openPart_16 ?_
    refine lv_iconst (pc := 19) (v := 1) E.1 E.2.1 dX2_openPart_19 (by decide +kernel) ?_
    refine lv_iadd (pc := 20) E.1 E.2.1 dX2_openPart_20 ?_
    refine lv_topi (fun v_54 ev_54 => ?_)
    refine x_put (pc := 21) (T := TX2) (N := 9) (ci := 2) (ws' := (WZ_LawT cI cJ ad mr (upd (upd (upd mi 9 v_54) 18 nfault_49) 19 nfaultPlace_50) mf mg)) E hw51 inX2 tyX2_ok nmX2 0 8 q_393 rfl rfl (by decide) rfl rfl rfl rfl (Nat.le_of_ble_eq_true rfl) rfl dX2_openPart_21 (fun H locs hw55 => ?_)
    refine lv_aload_n (pc := 24) E.1 E.2.1 dX2_openPart_24 rfl (lv_at hl3 1 rfl) ?_
    refine x_get (pc := 25) (T := TX8) (N := 9) (ci := 8) (v := .int (mi 15)) E hw55 inX8 5 4 q_545 rfl rfl (by decide) rfl rfl dX2_openPart_25 ?_
    refine lv_bipush (pc := 28) (v := 40) E.1 E.2.1 dX2_openPart_28 (by decide +kernel) ?_
    refine lv_icmp_ne (pc := 30) (tgt := 43) E.1 E.2.1 dX2_openPart_30 (by decide) (fun c_56 => ?_) (fun c_56 => ?_)
    · skip
      have hc_56 := neE (a := (mi 15).toInt) (b := 40) rfl (by decide +kernel) c_56
      refine lv_aload_n (pc := 43) E.1 E.2.1 dX2_openPart_43 rfl (lv_at hl3 0 rfl) ?_
      refine lv_aload_n (pc := 44) E.1 E.2.1 dX2_openPart_44 rfl (lv_at hl3 1 rfl) ?_
      refine x_get (pc := 45) (T := TX8) (N := 9) (ci := 8) (v := .int (mi 15)) E hw55 inX8 5 4 q_545 rfl rfl (by decide) rfl rfl dX2_openPart_45 ?_
      refine ck_v (pc := 48) (ws' := (fun (u : (Nat → Int32) × Int32) => (WZ_LawT cI cJ ad mr (upd (upd (upd (upd mi 7 u.2) 9 v_54) 18 nfault_49) 19 nfaultPlace_50) (va_up mf 6 u.1) mg))) [true, true, true, true, true, false, false] hw55 rfl (fun hC_ => (rn_V (As := [.int (mi 15)]) (rest := []) E hw55 (t_hold l D cI cJ _ mr (upd (upd (upd mi 9 v_54) 18 nfault_49) 19 nfaultPlace_50) mf mg (mi 15) ⟨h5, h6⟩) (gdV q_890 q_892 q_9 q_157 q_893) hdV_X2_hold ⟨rfl, rfl⟩ ⟨(Nat.le_of_ble_eq_true rfl), (Nat.le_of_ble_eq_true rfl)⟩ ⟨(Nat.le_of_ble_eq_true rfl), (Nat.le_of_ble_eq_true rfl)⟩ xT_b xT_at 0 2 rfl rfl rfl _ hC_ (nd_T _ 0) rfl hl3.1 rfl (Nat.le_of_ble_eq_true rfl) dX2_openPart_48)) rfl (fun _ => rfl) (fun _ => rfl) (fun u_57 H1 locs hp hw59 => ?_)
      obtain ⟨gheld_60, nholding_61⟩ := u_57
      generalize H1 = H at hw59 ⊢
      have hw62 : WD D A s.heap (WZ_LawT cI cJ ad mr (upd (upd (upd (upd mi 7 nholding_61) 9 v_54) 18 nfault_49) 19 nfaultPlace_50) (va_up mf 6 gheld_60) mg) H locs := hw59
      obtain ⟨hp_63, hp_64⟩ := hp
      have hp_63 : 0 ≤ nholding_61.toInt := hp_63
      have hp_64 : nholding_61.toInt ≤ 64 := hp_64
      refine lv_aload_n (pc := 51) E.1 E.2.1 dX2_openPart_51 rfl (lv_at hl3 1 rfl) ?_
      refine ck_v (pc := 52) (ws' := (fun (u : Int32 × Int32 × Int32 × Int32) => (WZ_LawT cI cJ ad mr (upd (upd (upd (upd (upd (upd (upd (upd mi 7 nholding_61) 9 v_54) 14 u.1) 15 u.2.2.1) 16 u.2.2.2) 17 u.2.1) 18 nfault_49) 19 nfaultPlace_50) (va_up mf 6 gheld_60) mg))) [false, false, false, false, false, true, true] hw62 rfl (fun hC_ => (rn_V (As := []) (rest := []) E hw62 (t_step l D cI cJ _ (shf 10 mr) (shf 10 (upd (upd (upd (upd mi 7 nholding_61) 9 v_54) 18 nfault_49) 19 nfaultPlace_50)) (shf 10 (va_up mf 6 gheld_60)) (shf 10 mg) ad av tf h0 h1 h2 h3) (gdV q_877 q_723 q_724 q_160 q_725) hdV_X8_step ⟨rfl, rfl⟩ ⟨(Nat.le_of_ble_eq_true rfl), (Nat.le_of_ble_eq_true rfl)⟩ ⟨(Nat.le_of_ble_eq_true rfl), (Nat.le_of_ble_eq_true rfl)⟩ xT8_b (xT8_at hX hw62.2.2.1 (va_free hw62.2.1 hw62.2.2.1 hw62.2.2.2 _ hC_)) 5 8 rfl rfl rfl _ hC_ (nd_T _ 0) rfl hl3.1 rfl (Nat.le_of_ble_eq_true rfl) dX2_openPart_52)) rfl (fun _ => rfl) (fun _ => rfl) (fun u_65 H1 locs hp hw67 => ?_)
      obtain ⟨nat_68, nplace_69, nkind_70, nvalue_71⟩ := u_65
      generalize H1 = H at hw67 ⊢
      have hw72 : WD D A s.heap (WZ_LawT cI cJ ad mr (upd (upd (upd (upd (upd (upd (upd (upd mi 7 nholding_61) 9 v_54) 14 nat_68) 15 nkind_70) 16 nvalue_71) 17 nplace_69) 18 nfault_49) 19 nfaultPlace_50) (va_up mf 6 gheld_60) mg) H locs := hw67
      obtain ⟨hp_73, hp_74⟩ := hp
      have hp_73 : 0 ≤ nat_68.toInt := hp_73
      have hp_74 : nat_68.toInt ≤ (mi 12).toInt := hp_74
      exact em_v (w1 := (fun (u : Int32 × Int32 × Int32 × Int32 × Int32 × Int32 × Int32 × Int32 × (Nat → Int32) × Int32) => (WZ_LawT cI cJ ad mr (upd (upd (upd (upd (upd (upd (upd (upd (upd mi 14 u.1) 17 u.2.1) 15 u.2.2.1) 16 u.2.2.2.1) 18 u.2.2.2.2.1) 19 u.2.2.2.2.2.1) 9 u.2.2.2.2.2.2.1) 8 u.2.2.2.2.2.2.2.1) 7 u.2.2.2.2.2.2.2.2.2) (va_up mf 6 u.2.2.2.2.2.2.2.2.1) mg))) E hr hlk (nat_68, nplace_69, nkind_70, nvalue_71, nfault_49, nfaultPlace_50, v_54, (mi 8), gheld_60, nholding_61) hw72 ⟨hp_73, hp_74, (by show 0 ≤ nfault_49.toInt; omega), hp_53, hp_63, hp_64⟩ (Nat.le_of_ble_eq_true rfl) (Nat.le_of_ble_eq_true rfl) dX2_openPart_55
    · skip
      have hc_56 := eqE (a := (mi 15).toInt) (b := 40) rfl (by decide +kernel) c_56
      refine lv_aload_n (pc := 33) E.1 E.2.1 dX2_openPart_33 rfl (lv_at hl3 0 rfl) ?_
      refine lv_dup (pc := 34) E.1 E.2.1 dX2_openPart_34 rfl ?_
      refine x_get (pc := 35) (T := TX2) (N := 9) (ci := 2) (v := .int (mi 8)) E hw55 inX2 0 7 q_392 rfl rfl (by decide) rfl rfl dX2_openPart_35 ?_
      refine lv_iconst (pc := 38) (v := 1) E.1 E.2.1 dX2_openPart_38 (by decide +kernel) ?_
      refine lv_iadd (pc := 39) E.1 E.2.1 dX2_openPart_39 ?_
      refine lv_topi (fun v_75 ev_75 => ?_)
      refine x_put (pc := 40) (T := TX2) (N := 9) (ci := 2) (ws' := (WZ_LawT cI cJ ad mr (upd (upd (upd (upd mi 8 v_75) 9 v_54) 18 nfault_49) 19 nfaultPlace_50) mf mg)) E hw55 inX2 tyX2_ok nmX2 0 7 q_392 rfl rfl (by decide) rfl rfl rfl rfl (Nat.le_of_ble_eq_true rfl) rfl dX2_openPart_40 (fun H locs hw76 => ?_)
      refine lv_aload_n (pc := 43) E.1 E.2.1 dX2_openPart_43 rfl (lv_at hl3 0 rfl) ?_
      refine lv_aload_n (pc := 44) E.1 E.2.1 dX2_openPart_44 rfl (lv_at hl3 1 rfl) ?_
      refine x_get (pc := 45) (T := TX8) (N := 9) (ci := 8) (v := .int (mi 15)) E hw76 inX8 5 4 q_545 rfl rfl (by decide) rfl rfl dX2_openPart_45 ?_
      refine ck_v (pc := 48) (ws' := (fun (u : (Nat → Int32) × Int32) => (WZ_LawT cI cJ ad mr (upd (upd (upd (upd (upd mi 7 u.2) 8 v_75) 9 v_54) 18 nfault_49) 19 nfaultPlace_50) (va_up mf 6 u.1) mg))) [true, true, true, true, true, false, false] hw76 rfl (fun hC_ => (rn_V (As := [.int (mi 15)]) (rest := []) E hw76 (t_hold l D cI cJ _ mr (upd (upd (upd (upd mi 8 v_75) 9 v_54) 18 nfault_49) 19 nfaultPlace_50) mf mg (mi 15) ⟨h5, h6⟩) (gdV q_890 q_892 q_9 q_157 q_893) hdV_X2_hold ⟨rfl, rfl⟩ ⟨(Nat.le_of_ble_eq_true rfl), (Nat.le_of_ble_eq_true rfl)⟩ ⟨(Nat.le_of_ble_eq_true rfl), (Nat.le_of_ble_eq_true rfl)⟩ xT_b xT_at 0 2 rfl rfl rfl _ hC_ (nd_T _ 0) rfl hl3.1 rfl (Nat.le_of_ble_eq_true rfl) dX2_openPart_48)) rfl (fun _ => rfl) (fun _ => rfl) (fun u_77 H1 locs hp hw79 => ?_)
      obtain ⟨gheld_80, nholding_81⟩ := u_77
      generalize H1 = H at hw79 ⊢
      have hw82 : WD D A s.heap (WZ_LawT cI cJ ad mr (upd (upd (upd (upd (upd mi 7 nholding_81) 8 v_75) 9 v_54) 18 nfault_49) 19 nfaultPlace_50) (va_up mf 6 gheld_80) mg) H locs := hw79
      obtain ⟨hp_83, hp_84⟩ := hp
      have hp_83 : 0 ≤ nholding_81.toInt := hp_83
      have hp_84 : nholding_81.toInt ≤ 64 := hp_84
      refine lv_aload_n (pc := 51) E.1 E.2.1 dX2_openPart_51 rfl (lv_at hl3 1 rfl) ?_
      refine ck_v (pc := 52) (ws' := (fun (u : Int32 × Int32 × Int32 × Int32) => (WZ_LawT cI cJ ad mr (upd (upd (upd (upd (upd (upd (upd (upd (upd mi 7 nholding_81) 8 v_75) 9 v_54) 14 u.1) 15 u.2.2.1) 16 u.2.2.2) 17 u.2.1) 18 nfault_49) 19 nfaultPlace_50) (va_up mf 6 gheld_80) mg))) [false, false, false, false, false, true, true] hw82 rfl (fun hC_ => (rn_V (As := []) (rest := []) E hw82 (t_step l D cI cJ _ (shf 10 mr) (shf 10 (upd (upd (upd (upd (upd mi 7 nholding_81) 8 v_75) 9 v_54) 18 nfault_49) 19 nfaultPlace_50)) (shf 10 (va_up mf 6 gheld_80)) (shf 10 mg) ad av tf h0 h1 h2 h3) (gdV q_877 q_723 q_724 q_160 q_725) hdV_X8_step ⟨rfl, rfl⟩ ⟨(Nat.le_of_ble_eq_true rfl), (Nat.le_of_ble_eq_true rfl)⟩ ⟨(Nat.le_of_ble_eq_true rfl), (Nat.le_of_ble_eq_true rfl)⟩ xT8_b (xT8_at hX hw82.2.2.1 (va_free hw82.2.1 hw82.2.2.1 hw82.2.2.2 _ hC_)) 5 8 rfl rfl rfl _ hC_ (nd_T _ 0) rfl hl3.1 rfl (Nat.le_of_ble_eq_true rfl) dX2_openPart_52)) rfl (fun _ => rfl) (fun _ => rfl) (fun u_85 H1 locs hp hw87 => ?_)
      obtain ⟨nat_88, nplace_89, nkind_90, nvalue_91⟩ := u_85
      generalize H1 = H at hw87 ⊢
      have hw92 : WD D A s.heap (WZ_LawT cI cJ ad mr (upd (upd (upd (upd (upd (upd (upd (upd (upd mi 7 nholding_81) 8 v_75) 9 v_54) 14 nat_88) 15 nkind_90) 16 nvalue_91) 17 nplace_89) 18 nfault_49) 19 nfaultPlace_50) (va_up mf 6 gheld_80) mg) H locs := hw87
      obtain ⟨hp_93, hp_94⟩ := hp
      have hp_93 : 0 ≤ nat_88.toInt := hp_93
      have hp_94 : nat_88.toInt ≤ (mi 12).toInt := hp_94
      exact em_v (w1 := (fun (u : Int32 × Int32 × Int32 × Int32 × Int32 × Int32 × Int32 × Int32 × (Nat → Int32) × Int32) => (WZ_LawT cI cJ ad mr (upd (upd (upd (upd (upd (upd (upd (upd (upd mi 14 u.1) 17 u.2.1) 15 u.2.2.1) 16 u.2.2.2.1) 18 u.2.2.2.2.1) 19 u.2.2.2.2.2.1) 9 u.2.2.2.2.2.2.1) 8 u.2.2.2.2.2.2.2.1) 7 u.2.2.2.2.2.2.2.2.2) (va_up mf 6 u.2.2.2.2.2.2.2.2.1) mg))) E hr hlk (nat_88, nplace_89, nkind_90, nvalue_91, nfault_49, nfaultPlace_50, v_54, v_75, gheld_80, nholding_81) hw92 ⟨hp_93, hp_94, (by show 0 ≤ nfault_49.toInt; omega), hp_53, hp_83, hp_84⟩ (Nat.le_of_ble_eq_true rfl) (Nat.le_of_ble_eq_true rfl) dX2_openPart_55
set_option maxHeartbeats 4000000 in
set_option maxRecDepth 100000 in
theorem t_endParts (l : Launch) (D : va_G) (cI cJ : ClassId) (sz : Nat) (mr : Nat → Nat) (mi : Nat → Int32) (mf : Nat → Nat → Int32) (mg : Nat → Nat → Int64)  (ad av : Nat → Nat) (tf : Value) (h0 : 0 ≤ (mi 12).toInt ∧ (mi 12).toInt ≤ 400) (h1 : 0 ≤ (mi 14).toInt) (h2 : (mi 14).toInt ≤ (mi 12).toInt) (h3 : 0 ≤ (mi 13).toInt ∧ (mi 13).toInt ≤ 6) (h4 : 0 ≤ (mi 18).toInt ∧ (mi 18).toInt ≤ 4) (h5 : 0 ≤ (mi 2).toInt ∧ (mi 2).toInt ≤ 400) (h6 : 0 ≤ (mi 7).toInt) (h7 : (mi 7).toInt ≤ 64) : Met l yX2_endParts (Cond.code yX2_endParts cX2_endParts 3 none :: GW) ({ frames := 7, cells := 0, slots := 0, locals := 171 } : Room) (va_Pc [.ref (mr 0), .ref (mr 10)] (PW D cI cJ sz (WZ_LawT cI cJ ad mr mi mf mg) (xT8 ad av tf (va_A (WZ_LawT cI cJ ad mr mi mf mg) sz)))) (va_Qv (fun (u : Int32 × Int32 × Int32 × Int32 × Int32 × Int32 × (Nat → Int32) × Int32 × Int32 × Int32 × Int32) => (0 ≤ u.1.toInt) ∧ (u.1.toInt ≤ (mi 12).toInt) ∧ (0 ≤ u.2.2.2.2.1.toInt) ∧ (u.2.2.2.2.1.toInt ≤ 4) ∧ (0 ≤ u.2.2.2.2.2.2.2.1.toInt) ∧ (u.2.2.2.2.2.2.2.1.toInt ≤ 400) ∧ (0 ≤ u.2.2.2.2.2.2.2.2.1.toInt) ∧ (u.2.2.2.2.2.2.2.2.1.toInt ≤ 64)) (fun u => QW D cI cJ (va_A (WZ_LawT cI cJ ad mr mi mf mg) sz) ((fun (u : Int32 × Int32 × Int32 × Int32 × Int32 × Int32 × (Nat → Int32) × Int32 × Int32 × Int32 × Int32) => (WZ_LawT cI cJ ad mr (upd (upd (upd (upd (upd (upd (upd (upd (upd (upd mi 14 u.1) 17 u.2.1) 15 u.2.2.1) 16 u.2.2.2.1) 18 u.2.2.2.2.1) 19 u.2.2.2.2.2.1) 2 u.2.2.2.2.2.2.2.1) 7 u.2.2.2.2.2.2.2.2.1) 9 u.2.2.2.2.2.2.2.2.2.1) 8 u.2.2.2.2.2.2.2.2.2.2) (va_up mf 1 u.2.2.2.2.2.2.1) mg)) u)) (va_A (WZ_LawT cI cJ ad mr mi mf mg) sz)) 0 0 (va_A (WZ_LawT cI cJ ad mr mi mf mg) sz) := by
  refine mk_metA (X := fun A => xT8 ad av tf A) (y := yX2_endParts) (bytes := cX2_endParts) (maxL := 3) (avs := [.ref (mr 0), .ref (mr 10)]) (WS := (WZ_LawT cI cJ ad mr mi mf mg)) (Qf := fun A => va_Qv (fun (u : Int32 × Int32 × Int32 × Int32 × Int32 × Int32 × (Nat → Int32) × Int32 × Int32 × Int32 × Int32) => (0 ≤ u.1.toInt) ∧ (u.1.toInt ≤ (mi 12).toInt) ∧ (0 ≤ u.2.2.2.2.1.toInt) ∧ (u.2.2.2.2.1.toInt ≤ 4) ∧ (0 ≤ u.2.2.2.2.2.2.2.1.toInt) ∧ (u.2.2.2.2.2.2.2.1.toInt ≤ 400) ∧ (0 ≤ u.2.2.2.2.2.2.2.2.1.toInt) ∧ (u.2.2.2.2.2.2.2.2.1.toInt ≤ 64)) (fun u => QW D cI cJ A ((fun (u : Int32 × Int32 × Int32 × Int32 × Int32 × Int32 × (Nat → Int32) × Int32 × Int32 × Int32 × Int32) => (WZ_LawT cI cJ ad mr (upd (upd (upd (upd (upd (upd (upd (upd (upd (upd mi 14 u.1) 17 u.2.1) 15 u.2.2.1) 16 u.2.2.2.1) 18 u.2.2.2.2.1) 19 u.2.2.2.2.2.1) 2 u.2.2.2.2.2.2.2.1) 7 u.2.2.2.2.2.2.2.2.1) 9 u.2.2.2.2.2.2.2.2.2.1) 8 u.2.2.2.2.2.2.2.2.2.2) (va_up mf 1 u.2.2.2.2.2.2.1) mg)) u)) A) (by decide) (Nat.le_of_ble_eq_true rfl) ?_
  intro p e s m below meth c A ls E hr hlk hnm hX hw1 hl2
  have hl3 : lv_has ls 3 [(0, .ref (mr 0)), (1, .ref (mr 10))] := hl2
  refine lv_aload_n (pc := 0) E.1 E.2.1 dX2_endParts_0 rfl (lv_at hl3 0 rfl) ?_
  refine ck_v (pc := 1) (ws' := (fun (u : (Nat → Int32) × Int32 × Int32 × Int32) => (WZ_LawT cI cJ ad mr (upd (upd (upd mi 2 u.2.1) 7 u.2.2.1) 9 u.2.2.2) (va_up mf 1 u.1) mg))) [true, true, true, true, true, false, false] hw1 rfl (fun hC_ => (rn_V (As := []) (rest := []) E hw1 (t_endNots l D cI cJ _ mr mi mf mg h5 ⟨h6, h7⟩) (gdV q_902 q_904 q_11 q_157 q_905) hdV_X2_endNots ⟨rfl, rfl⟩ ⟨(Nat.le_of_ble_eq_true rfl), (Nat.le_of_ble_eq_true rfl)⟩ ⟨(Nat.le_of_ble_eq_true rfl), (Nat.le_of_ble_eq_true rfl)⟩ xT_b xT_at 0 2 rfl rfl rfl _ hC_ (nd_T _ 0) rfl hl3.1 rfl (Nat.le_of_ble_eq_true rfl) dX2_endParts_1)) rfl (fun _ => rfl) (fun _ => rfl) (fun u_4 H1 locs hp hw6 => ?_)
  obtain ⟨gcode_7, nsize_8, nholding_9, nopen_10⟩ := u_4
  generalize H1 = H at hw6 ⊢
  have hw11 : WD D A s.heap (WZ_LawT cI cJ ad mr (upd (upd (upd mi 2 nsize_8) 7 nholding_9) 9 nopen_10) (va_up mf 1 gcode_7) mg) H locs := hw6
  obtain ⟨hp_12, hp_13, hp_14, hp_15⟩ := hp
  have hp_12 : 0 ≤ nsize_8.toInt := hp_12
  have hp_13 : nsize_8.toInt ≤ 400 := hp_13
  have hp_14 : 0 ≤ nholding_9.toInt := hp_14
  have hp_15 : nholding_9.toInt ≤ 64 := hp_15
  refine lv_iconst (pc := 4) (v := 0) E.1 E.2.1 dX2_endParts_4 (by decide +kernel) ?_
  refine lv_istore_n (pc := 5) (lv' := [(2, .int 0), (0, .ref (mr 0)), (1, .ref (mr 10))]) E.1 E.2.1 dX2_endParts_5 rfl hl3 (by decide) rfl (fun ls hl16 => ?_)
  have loop_17 : ∀ (k : Nat) (x_18 : Int32) (x_19 : Int32) (x_20 : Int32) (x_21 : Int32) (x_22 : Int32) (x_23 : Int32) (x_24 : Int32) (x_25 : Int32) (x_26 : Int32) (x_27 : Int32) (x_28 : Int32) (g_29 : Nat → Int32) (H : Heap) (locs : List Loc) (ls : Array Slot), (0 ≤ x_19.toInt) ∧ (x_19.toInt ≤ (mi 12).toInt) ∧ (0 ≤ x_23.toInt) ∧ (x_23.toInt ≤ 4) ∧ (0 ≤ x_25.toInt) ∧ (x_25.toInt ≤ 400) ∧ (0 ≤ x_26.toInt) ∧ (x_26.toInt ≤ 64) ∧ (0 ≤ x_18.toInt) ∧ (x_18.toInt ≤ 8) → 8 - x_18.toInt < (k : Int) → WD D A s.heap (WZ_LawT cI cJ ad mr (upd (upd (upd (upd (upd (upd (upd (upd (upd (upd mi 2 x_25) 7 x_26) 8 x_28) 9 x_27) 14 x_19) 15 x_21) 16 x_22) 17 x_20) 18 x_23) 19 x_24) (va_up mf 1 g_29) mg) H locs → lv_has ls 3 [(2, .int x_18), (0, .ref (mr 0)), (1, .ref (mr 10))] → W p l e ({ frames := 7, cells := 0, slots := 0, locals := 171 } : Room) s m ([.ref (mr 0), .ref (mr 10)] : List Value).toArray below meth c H locs 0 0 (MQ below (va_Qv (fun (u : Int32 × Int32 × Int32 × Int32 × Int32 × Int32 × (Nat → Int32) × Int32 × Int32 × Int32 × Int32) => (0 ≤ u.1.toInt) ∧ (u.1.toInt ≤ (mi 12).toInt) ∧ (0 ≤ u.2.2.2.2.1.toInt) ∧ (u.2.2.2.2.1.toInt ≤ 4) ∧ (0 ≤ u.2.2.2.2.2.2.2.1.toInt) ∧ (u.2.2.2.2.2.2.2.1.toInt ≤ 400) ∧ (0 ≤ u.2.2.2.2.2.2.2.2.1.toInt) ∧ (u.2.2.2.2.2.2.2.2.1.toInt ≤ 64)) (fun u => QW D cI cJ A ((fun (u : Int32 × Int32 × Int32 × Int32 × Int32 × Int32 × (Nat → Int32) × Int32 × Int32 × Int32 × Int32) => (WZ_LawT cI cJ ad mr (upd (upd (upd (upd (upd (upd (upd (upd (upd (upd mi 14 u.1) 17 u.2.1) 15 u.2.2.1) 16 u.2.2.2.1) 18 u.2.2.2.2.1) 19 u.2.2.2.2.2.1) 2 u.2.2.2.2.2.2.2.1) 7 u.2.2.2.2.2.2.2.2.1) 9 u.2.2.2.2.2.2.2.2.2.1) 8 u.2.2.2.2.2.2.2.2.2.2) (va_up mf 1 u.2.2.2.2.2.2.1) mg)) u)) A) ([.ref (mr 0), .ref (mr 10)] : List Value).toArray s 0 0 A) (F0 m 6 ls []) := by
    intro k
    induction k with
    | zero =>
      intro x_18 x_19 x_20 x_21 x_22 x_23 x_24 x_25 x_26 x_27 x_28 g_29 _ _ _ hinv hm
      obtain ⟨hi_29_0, hi_29_1, hi_29_2, hi_29_3, hi_29_4, hi_29_5, hi_29_6, hi_29_7, hi_29_8, hi_29_9⟩ := hinv
      exact absurd hm (by omega)
    | succ k ih_30 =>
      intro x_18 x_19 x_20 x_21 x_22 x_23 x_24 x_25 x_26 x_27 x_28 g_29 H locs ls hinv hm hw31 hl32
      obtain ⟨hi_29_0, hi_29_1, hi_29_2, hi_29_3, hi_29_4, hi_29_5, hi_29_6, hi_29_7, hi_29_8, hi_29_9⟩ := hinv
      refine lv_iload_n (pc := 6) E.1 E.2.1 dX2_endParts_6 rfl (lv_at hl32 0 rfl) ?_
      refine lv_bipush (pc := 7) (v := 8) E.1 E.2.1 dX2_endParts_7 (by decide +kernel) ?_
      refine lv_icmp_ge (pc := 9) (tgt := 86) E.1 E.2.1 dX2_endParts_9 (by decide) (fun c_33 => ?_) (fun c_33 => ?_)
      · skip
        have hc_33 := leE (a := 8) (b := x_18.toInt) (by decide +kernel) rfl c_33
        exact em_v (w1 := (fun (u : Int32 × Int32 × Int32 × Int32 × Int32 × Int32 × (Nat → Int32) × Int32 × Int32 × Int32 × Int32) => (WZ_LawT cI cJ ad mr (upd (upd (upd (upd (upd (upd (upd (upd (upd (upd mi 14 u.1) 17 u.2.1) 15 u.2.2.1) 16 u.2.2.2.1) 18 u.2.2.2.2.1) 19 u.2.2.2.2.2.1) 2 u.2.2.2.2.2.2.2.1) 7 u.2.2.2.2.2.2.2.2.1) 9 u.2.2.2.2.2.2.2.2.2.1) 8 u.2.2.2.2.2.2.2.2.2.2) (va_up mf 1 u.2.2.2.2.2.2.1) mg))) E hr hlk (x_19, x_20, x_21, x_22, x_23, x_24, g_29, x_25, x_26, x_27, x_28) hw31 ⟨hi_29_0, hi_29_1, hi_29_2, hi_29_3, hi_29_4, hi_29_5, hi_29_6, hi_29_7⟩ (Nat.le_of_ble_eq_true rfl) (Nat.le_of_ble_eq_true rfl) dX2_endParts_86
      · skip
        have hc_33 := nleE (a := 8) (b := x_18.toInt) (by decide +kernel) rfl c_33
        refine lv_aload_n (pc := 12) E.1 E.2.1 dX2_endParts_12 rfl (lv_at hl32 2 rfl) ?_
        refine x_get (pc := 13) (T := TX8) (N := 9) (ci := 8) (v := .int x_21) E hw31 inX8 5 4 q_545 rfl rfl (by decide) rfl rfl dX2_endParts_13 ?_
        refine lv_bipush (pc := 16) (v := 41) E.1 E.2.1 dX2_endParts_16 (by decide +kernel) ?_
        refine lv_icmp_ne (pc := 18) (tgt := 86) E.1 E.2.1 dX2_endParts_18 (by decide) (fun c_34 => ?_) (fun c_34 => ?_)
        · skip
          have hc_34 := neE (a := x_21.toInt) (b := 41) rfl (by decide +kernel) c_34
          exact em_v (w1 := (fun (u : Int32 × Int32 × Int32 × Int32 × Int32 × Int32 × (Nat → Int32) × Int32 × Int32 × Int32 × Int32) => (WZ_LawT cI cJ ad mr (upd (upd (upd (upd (upd (upd (upd (upd (upd (upd mi 14 u.1) 17 u.2.1) 15 u.2.2.1) 16 u.2.2.2.1) 18 u.2.2.2.2.1) 19 u.2.2.2.2.2.1) 2 u.2.2.2.2.2.2.2.1) 7 u.2.2.2.2.2.2.2.2.1) 9 u.2.2.2.2.2.2.2.2.2.1) 8 u.2.2.2.2.2.2.2.2.2.2) (va_up mf 1 u.2.2.2.2.2.2.1) mg))) E hr hlk (x_19, x_20, x_21, x_22, x_23, x_24, g_29, x_25, x_26, x_27, x_28) hw31 ⟨hi_29_0, hi_29_1, hi_29_2, hi_29_3, hi_29_4, hi_29_5, hi_29_6, hi_29_7⟩ (Nat.le_of_ble_eq_true rfl) (Nat.le_of_ble_eq_true rfl) dX2_endParts_86
        · skip
          have hc_34 := eqE (a := x_21.toInt) (b := 41) rfl (by decide +kernel) c_34
          refine lv_aload_n (pc := 21) E.1 E.2.1 dX2_endParts_21 rfl (lv_at hl32 1 rfl) ?_
          refine x_get (pc := 22) (T := TX2) (N := 9) (ci := 2) (v := .int x_28) E hw31 inX2 0 7 q_392 rfl rfl (by decide) rfl rfl dX2_endParts_22 ?_
          refine lv_if_le (pc := 25) (tgt := 86) E.1 E.2.1 dX2_endParts_25 (by decide) (fun c_35 => ?_) (fun c_35 => ?_)
          · skip
            have hc_35 := leE (a := x_28.toInt) (b := 0) rfl (by decide +kernel) c_35
            exact em_v (w1 := (fun (u : Int32 × Int32 × Int32 × Int32 × Int32 × Int32 × (Nat → Int32) × Int32 × Int32 × Int32 × Int32) => (WZ_LawT cI cJ ad mr (upd (upd (upd (upd (upd (upd (upd (upd (upd (upd mi 14 u.1) 17 u.2.1) 15 u.2.2.1) 16 u.2.2.2.1) 18 u.2.2.2.2.1) 19 u.2.2.2.2.2.1) 2 u.2.2.2.2.2.2.2.1) 7 u.2.2.2.2.2.2.2.2.1) 9 u.2.2.2.2.2.2.2.2.2.1) 8 u.2.2.2.2.2.2.2.2.2.2) (va_up mf 1 u.2.2.2.2.2.2.1) mg))) E hr hlk (x_19, x_20, x_21, x_22, x_23, x_24, g_29, x_25, x_26, x_27, x_28) hw31 ⟨hi_29_0, hi_29_1, hi_29_2, hi_29_3, hi_29_4, hi_29_5, hi_29_6, hi_29_7⟩ (Nat.le_of_ble_eq_true rfl) (Nat.le_of_ble_eq_true rfl) dX2_endParts_86
          · skip
            have hc_35 := nleE (a := x_28.toInt) (b := 0) rfl (by decide +kernel) c_35
            refine lv_aload_n (pc := 28) E.1 E.2.1 dX2_endParts_28 rfl (lv_at hl32 1 rfl) ?_
            refine lv_sipush (pc := 29) (v := 258) E.1 E.2.1 dX2_endParts_29 (by decide +kernel) ?_
            refine ck_v (pc := 32) (ws' := (fun (u : (Nat → Int32) × Int32 × Int32) => (WZ_LawT cI cJ ad mr (upd (upd (upd (upd (upd (upd (upd (upd (upd (upd mi 2 u.2.1) 7 u.2.2) 8 x_28) 9 x_27) 14 x_19) 15 x_21) 16 x_22) 17 x_20) 18 x_23) 19 x_24) (va_up mf 1 u.1) mg))) [true, true, true, true, true, false, false] hw31 rfl (fun hC_ => (rn_V (As := [.int 258]) (rest := []) E hw31 (t_fold l D cI cJ _ mr (upd (upd (upd (upd (upd (upd (upd (upd (upd (upd mi 2 x_25) 7 x_26) 8 x_28) 9 x_27) 14 x_19) 15 x_21) 16 x_22) 17 x_20) 18 x_23) 19 x_24) (va_up mf 1 g_29) mg 258 ⟨hi_29_4, hi_29_5⟩ ⟨hi_29_6, hi_29_7⟩) (gdV q_906 q_908 q_12 q_157 q_909) hdV_X2_fold ⟨rfl, rfl⟩ ⟨(Nat.le_of_ble_eq_true rfl), (Nat.le_of_ble_eq_true rfl)⟩ ⟨(Nat.le_of_ble_eq_true rfl), (Nat.le_of_ble_eq_true rfl)⟩ xT_b xT_at 0 2 rfl rfl rfl _ hC_ (nd_T _ 0) rfl hl32.1 rfl (Nat.le_of_ble_eq_true rfl) dX2_endParts_32)) rfl (fun _ => rfl) (fun _ => rfl) (fun u_36 H1 locs hp hw38 => ?_)
            obtain ⟨gcode_39, nsize_40, nholding_41⟩ := u_36
            generalize H1 = H at hw38 ⊢
            have hw42 : WD D A s.heap (WZ_LawT cI cJ ad mr (upd (upd (upd (upd (upd (upd (upd (upd (upd (upd mi 2 nsize_40) 7 nholding_41) 8 x_28) 9 x_27) 14 x_19) 15 x_21) 16 x_22) 17 x_20) 18 x_23) 19 x_24) (va_up mf 1 gcode_39) mg) H locs := hw38
            obtain ⟨hp_43, hp_44, hp_45, hp_46⟩ := hp
            have hp_43 : 0 ≤ nsize_40.toInt := hp_43
            have hp_44 : nsize_40.toInt ≤ 400 := hp_44
            have hp_45 : 0 ≤ nholding_41.toInt := hp_45
            have hp_46 : nholding_41.toInt ≤ 64 := hp_46
            refine lv_aload_n (pc := 35) E.1 E.2.1 dX2_endParts_35 rfl (lv_at hl32 1 rfl) ?_
            refine x_get (pc := 36) (T := TX2) (N := 9) (ci := 2) (v := .int nholding_41) E hw42 inX2 0 6 q_391 rfl rfl (by decide) rfl rfl dX2_endParts_36 ?_
            refine lv_if_le (pc := 39) (tgt := 52) E.1 E.2.1 dX2_endParts_39 (by decide) (fun c_47 => ?_) (fun c_47 => ?_)
            · skip
              have hc_47 := leE (a := nholding_41.toInt) (b := 0) rfl (by decide +kernel) c_47
              refine lv_aload_n (pc := 52) E.1 E.2.1 dX2_endParts_52 rfl (lv_at hl32 1 rfl) ?_
              refine lv_dup (pc := 53) E.1 E.2.1 dX2_endParts_53 rfl ?_
              refine x_get (pc := 54) (T := TX2) (N := 9) (ci := 2) (v := .int x_28) E hw42 inX2 0 7 q_392 rfl rfl (by decide) rfl rfl dX2_endParts_54 ?_
              refine lv_iconst (pc := 57) (v := 1) E.1 E.2.1 dX2_endParts_57 (by decide +kernel) ?_
              refine lv_isub (pc := 58) E.1 E.2.1 dX2_endParts_58 ?_
              refine lv_topi (fun v_48 ev_48 => ?_)
              refine x_put (pc := 59) (T := TX2) (N := 9) (ci := 2) (ws' := (WZ_LawT cI cJ ad mr (upd (upd (upd (upd (upd (upd (upd (upd (upd (upd mi 2 nsize_40) 7 nholding_41) 8 v_48) 9 x_27) 14 x_19) 15 x_21) 16 x_22) 17 x_20) 18 x_23) 19 x_24) (va_up mf 1 gcode_39) mg)) E hw42 inX2 tyX2_ok nmX2 0 7 q_392 rfl rfl (by decide) rfl rfl rfl rfl (Nat.le_of_ble_eq_true rfl) rfl dX2_endParts_59 (fun H locs hw49 => ?_)
              refine lv_aload_n (pc := 62) E.1 E.2.1 dX2_endParts_62 rfl (lv_at hl32 1 rfl) ?_
              refine lv_dup (pc := 63) E.1 E.2.1 dX2_endParts_63 rfl ?_
              refine x_get (pc := 64) (T := TX2) (N := 9) (ci := 2) (v := .int x_27) E hw49 inX2 0 8 q_393 rfl rfl (by decide) rfl rfl dX2_endParts_64 ?_
              refine lv_iconst (pc := 67) (v := 1) E.1 E.2.1 dX2_endParts_67 (by decide +kernel) ?_
              refine lv_isub (pc := 68) E.1 E.2.1 dX2_endParts_68 ?_
              refine lv_topi (fun v_50 ev_50 => ?_)
              refine x_put (pc := 69) (T := TX2) (N := 9) (ci := 2) (ws' := (WZ_LawT cI cJ ad mr (upd (upd (upd (upd (upd (upd (upd (upd (upd (upd mi 2 nsize_40) 7 nholding_41) 8 v_48) 9 v_50) 14 x_19) 15 x_21) 16 x_22) 17 x_20) 18 x_23) 19 x_24) (va_up mf 1 gcode_39) mg)) E hw49 inX2 tyX2_ok nmX2 0 8 q_393 rfl rfl (by decide) rfl rfl rfl rfl (Nat.le_of_ble_eq_true rfl) rfl dX2_endParts_69 (fun H locs hw51 => ?_)
              refine lv_aload_n (pc := 72) E.1 E.2.1 dX2_endParts_72 rfl (lv_at hl32 2 rfl) ?_
              refine ck_v (pc := 73) (ws' := (fun (u : Int32 × Int32 × Int32 × Int32) => (WZ_LawT cI cJ ad mr (upd (upd (upd (upd (upd (upd (upd (upd (upd (upd mi 2 nsize_40) 7 nholding_41) 8 v_48) 9 v_50) 14 u.1) 15 u.2.2.1) 16 u.2.2.2) 17 u.2.1) 18 x_23) 19 x_24) (va_up mf 1 gcode_39) mg))) [false, false, false, false, false, true, true] hw51 rfl (fun hC_ => (rn_V (As := []) (rest := []) E hw51 (t_step l D cI cJ _ (shf 10 mr) (shf 10 (upd (upd (upd (upd (upd (upd (upd (upd (upd (upd mi 2 nsize_40) 7 nholding_41) 8 v_48) 9 v_50) 14 x_19) 15 x_21) 16 x_22) 17 x_20) 18 x_23) 19 x_24)) (shf 10 (va_up mf 1 gcode_39)) (shf 10 mg) ad av tf h0 hi_29_0 hi_29_1 h3) (gdV q_877 q_723 q_724 q_160 q_725) hdV_X8_step ⟨rfl, rfl⟩ ⟨(Nat.le_of_ble_eq_true rfl), (Nat.le_of_ble_eq_true rfl)⟩ ⟨(Nat.le_of_ble_eq_true rfl), (Nat.le_of_ble_eq_true rfl)⟩ xT8_b (xT8_at hX hw51.2.2.1 (va_free hw51.2.1 hw51.2.2.1 hw51.2.2.2 _ hC_)) 5 8 rfl rfl rfl _ hC_ (nd_T _ 0) rfl hl32.1 rfl (Nat.le_of_ble_eq_true rfl) dX2_endParts_73)) rfl (fun _ => rfl) (fun _ => rfl) (fun u_52 H1 locs hp hw54 => ?_)
              obtain ⟨nat_55, nplace_56, nkind_57, nvalue_58⟩ := u_52
              generalize H1 = H at hw54 ⊢
              have hw59 : WD D A s.heap (WZ_LawT cI cJ ad mr (upd (upd (upd (upd (upd (upd (upd (upd (upd (upd mi 2 nsize_40) 7 nholding_41) 8 v_48) 9 v_50) 14 nat_55) 15 nkind_57) 16 nvalue_58) 17 nplace_56) 18 x_23) 19 x_24) (va_up mf 1 gcode_39) mg) H locs := hw54
              obtain ⟨hp_60, hp_61⟩ := hp
              have hp_60 : 0 ≤ nat_55.toInt := hp_60
              have hp_61 : nat_55.toInt ≤ (mi 12).toInt := hp_61
              refine lv_aload_n (pc := 76) E.1 E.2.1 dX2_endParts_76 rfl (lv_at hl32 1 rfl) ?_
              refine ck_v (pc := 77) (ws' := (fun (u : (Nat → Int32) × Int32 × Int32 × Int32) => (WZ_LawT cI cJ ad mr (upd (upd (upd (upd (upd (upd (upd (upd (upd (upd mi 2 u.2.1) 7 u.2.2.1) 8 v_48) 9 u.2.2.2) 14 nat_55) 15 nkind_57) 16 nvalue_58) 17 nplace_56) 18 x_23) 19 x_24) (va_up mf 1 u.1) mg))) [true, true, true, true, true, false, false] hw59 rfl (fun hC_ => (rn_V (As := []) (rest := []) E hw59 (t_endNots l D cI cJ _ mr (upd (upd (upd (upd (upd (upd (upd (upd (upd (upd mi 2 nsize_40) 7 nholding_41) 8 v_48) 9 v_50) 14 nat_55) 15 nkind_57) 16 nvalue_58) 17 nplace_56) 18 x_23) 19 x_24) (va_up mf 1 gcode_39) mg ⟨hp_43, hp_44⟩ ⟨hp_45, hp_46⟩) (gdV q_902 q_904 q_11 q_157 q_905) hdV_X2_endNots ⟨rfl, rfl⟩ ⟨(Nat.le_of_ble_eq_true rfl), (Nat.le_of_ble_eq_true rfl)⟩ ⟨(Nat.le_of_ble_eq_true rfl), (Nat.le_of_ble_eq_true rfl)⟩ xT_b xT_at 0 2 rfl rfl rfl _ hC_ (nd_T _ 0) rfl hl32.1 rfl (Nat.le_of_ble_eq_true rfl) dX2_endParts_77)) rfl (fun _ => rfl) (fun _ => rfl) (fun u_62 H1 locs hp hw64 => ?_)
              obtain ⟨gcode_65, nsize_66, nholding_67, nopen_68⟩ := u_62
              generalize H1 = H at hw64 ⊢
              have hw69 : WD D A s.heap (WZ_LawT cI cJ ad mr (upd (upd (upd (upd (upd (upd (upd (upd (upd (upd mi 2 nsize_66) 7 nholding_67) 8 v_48) 9 nopen_68) 14 nat_55) 15 nkind_57) 16 nvalue_58) 17 nplace_56) 18 x_23) 19 x_24) (va_up mf 1 gcode_65) mg) H locs := hw64
              obtain ⟨hp_70, hp_71, hp_72, hp_73⟩ := hp
              have hp_70 : 0 ≤ nsize_66.toInt := hp_70
              have hp_71 : nsize_66.toInt ≤ 400 := hp_71
              have hp_72 : 0 ≤ nholding_67.toInt := hp_72
              have hp_73 : nholding_67.toInt ≤ 64 := hp_73
              obtain ⟨v_74, ev_74⟩ : ∃ z : Int32, x_18 + Int32.ofInt (1) = z := ⟨_, rfl⟩
              have hv_74 : v_74.toInt = x_18.toInt + (1) := by rw [← ev_74]; exact incE rfl (by decide) (by omega)
              refine lv_iinc (pc := 80) (v := v_74) (lv' := [(2, .int v_74), (0, .ref (mr 0)), (1, .ref (mr 10))]) E.1 E.2.1 dX2_endParts_80 hl32 (k := 0) rfl ev_74 (by decide) rfl (fun ls hl75 => ?_)
              refine lv_goto (pc := 83) (tgt := 6) E.1 E.2.1 dX2_endParts_83 (by decide) ?_
              exact ih_30 v_74 nat_55 nplace_56 nkind_57 nvalue_58 x_23 x_24 nsize_66 nholding_67 nopen_68 v_48 gcode_65 _ _ _ ⟨hp_60, hp_61, hi_29_2, hi_29_3, hp_70, hp_71, hp_72, hp_73, (by show 0 ≤ v_74.toInt; omega), (by show v_74.toInt ≤ 8; omega)⟩ (by omega) hw69 (lv_sub hl75 [0, 1, 2] rfl)
            · skip
              have hc_47 := nleE (a := nholding_41.toInt) (b := 0) rfl (by decide +kernel) c_47
              refine lv_aload_n (pc := 42) E.1 E.2.1 dX2_endParts_42 rfl (lv_at hl32 1 rfl) ?_
              refine lv_dup (pc := 43) E.1 E.2.1 dX2_endParts_43 rfl ?_
              refine x_get (pc := 44) (T := TX2) (N := 9) (ci := 2) (v := .int nholding_41) E hw42 inX2 0 6 q_391 rfl rfl (by decide) rfl rfl dX2_endParts_44 ?_
              refine lv_iconst (pc := 47) (v := 1) E.1 E.2.1 dX2_endParts_47 (by decide +kernel) ?_
              refine lv_isub (pc := 48) E.1 E.2.1 dX2_endParts_48 ?_
              refine lv_topi (fun v_76 ev_76 => ?_)
              have hv_76 : v_76.toInt = nholding_41.toInt - 1 := by rw [ev_76]; exact subE rfl (by decide +kernel) (by omega)
              refine x_put (pc := 49) (T := TX2) (N := 9) (ci := 2) (ws' := (WZ_LawT cI cJ ad mr (upd (upd (upd (upd (upd (upd (upd (upd (upd (upd mi 2 nsize_40) 7 v_76) 8 x_28) 9 x_27) 14 x_19) 15 x_21) 16 x_22) 17 x_20) 18 x_23) 19 x_24) (va_up mf 1 gcode_39) mg)) E hw42 inX2 tyX2_ok nmX2 0 6 q_391 rfl rfl (by decide) rfl rfl rfl rfl (Nat.le_of_ble_eq_true rfl) rfl dX2_endParts_49 (fun H locs hw77 => ?_)
              refine lv_aload_n (pc := 52) E.1 E.2.1 dX2_endParts_52 rfl (lv_at hl32 1 rfl) ?_
              refine lv_dup (pc := 53) E.1 E.2.1 dX2_endParts_53 rfl ?_
              refine x_get (pc := 54) (T := TX2) (N := 9) (ci := 2) (v := .int x_28) E hw77 inX2 0 7 q_392 rfl rfl (by decide) rfl rfl dX2_endParts_54 ?_
              refine lv_iconst (pc := 57) (v := 1) E.1 E.2.1 dX2_endParts_57 (by decide +kernel) ?_
              refine lv_isub (pc := 58) E.1 E.2.1 dX2_endParts_58 ?_
              refine lv_topi (fun v_78 ev_78 => ?_)
              refine x_put (pc := 59) (T := TX2) (N := 9) (ci := 2) (ws' := (WZ_LawT cI cJ ad mr (upd (upd (upd (upd (upd (upd (upd (upd (upd (upd mi 2 nsize_40) 7 v_76) 8 v_78) 9 x_27) 14 x_19) 15 x_21) 16 x_22) 17 x_20) 18 x_23) 19 x_24) (va_up mf 1 gcode_39) mg)) E hw77 inX2 tyX2_ok nmX2 0 7 q_392 rfl rfl (by decide) rfl rfl rfl rfl (Nat.le_of_ble_eq_true rfl) rfl dX2_endParts_59 (fun H locs hw79 => ?_)
              refine lv_aload_n (pc := 62) E.1 E.2.1 dX2_endParts_62 rfl (lv_at hl32 1 rfl) ?_
              refine lv_dup (pc := 63) E.1 E.2.1 dX2_endParts_63 rfl ?_
              refine x_get (pc := 64) (T := TX2) (N := 9) (ci := 2) (v := .int x_27) E hw79 inX2 0 8 q_393 rfl rfl (by decide) rfl rfl dX2_endParts_64 ?_
              refine lv_iconst (pc := 67) (v := 1) E.1 E.2.1 dX2_endParts_67 (by decide +kernel) ?_
              refine lv_isub (pc := 68) E.1 E.2.1 dX2_endParts_68 ?_
              refine lv_topi (fun v_80 ev_80 => ?_)
              refine x_put (pc := 69) (T := TX2) (N := 9) (ci := 2) (ws' := (WZ_LawT cI cJ ad mr (upd (upd (upd (upd (upd (upd (upd (upd (upd (upd mi 2 nsize_40) 7 v_76) 8 v_78) 9 v_80) 14 x_19) 15 x_21) 16 x_22) 17 x_20) 18 x_23) 19 x_24) (va_up mf 1 gcode_39) mg)) E hw79 inX2 tyX2_ok nmX2 0 8 q_393 rfl rfl (by decide) rfl rfl rfl rfl (Nat.le_of_ble_eq_true rfl) rfl dX2_endParts_69 (fun H locs hw81 => ?_)
              refine lv_aload_n (pc := 72) E.1 E.2.1 dX2_endParts_72 rfl (lv_at hl32 2 rfl) ?_
              refine ck_v (pc := 73) (ws' := (fun (u : Int32 × Int32 × Int32 × Int32) => (WZ_LawT cI cJ ad mr (upd (upd (upd (upd (upd (upd (upd (upd (upd (upd mi 2 nsize_40) 7 v_76) 8 v_78) 9 v_80) 14 u.1) 15 u.2.2.1) 16 u.2.2.2) 17 u.2.1) 18 x_23) 19 x_24) (va_up mf 1 gcode_39) mg))) [false, false, false, false, false, true, true] hw81 rfl (fun hC_ => (rn_V (As := []) (rest := []) E hw81 (t_step l D cI cJ _ (shf 10 mr) (shf 10 (upd (upd (upd (upd (upd (upd (upd (upd (upd (upd mi 2 nsize_40) 7 v_76) 8 v_78) 9 v_80) 14 x_19) 15 x_21) 16 x_22) 17 x_20) 18 x_23) 19 x_24)) (shf 10 (va_up mf 1 gcode_39)) (shf 10 mg) ad av tf h0 hi_29_0 hi_29_1 h3) (gdV q_877 q_723 q_724 q_160 q_725) hdV_X8_step ⟨rfl, rfl⟩ ⟨(Nat.le_of_ble_eq_true rfl), (Nat.le_of_ble_eq_true rfl)⟩ ⟨(Nat.le_of_ble_eq_true rfl), (Nat.le_of_ble_eq_true rfl)⟩ xT8_b (xT8_at hX hw81.2.2.1 (va_free hw81.2.1 hw81.2.2.1 hw81.2.2.2 _ hC_)) 5 8 rfl rfl rfl _ hC_ (nd_T _ 0) rfl hl32.1 rfl (Nat.le_of_ble_eq_true rfl) dX2_endParts_73)) rfl (fun _ => rfl) (fun _ => rfl) (fun u_82 H1 locs hp hw84 => ?_)
              obtain ⟨nat_85, nplace_86, nkind_87, nvalue_88⟩ := u_82
              generalize H1 = H at hw84 ⊢
              have hw89 : WD D A s.heap (WZ_LawT cI cJ ad mr (upd (upd (upd (upd (upd (upd (upd (upd (upd (upd mi 2 nsize_40) 7 v_76) 8 v_78) 9 v_80) 14 nat_85) 15 nkind_87) 16 nvalue_88) 17 nplace_86) 18 x_23) 19 x_24) (va_up mf 1 gcode_39) mg) H locs := hw84
              obtain ⟨hp_90, hp_91⟩ := hp
              have hp_90 : 0 ≤ nat_85.toInt := hp_90
              have hp_91 : nat_85.toInt ≤ (mi 12).toInt := hp_91
              refine lv_aload_n (pc := 76) E.1 E.2.1 dX2_endParts_76 rfl (lv_at hl32 1 rfl) ?_
              refine ck_v (pc := 77) (ws' := (fun (u : (Nat → Int32) × Int32 × Int32 × Int32) => (WZ_LawT cI cJ ad mr (upd (upd (upd (upd (upd (upd (upd (upd (upd (upd mi 2 u.2.1) 7 u.2.2.1) 8 v_78) 9 u.2.2.2) 14 nat_85) 15 nkind_87) 16 nvalue_88) 17 nplace_86) 18 x_23) 19 x_24) (va_up mf 1 u.1) mg))) [true, true, true, true, true, false, false] hw89 rfl (fun hC_ => (rn_V (As := []) (rest := []) E hw89 (t_endNots l D cI cJ _ mr (upd (upd (upd (upd (upd (upd (upd (upd (upd (upd mi 2 nsize_40) 7 v_76) 8 v_78) 9 v_80) 14 nat_85) 15 nkind_87) 16 nvalue_88) 17 nplace_86) 18 x_23) 19 x_24) (va_up mf 1 gcode_39) mg ⟨hp_43, hp_44⟩ (by show 0 ≤ v_76.toInt ∧ v_76.toInt ≤ 64; omega)) (gdV q_902 q_904 q_11 q_157 q_905) hdV_X2_endNots ⟨rfl, rfl⟩ ⟨(Nat.le_of_ble_eq_true rfl), (Nat.le_of_ble_eq_true rfl)⟩ ⟨(Nat.le_of_ble_eq_true rfl), (Nat.le_of_ble_eq_true rfl)⟩ xT_b xT_at 0 2 rfl rfl rfl _ hC_ (nd_T _ 0) rfl hl32.1 rfl (Nat.le_of_ble_eq_true rfl) dX2_endParts_77)) rfl (fun _ => rfl) (fun _ => rfl) (fun u_92 H1 locs hp hw94 => ?_)
              obtain ⟨gcode_95, nsize_96, nholding_97, nopen_98⟩ := u_92
              generalize H1 = H at hw94 ⊢
              have hw99 : WD D A s.heap (WZ_LawT cI cJ ad mr (upd (upd (upd (upd (upd (upd (upd (upd (upd (upd mi 2 nsize_96) 7 nholding_97) 8 v_78) 9 nopen_98) 14 nat_85) 15 nkind_87) 16 nvalue_88) 17 nplace_86) 18 x_23) 19 x_24) (va_up mf 1 gcode_95) mg) H locs := hw94
              obtain ⟨hp_100, hp_101, hp_102, hp_103⟩ := hp
              have hp_100 : 0 ≤ nsize_96.toInt := hp_100
              have hp_101 : nsize_96.toInt ≤ 400 := hp_101
              have hp_102 : 0 ≤ nholding_97.toInt := hp_102
              have hp_103 : nholding_97.toInt ≤ 64 := hp_103
              obtain ⟨v_104, ev_104⟩ : ∃ z : Int32, x_18 + Int32.ofInt (1) = z := ⟨_, rfl⟩
              have hv_104 : v_104.toInt = x_18.toInt + (1) := by rw [← ev_104]; exact incE rfl (by decide) (by omega)
              refine lv_iinc (pc := 80) (v := v_104) (lv' := [(2, .int v_104), (0, .ref (mr 0)), (1, .ref (mr 10))]) E.1 E.2.1 dX2_endParts_80 hl32 (k := 0) rfl ev_104 (by decide) rfl (fun ls hl105 => ?_)
              refine lv_goto (pc := 83) (tgt := 6) E.1 E.2.1 dX2_endParts_83 (by decide) ?_
              exact ih_30 v_104 nat_85 nplace_86 nkind_87 nvalue_88 x_23 x_24 nsize_96 nholding_97 nopen_98 v_78 gcode_95 _ _ _ ⟨hp_90, hp_91, hi_29_2, hi_29_3, hp_100, hp_101, hp_102, hp_103, (by show 0 ≤ v_104.toInt; omega), (by show v_104.toInt ≤ 8; omega)⟩ (by omega) hw99 (lv_sub hl105 [0, 1, 2] rfl)
  exact loop_17 (Int.toNat (8 - 0) + 1) 0 (mi 14) (mi 17) (mi 15) (mi 16) (mi 18) (mi 19) nsize_8 nholding_9 nopen_10 (mi 8) gcode_7 _ _ _ ⟨h1, h2, h4.1, h4.2, hp_12, hp_13, hp_14, hp_15, (by show 0 ≤ (0 : Int32).toInt; have k_0 : (0 : Int32).toInt = 0 := (by decide +kernel); omega), (by show (0 : Int32).toInt ≤ 8; have k_0 : (0 : Int32).toInt = 0 := (by decide +kernel); omega)⟩ (by have k_0 : (0 : Int32).toInt = 0 := (by decide +kernel); omega) hw11 (lv_sub hl16 [0, 1, 2] rfl)
