set_option maxHeartbeats 4000000 in
set_option maxRecDepth 100000 in
theorem t_pass (l : Launch) (D : va_G) (cI cJ : ClassId) (sz : Nat) (mr : Nat → Nat) (mi : Nat → Int32) (mf : Nat → Nat → Int32) (mg : Nat → Nat → Int64) (z_due : Int32) (ad av : Nat → Nat) (tf : Value) (h0 : 0 ≤ (mi 2).toInt ∧ (mi 2).toInt ≤ 400) (h1 : 0 ≤ (mi 4).toInt) (h2 : (mi 4).toInt ≤ (mi 2).toInt) (h3 : 0 ≤ (mi 3).toInt ∧ (mi 3).toInt ≤ 6) (h4 : 0 ≤ (mi 8).toInt ∧ (mi 8).toInt ≤ 4) : Met l yX8_pass (Cond.code yX8_pass cX8_pass 2 none :: GW) ({ frames := 7, cells := 0, slots := 0, locals := 171 } : Room) (va_Pc [.ref (mr 0), .int z_due] (PW D cI cJ sz (WZ_Tape cI cJ ad mr mi mf mg) (xT8 ad av tf (va_A (WZ_Tape cI cJ ad mr mi mf mg) sz)))) (va_Qv (fun (u : Int32 × Int32 × Int32 × Int32 × Int32 × Int32) => (0 ≤ u.1.toInt) ∧ (u.1.toInt ≤ (mi 2).toInt) ∧ (0 ≤ u.2.2.2.2.1.toInt) ∧ (u.2.2.2.2.1.toInt ≤ 4)) (fun u => QW D cI cJ (va_A (WZ_Tape cI cJ ad mr mi mf mg) sz) ((fun (u : Int32 × Int32 × Int32 × Int32 × Int32 × Int32) => (WZ_Tape cI cJ ad mr (upd (upd (upd (upd (upd (upd mi 4 u.1) 7 u.2.1) 5 u.2.2.1) 6 u.2.2.2.1) 8 u.2.2.2.2.1) 9 u.2.2.2.2.2) mf mg)) u)) (va_A (WZ_Tape cI cJ ad mr mi mf mg) sz)) 0 0 (va_A (WZ_Tape cI cJ ad mr mi mf mg) sz) := by
  refine mk_metA (X := fun A => xT8 ad av tf A) (y := yX8_pass) (bytes := cX8_pass) (maxL := 2) (avs := [.ref (mr 0), .int z_due]) (WS := (WZ_Tape cI cJ ad mr mi mf mg)) (Qf := fun A => va_Qv (fun (u : Int32 × Int32 × Int32 × Int32 × Int32 × Int32) => (0 ≤ u.1.toInt) ∧ (u.1.toInt ≤ (mi 2).toInt) ∧ (0 ≤ u.2.2.2.2.1.toInt) ∧ (u.2.2.2.2.1.toInt ≤ 4)) (fun u => QW D cI cJ A ((fun (u : Int32 × Int32 × Int32 × Int32 × Int32 × Int32) => (WZ_Tape cI cJ ad mr (upd (upd (upd (upd (upd (upd mi 4 u.1) 7 u.2.1) 5 u.2.2.1) 6 u.2.2.2.1) 8 u.2.2.2.2.1) 9 u.2.2.2.2.2) mf mg)) u)) A) (by decide) (Nat.le_of_ble_eq_true rfl) ?_
  intro p e s m below meth c A ls E hr hlk hnm hX hw1 hl2
  have hl3 : lv_has ls 2 [(0, .ref (mr 0)), (1, .int z_due)] := hl2
  refine lv_aload_n (pc := 0) E.1 E.2.1 dX8_pass_0 rfl (lv_at hl3 0 rfl) ?_
  refine x_get (pc := 1) (T := TX8) (N := 9) (ci := 8) (v := .int (mi 5)) E hw1 inX8 0 4 q_546 rfl rfl (by decide) rfl rfl dX8_pass_1 ?_
  refine lv_iload_n (pc := 4) E.1 E.2.1 dX8_pass_4 rfl (lv_at hl3 1 rfl) ?_
  refine lv_icmp_eq (pc := 5) (tgt := 13) E.1 E.2.1 dX8_pass_5 (by decide) (fun c_4 => ?_) (fun c_4 => ?_)
  · skip
    have hc_4 := eqE (a := (mi 5).toInt) (b := z_due.toInt) rfl rfl c_4
    refine lv_aload_n (pc := 13) E.1 E.2.1 dX8_pass_13 rfl (lv_at hl3 0 rfl) ?_
    refine ck_v (pc := 14) (ws' := (fun (u : Int32 × Int32 × Int32 × Int32) => (WZ_Tape cI cJ ad mr (upd (upd (upd (upd mi 4 u.1) 5 u.2.2.1) 6 u.2.2.2) 7 u.2.1) mf mg))) [true, true] hw1 rfl (fun hC_ => (rn_V (As := []) (rest := []) E hw1 (t_step l D cI cJ _ mr mi mf mg ad av tf h0 h1 h2 h3) (gdV q_722 q_723 q_724 q_160 q_725) hdV_X8_step ⟨rfl, rfl⟩ ⟨(Nat.le_of_ble_eq_true rfl), (Nat.le_of_ble_eq_true rfl)⟩ ⟨(Nat.le_of_ble_eq_true rfl), (Nat.le_of_ble_eq_true rfl)⟩ xT8_b (xT8_at hX hw1.2.2.1 (va_free hw1.2.1 hw1.2.2.1 hw1.2.2.2 _ hC_)) 0 8 rfl rfl rfl _ hC_ (nd_T _ 0) rfl hl3.1 rfl (Nat.le_of_ble_eq_true rfl) dX8_pass_14)) rfl (fun _ => rfl) (fun _ => rfl) (fun u_5 H1 locs hp hw7 => ?_)
    obtain ⟨nat_8, nplace_9, nkind_10, nvalue_11⟩ := u_5
    generalize H1 = H at hw7 ⊢
    have hw12 : WD D A s.heap (WZ_Tape cI cJ ad mr (upd (upd (upd (upd mi 4 nat_8) 5 nkind_10) 6 nvalue_11) 7 nplace_9) mf mg) H locs := hw7
    obtain ⟨hp_13, hp_14⟩ := hp
    have hp_13 : 0 ≤ nat_8.toInt := hp_13
    have hp_14 : nat_8.toInt ≤ (mi 2).toInt := hp_14
    exact em_v (w1 := (fun (u : Int32 × Int32 × Int32 × Int32 × Int32 × Int32) => (WZ_Tape cI cJ ad mr (upd (upd (upd (upd (upd (upd mi 4 u.1) 7 u.2.1) 5 u.2.2.1) 6 u.2.2.2.1) 8 u.2.2.2.2.1) 9 u.2.2.2.2.2) mf mg))) E hr hlk (nat_8, nplace_9, nkind_10, nvalue_11, (mi 8), (mi 9)) hw12 ⟨hp_13, hp_14, h4.1, h4.2⟩ (Nat.le_of_ble_eq_true rfl) (Nat.le_of_ble_eq_true rfl) dX8_pass_17
  · skip
    have hc_4 := neE (a := (mi 5).toInt) (b := z_due.toInt) rfl rfl c_4
    refine lv_aload_n (pc := 8) E.1 E.2.1 dX8_pass_8 rfl (lv_at hl3 0 rfl) ?_
    refine lv_iconst (pc := 9) (v := 1) E.1 E.2.1 dX8_pass_9 (by decide +kernel) ?_
    refine ck_v (pc := 10) (ws' := (fun (u : Int32 × Int32) => (WZ_Tape cI cJ ad mr (upd (upd mi 8 u.1) 9 u.2) mf mg))) [true, true] hw1 rfl (fun hC_ => (rn_V (As := [.int 1]) (rest := []) E hw1 (t_refuse l D cI cJ _ mr mi mf mg 1 ad (by show 1 ≤ (1 : Int32).toInt ∧ (1 : Int32).toInt ≤ 4; have k_0 : (1 : Int32).toInt = 1 := (by decide +kernel); omega) h4) (gdV q_864 q_857 q_858 q_160 q_859) hdV_X8_refuse ⟨rfl, rfl⟩ ⟨(Nat.le_of_ble_eq_true rfl), (Nat.le_of_ble_eq_true rfl)⟩ ⟨(Nat.le_of_ble_eq_true rfl), (Nat.le_of_ble_eq_true rfl)⟩ xT_b xT_at 0 8 rfl rfl rfl _ hC_ (nd_T _ 0) rfl hl3.1 rfl (Nat.le_of_ble_eq_true rfl) dX8_pass_10)) rfl (fun _ => rfl) (fun _ => rfl) (fun u_15 H1 locs hp hw17 => ?_)
    obtain ⟨nfault_18, nfaultPlace_19⟩ := u_15
    generalize H1 = H at hw17 ⊢
    have hw20 : WD D A s.heap (WZ_Tape cI cJ ad mr (upd (upd mi 8 nfault_18) 9 nfaultPlace_19) mf mg) H locs := hw17
    obtain ⟨hp_21, hp_22⟩ := hp
    have hp_21 : 1 ≤ nfault_18.toInt := hp_21
    have hp_22 : nfault_18.toInt ≤ 4 := hp_22
    refine lv_aload_n (pc := 13) E.1 E.2.1 dX8_pass_13 rfl (lv_at hl3 0 rfl) ?_
    refine ck_v (pc := 14) (ws' := (fun (u : Int32 × Int32 × Int32 × Int32) => (WZ_Tape cI cJ ad mr (upd (upd (upd (upd (upd (upd mi 4 u.1) 5 u.2.2.1) 6 u.2.2.2) 7 u.2.1) 8 nfault_18) 9 nfaultPlace_19) mf mg))) [true, true] hw20 rfl (fun hC_ => (rn_V (As := []) (rest := []) E hw20 (t_step l D cI cJ _ mr (upd (upd mi 8 nfault_18) 9 nfaultPlace_19) mf mg ad av tf h0 h1 h2 h3) (gdV q_722 q_723 q_724 q_160 q_725) hdV_X8_step ⟨rfl, rfl⟩ ⟨(Nat.le_of_ble_eq_true rfl), (Nat.le_of_ble_eq_true rfl)⟩ ⟨(Nat.le_of_ble_eq_true rfl), (Nat.le_of_ble_eq_true rfl)⟩ xT8_b (xT8_at hX hw20.2.2.1 (va_free hw20.2.1 hw20.2.2.1 hw20.2.2.2 _ hC_)) 0 8 rfl rfl rfl _ hC_ (nd_T _ 0) rfl hl3.1 rfl (Nat.le_of_ble_eq_true rfl) dX8_pass_14)) rfl (fun _ => rfl) (fun _ => rfl) (fun u_23 H1 locs hp hw25 => ?_)
    obtain ⟨nat_26, nplace_27, nkind_28, nvalue_29⟩ := u_23
    generalize H1 = H at hw25 ⊢
    have hw30 : WD D A s.heap (WZ_Tape cI cJ ad mr (upd (upd (upd (upd (upd (upd mi 4 nat_26) 5 nkind_28) 6 nvalue_29) 7 nplace_27) 8 nfault_18) 9 nfaultPlace_19) mf mg) H locs := hw25
    obtain ⟨hp_31, hp_32⟩ := hp
    have hp_31 : 0 ≤ nat_26.toInt := hp_31
    have hp_32 : nat_26.toInt ≤ (mi 2).toInt := hp_32
    exact em_v (w1 := (fun (u : Int32 × Int32 × Int32 × Int32 × Int32 × Int32) => (WZ_Tape cI cJ ad mr (upd (upd (upd (upd (upd (upd mi 4 u.1) 7 u.2.1) 5 u.2.2.1) 6 u.2.2.2.1) 8 u.2.2.2.2.1) 9 u.2.2.2.2.2) mf mg))) E hr hlk (nat_26, nplace_27, nkind_28, nvalue_29, nfault_18, nfaultPlace_19) hw30 ⟨hp_31, hp_32, (by show 0 ≤ nfault_18.toInt; omega), hp_22⟩ (Nat.le_of_ble_eq_true rfl) (Nat.le_of_ble_eq_true rfl) dX8_pass_17
set_option maxHeartbeats 4000000 in
set_option maxRecDepth 100000 in
theorem t_passComparison (l : Launch) (D : va_G) (cI cJ : ClassId) (sz : Nat) (mr : Nat → Nat) (mi : Nat → Int32) (mf : Nat → Nat → Int32) (mg : Nat → Nat → Int64)  (ad av : Nat → Nat) (tf : Value) (h0 : 0 ≤ (mi 2).toInt ∧ (mi 2).toInt ≤ 400) (h1 : 0 ≤ (mi 4).toInt) (h2 : (mi 4).toInt ≤ (mi 2).toInt) (h3 : 0 ≤ (mi 3).toInt ∧ (mi 3).toInt ≤ 6) (h4 : 0 ≤ (mi 8).toInt ∧ (mi 8).toInt ≤ 4) : Met l yX8_passComparison (Cond.code yX8_passComparison cX8_passComparison 2 (some .int) :: GW) ({ frames := 7, cells := 0, slots := 0, locals := 171 } : Room) (va_Pc [.ref (mr 0)] (PW D cI cJ sz (WZ_Tape cI cJ ad mr mi mf mg) (xT8 ad av tf (va_A (WZ_Tape cI cJ ad mr mi mf mg) sz)))) (va_Qi (fun (r : Int32) (u : Int32 × Int32 × Int32 × Int32 × Int32 × Int32) => (0 ≤ u.1.toInt) ∧ (u.1.toInt ≤ (mi 2).toInt) ∧ (0 ≤ u.2.2.2.2.1.toInt) ∧ (u.2.2.2.2.1.toInt ≤ 4)) (fun u => QW D cI cJ (va_A (WZ_Tape cI cJ ad mr mi mf mg) sz) ((fun (u : Int32 × Int32 × Int32 × Int32 × Int32 × Int32) => (WZ_Tape cI cJ ad mr (upd (upd (upd (upd (upd (upd mi 4 u.1) 7 u.2.1) 5 u.2.2.1) 6 u.2.2.2.1) 8 u.2.2.2.2.1) 9 u.2.2.2.2.2) mf mg)) u)) (va_A (WZ_Tape cI cJ ad mr mi mf mg) sz)) 0 0 (va_A (WZ_Tape cI cJ ad mr mi mf mg) sz) := by
  refine mk_metA (X := fun A => xT8 ad av tf A) (y := yX8_passComparison) (bytes := cX8_passComparison) (maxL := 2) (avs := [.ref (mr 0)]) (WS := (WZ_Tape cI cJ ad mr mi mf mg)) (Qf := fun A => va_Qi (fun (r : Int32) (u : Int32 × Int32 × Int32 × Int32 × Int32 × Int32) => (0 ≤ u.1.toInt) ∧ (u.1.toInt ≤ (mi 2).toInt) ∧ (0 ≤ u.2.2.2.2.1.toInt) ∧ (u.2.2.2.2.1.toInt ≤ 4)) (fun u => QW D cI cJ A ((fun (u : Int32 × Int32 × Int32 × Int32 × Int32 × Int32) => (WZ_Tape cI cJ ad mr (upd (upd (upd (upd (upd (upd mi 4 u.1) 7 u.2.1) 5 u.2.2.1) 6 u.2.2.2.1) 8 u.2.2.2.2.1) 9 u.2.2.2.2.2) mf mg)) u)) A) (by decide) (Nat.le_of_ble_eq_true rfl) ?_
  intro p e s m below meth c A ls E hr hlk hnm hX hw1 hl2
  have hl3 : lv_has ls 2 [(0, .ref (mr 0))] := hl2
  refine lv_aload_n (pc := 0) E.1 E.2.1 dX8_passComparison_0 rfl (lv_at hl3 0 rfl) ?_
  refine x_get (pc := 1) (T := TX8) (N := 9) (ci := 8) (v := .int (mi 5)) E hw1 inX8 0 4 q_546 rfl rfl (by decide) rfl rfl dX8_passComparison_1 ?_
  refine lv_istore_n (pc := 4) (lv' := [(1, .int (mi 5)), (0, .ref (mr 0))]) E.1 E.2.1 dX8_passComparison_4 rfl hl3 (by decide) rfl (fun ls hl4 => ?_)
  refine lv_iload_n (pc := 5) E.1 E.2.1 dX8_passComparison_5 rfl (lv_at hl4 0 rfl) ?_
  refine lv_bipush (pc := 6) (v := 60) E.1 E.2.1 dX8_passComparison_6 (by decide +kernel) ?_
  refine lv_icmp_eq (pc := 8) (tgt := 28) E.1 E.2.1 dX8_passComparison_8 (by decide) (fun c_5 => ?_) (fun c_5 => ?_)
  · skip
    have hc_5 := eqE (a := (mi 5).toInt) (b := 60) rfl (by decide +kernel) c_5
    refine lv_aload_n (pc := 28) E.1 E.2.1 dX8_passComparison_28 rfl (lv_at hl4 1 rfl) ?_
    refine ck_v (pc := 29) (ws' := (fun (u : Int32 × Int32 × Int32 × Int32) => (WZ_Tape cI cJ ad mr (upd (upd (upd (upd mi 4 u.1) 5 u.2.2.1) 6 u.2.2.2) 7 u.2.1) mf mg))) [true, true] hw1 rfl (fun hC_ => (rn_V (As := []) (rest := []) E hw1 (t_step l D cI cJ _ mr mi mf mg ad av tf h0 h1 h2 h3) (gdV q_722 q_723 q_724 q_160 q_725) hdV_X8_step ⟨rfl, rfl⟩ ⟨(Nat.le_of_ble_eq_true rfl), (Nat.le_of_ble_eq_true rfl)⟩ ⟨(Nat.le_of_ble_eq_true rfl), (Nat.le_of_ble_eq_true rfl)⟩ xT8_b (xT8_at hX hw1.2.2.1 (va_free hw1.2.1 hw1.2.2.1 hw1.2.2.2 _ hC_)) 0 8 rfl rfl rfl _ hC_ (nd_T _ 0) rfl hl4.1 rfl (Nat.le_of_ble_eq_true rfl) dX8_passComparison_29)) rfl (fun _ => rfl) (fun _ => rfl) (fun u_6 H1 locs hp hw8 => ?_)
    obtain ⟨nat_9, nplace_10, nkind_11, nvalue_12⟩ := u_6
    generalize H1 = H at hw8 ⊢
    have hw13 : WD D A s.heap (WZ_Tape cI cJ ad mr (upd (upd (upd (upd mi 4 nat_9) 5 nkind_11) 6 nvalue_12) 7 nplace_10) mf mg) H locs := hw8
    obtain ⟨hp_14, hp_15⟩ := hp
    have hp_14 : 0 ≤ nat_9.toInt := hp_14
    have hp_15 : nat_9.toInt ≤ (mi 2).toInt := hp_15
    refine lv_iload_n (pc := 32) E.1 E.2.1 dX8_passComparison_32 rfl (lv_at hl4 0 rfl) ?_
    exact em_i (w1 := (fun (u : Int32 × Int32 × Int32 × Int32 × Int32 × Int32) => (WZ_Tape cI cJ ad mr (upd (upd (upd (upd (upd (upd mi 4 u.1) 7 u.2.1) 5 u.2.2.1) 6 u.2.2.2.1) 8 u.2.2.2.2.1) 9 u.2.2.2.2.2) mf mg))) E hr hlk (nat_9, nplace_10, nkind_11, nvalue_12, (mi 8), (mi 9)) hw13 ⟨hp_14, hp_15, h4.1, h4.2⟩ (Nat.le_of_ble_eq_true rfl) (Nat.le_of_ble_eq_true rfl) dX8_passComparison_33
  · skip
    have hc_5 := neE (a := (mi 5).toInt) (b := 60) rfl (by decide +kernel) c_5
    refine lv_iload_n (pc := 11) E.1 E.2.1 dX8_passComparison_11 rfl (lv_at hl4 0 rfl) ?_
    refine lv_bipush (pc := 12) (v := 61) E.1 E.2.1 dX8_passComparison_12 (by decide +kernel) ?_
    refine lv_icmp_eq (pc := 14) (tgt := 28) E.1 E.2.1 dX8_passComparison_14 (by decide) (fun c_16 => ?_) (fun c_16 => ?_)
    · skip
      have hc_16 := eqE (a := (mi 5).toInt) (b := 61) rfl (by decide +kernel) c_16
      refine lv_aload_n (pc := 28) E.1 E.2.1 dX8_passComparison_28 rfl (lv_at hl4 1 rfl) ?_
      refine ck_v (pc := 29) (ws' := (fun (u : Int32 × Int32 × Int32 × Int32) => (WZ_Tape cI cJ ad mr (upd (upd (upd (upd mi 4 u.1) 5 u.2.2.1) 6 u.2.2.2) 7 u.2.1) mf mg))) [true, true] hw1 rfl (fun hC_ => (rn_V (As := []) (rest := []) E hw1 (t_step l D cI cJ _ mr mi mf mg ad av tf h0 h1 h2 h3) (gdV q_722 q_723 q_724 q_160 q_725) hdV_X8_step ⟨rfl, rfl⟩ ⟨(Nat.le_of_ble_eq_true rfl), (Nat.le_of_ble_eq_true rfl)⟩ ⟨(Nat.le_of_ble_eq_true rfl), (Nat.le_of_ble_eq_true rfl)⟩ xT8_b (xT8_at hX hw1.2.2.1 (va_free hw1.2.1 hw1.2.2.1 hw1.2.2.2 _ hC_)) 0 8 rfl rfl rfl _ hC_ (nd_T _ 0) rfl hl4.1 rfl (Nat.le_of_ble_eq_true rfl) dX8_passComparison_29)) rfl (fun _ => rfl) (fun _ => rfl) (fun u_17 H1 locs hp hw19 => ?_)
      obtain ⟨nat_20, nplace_21, nkind_22, nvalue_23⟩ := u_17
      generalize H1 = H at hw19 ⊢
      have hw24 : WD D A s.heap (WZ_Tape cI cJ ad mr (upd (upd (upd (upd mi 4 nat_20) 5 nkind_22) 6 nvalue_23) 7 nplace_21) mf mg) H locs := hw19
      obtain ⟨hp_25, hp_26⟩ := hp
      have hp_25 : 0 ≤ nat_20.toInt := hp_25
      have hp_26 : nat_20.toInt ≤ (mi 2).toInt := hp_26
      refine lv_iload_n (pc := 32) E.1 E.2.1 dX8_passComparison_32 rfl (lv_at hl4 0 rfl) ?_
      exact em_i (w1 := (fun (u : Int32 × Int32 × Int32 × Int32 × Int32 × Int32) => (WZ_Tape cI cJ ad mr (upd (upd (upd (upd (upd (upd mi 4 u.1) 7 u.2.1) 5 u.2.2.1) 6 u.2.2.2.1) 8 u.2.2.2.2.1) 9 u.2.2.2.2.2) mf mg))) E hr hlk (nat_20, nplace_21, nkind_22, nvalue_23, (mi 8), (mi 9)) hw24 ⟨hp_25, hp_26, h4.1, h4.2⟩ (Nat.le_of_ble_eq_true rfl) (Nat.le_of_ble_eq_true rfl) dX8_passComparison_33
    · skip
      have hc_16 := neE (a := (mi 5).toInt) (b := 61) rfl (by decide +kernel) c_16
      refine lv_iload_n (pc := 17) E.1 E.2.1 dX8_passComparison_17 rfl (lv_at hl4 0 rfl) ?_
      refine lv_bipush (pc := 18) (v := 62) E.1 E.2.1 dX8_passComparison_18 (by decide +kernel) ?_
      refine lv_icmp_eq (pc := 20) (tgt := 28) E.1 E.2.1 dX8_passComparison_20 (by decide) (fun c_27 => ?_) (fun c_27 => ?_)
      · skip
        have hc_27 := eqE (a := (mi 5).toInt) (b := 62) rfl (by decide +kernel) c_27
        refine lv_aload_n (pc := 28) E.1 E.2.1 dX8_passComparison_28 rfl (lv_at hl4 1 rfl) ?_
        refine ck_v (pc := 29) (ws' := (fun (u : Int32 × Int32 × Int32 × Int32) => (WZ_Tape cI cJ ad mr (upd (upd (upd (upd mi 4 u.1) 5 u.2.2.1) 6 u.2.2.2) 7 u.2.1) mf mg))) [true, true] hw1 rfl (fun hC_ => (rn_V (As := []) (rest := []) E hw1 (t_step l D cI cJ _ mr mi mf mg ad av tf h0 h1 h2 h3) (gdV q_722 q_723 q_724 q_160 q_725) hdV_X8_step ⟨rfl, rfl⟩ ⟨(Nat.le_of_ble_eq_true rfl), (Nat.le_of_ble_eq_true rfl)⟩ ⟨(Nat.le_of_ble_eq_true rfl), (Nat.le_of_ble_eq_true rfl)⟩ xT8_b (xT8_at hX hw1.2.2.1 (va_free hw1.2.1 hw1.2.2.1 hw1.2.2.2 _ hC_)) 0 8 rfl rfl rfl _ hC_ (nd_T _ 0) rfl hl4.1 rfl (Nat.le_of_ble_eq_true rfl) dX8_passComparison_29)) rfl (fun _ => rfl) (fun _ => rfl) (fun u_28 H1 locs hp hw30 => ?_)
        obtain ⟨nat_31, nplace_32, nkind_33, nvalue_34⟩ := u_28
        generalize H1 = H at hw30 ⊢
        have hw35 : WD D A s.heap (WZ_Tape cI cJ ad mr (upd (upd (upd (upd mi 4 nat_31) 5 nkind_33) 6 nvalue_34) 7 nplace_32) mf mg) H locs := hw30
        obtain ⟨hp_36, hp_37⟩ := hp
        have hp_36 : 0 ≤ nat_31.toInt := hp_36
        have hp_37 : nat_31.toInt ≤ (mi 2).toInt := hp_37
        refine lv_iload_n (pc := 32) E.1 E.2.1 dX8_passComparison_32 rfl (lv_at hl4 0 rfl) ?_
        exact em_i (w1 := (fun (u : Int32 × Int32 × Int32 × Int32 × Int32 × Int32) => (WZ_Tape cI cJ ad mr (upd (upd (upd (upd (upd (upd mi 4 u.1) 7 u.2.1) 5 u.2.2.1) 6 u.2.2.2.1) 8 u.2.2.2.2.1) 9 u.2.2.2.2.2) mf mg))) E hr hlk (nat_31, nplace_32, nkind_33, nvalue_34, (mi 8), (mi 9)) hw35 ⟨hp_36, hp_37, h4.1, h4.2⟩ (Nat.le_of_ble_eq_true rfl) (Nat.le_of_ble_eq_true rfl) dX8_passComparison_33
      · skip
        have hc_27 := neE (a := (mi 5).toInt) (b := 62) rfl (by decide +kernel) c_27
        refine lv_aload_n (pc := 23) E.1 E.2.1 dX8_passComparison_23 rfl (lv_at hl4 1 rfl) ?_
        refine lv_iconst (pc := 24) (v := 1) E.1 E.2.1 dX8_passComparison_24 (by decide +kernel) ?_
        refine ck_v (pc := 25) (ws' := (fun (u : Int32 × Int32) => (WZ_Tape cI cJ ad mr (upd (upd mi 8 u.1) 9 u.2) mf mg))) [true, true] hw1 rfl (fun hC_ => (rn_V (As := [.int 1]) (rest := []) E hw1 (t_refuse l D cI cJ _ mr mi mf mg 1 ad (by show 1 ≤ (1 : Int32).toInt ∧ (1 : Int32).toInt ≤ 4; have k_0 : (1 : Int32).toInt = 1 := (by decide +kernel); omega) h4) (gdV q_864 q_857 q_858 q_160 q_859) hdV_X8_refuse ⟨rfl, rfl⟩ ⟨(Nat.le_of_ble_eq_true rfl), (Nat.le_of_ble_eq_true rfl)⟩ ⟨(Nat.le_of_ble_eq_true rfl), (Nat.le_of_ble_eq_true rfl)⟩ xT_b xT_at 0 8 rfl rfl rfl _ hC_ (nd_T _ 0) rfl hl4.1 rfl (Nat.le_of_ble_eq_true rfl) dX8_passComparison_25)) rfl (fun _ => rfl) (fun _ => rfl) (fun u_38 H1 locs hp hw40 => ?_)
        obtain ⟨nfault_41, nfaultPlace_42⟩ := u_38
        generalize H1 = H at hw40 ⊢
        have hw43 : WD D A s.heap (WZ_Tape cI cJ ad mr (upd (upd mi 8 nfault_41) 9 nfaultPlace_42) mf mg) H locs := hw40
        obtain ⟨hp_44, hp_45⟩ := hp
        have hp_44 : 1 ≤ nfault_41.toInt := hp_44
        have hp_45 : nfault_41.toInt ≤ 4 := hp_45
        refine lv_aload_n (pc := 28) E.1 E.2.1 dX8_passComparison_28 rfl (lv_at hl4 1 rfl) ?_
        refine ck_v (pc := 29) (ws' := (fun (u : Int32 × Int32 × Int32 × Int32) => (WZ_Tape cI cJ ad mr (upd (upd (upd (upd (upd (upd mi 4 u.1) 5 u.2.2.1) 6 u.2.2.2) 7 u.2.1) 8 nfault_41) 9 nfaultPlace_42) mf mg))) [true, true] hw43 rfl (fun hC_ => (rn_V (As := []) (rest := []) E hw43 (t_step l D cI cJ _ mr (upd (upd mi 8 nfault_41) 9 nfaultPlace_42) mf mg ad av tf h0 h1 h2 h3) (gdV q_722 q_723 q_724 q_160 q_725) hdV_X8_step ⟨rfl, rfl⟩ ⟨(Nat.le_of_ble_eq_true rfl), (Nat.le_of_ble_eq_true rfl)⟩ ⟨(Nat.le_of_ble_eq_true rfl), (Nat.le_of_ble_eq_true rfl)⟩ xT8_b (xT8_at hX hw43.2.2.1 (va_free hw43.2.1 hw43.2.2.1 hw43.2.2.2 _ hC_)) 0 8 rfl rfl rfl _ hC_ (nd_T _ 0) rfl hl4.1 rfl (Nat.le_of_ble_eq_true rfl) dX8_passComparison_29)) rfl (fun _ => rfl) (fun _ => rfl) (fun u_46 H1 locs hp hw48 => ?_)
        obtain ⟨nat_49, nplace_50, nkind_51, nvalue_52⟩ := u_46
        generalize H1 = H at hw48 ⊢
        have hw53 : WD D A s.heap (WZ_Tape cI cJ ad mr (upd (upd (upd (upd (upd (upd mi 4 nat_49) 5 nkind_51) 6 nvalue_52) 7 nplace_50) 8 nfault_41) 9 nfaultPlace_42) mf mg) H locs := hw48
        obtain ⟨hp_54, hp_55⟩ := hp
        have hp_54 : 0 ≤ nat_49.toInt := hp_54
        have hp_55 : nat_49.toInt ≤ (mi 2).toInt := hp_55
        refine lv_iload_n (pc := 32) E.1 E.2.1 dX8_passComparison_32 rfl (lv_at hl4 0 rfl) ?_
        exact em_i (w1 := (fun (u : Int32 × Int32 × Int32 × Int32 × Int32 × Int32) => (WZ_Tape cI cJ ad mr (upd (upd (upd (upd (upd (upd mi 4 u.1) 7 u.2.1) 5 u.2.2.1) 6 u.2.2.2.1) 8 u.2.2.2.2.1) 9 u.2.2.2.2.2) mf mg))) E hr hlk (nat_49, nplace_50, nkind_51, nvalue_52, nfault_41, nfaultPlace_42) hw53 ⟨hp_54, hp_55, (by show 0 ≤ nfault_41.toInt; omega), hp_45⟩ (Nat.le_of_ble_eq_true rfl) (Nat.le_of_ble_eq_true rfl) dX8_passComparison_33
set_option maxHeartbeats 4000000 in
set_option maxRecDepth 100000 in
theorem t_numberA (l : Launch) (D : va_G) (cI cJ : ClassId) (sz : Nat) (mr : Nat → Nat) (mi : Nat → Int32) (mf : Nat → Nat → Int32) (mg : Nat → Nat → Int64) (z_least : Int32) (z_most : Int32) (ad av : Nat → Nat) (tf : Value) (h0 : 0 ≤ (mi 2).toInt ∧ (mi 2).toInt ≤ 400) (h1 : 0 ≤ (mi 4).toInt) (h2 : (mi 4).toInt ≤ (mi 2).toInt) (h3 : 0 ≤ (mi 3).toInt ∧ (mi 3).toInt ≤ 6) (h4 : 0 ≤ (mi 8).toInt ∧ (mi 8).toInt ≤ 4) (h5 : z_least.toInt ≤ z_most.toInt) : Met l yX8_number (Cond.code yX8_number cX8_number 4 (some .int) :: GW) ({ frames := 7, cells := 0, slots := 0, locals := 171 } : Room) (va_Pc [.ref (mr 0), .int z_least, .int z_most] (PW D cI cJ sz (WZ_Tape cI cJ ad mr mi mf mg) (xT8 ad av tf (va_A (WZ_Tape cI cJ ad mr mi mf mg) sz)))) (va_Qi (fun (r : Int32) (u : Int32 × Int32 × Int32 × Int32 × Int32 × Int32) => (0 ≤ u.1.toInt) ∧ (u.1.toInt ≤ (mi 2).toInt) ∧ (0 ≤ u.2.2.2.2.1.toInt) ∧ (u.2.2.2.2.1.toInt ≤ 4) ∧ (z_least.toInt ≤ r.toInt) ∧ (r.toInt ≤ z_most.toInt)) (fun u => QW D cI cJ (va_A (WZ_Tape cI cJ ad mr mi mf mg) sz) ((fun (u : Int32 × Int32 × Int32 × Int32 × Int32 × Int32) => (WZ_Tape cI cJ ad mr (upd (upd (upd (upd (upd (upd mi 4 u.1) 7 u.2.1) 5 u.2.2.1) 6 u.2.2.2.1) 8 u.2.2.2.2.1) 9 u.2.2.2.2.2) mf mg)) u)) (va_A (WZ_Tape cI cJ ad mr mi mf mg) sz)) 0 0 (va_A (WZ_Tape cI cJ ad mr mi mf mg) sz) := by
  refine mk_metA (X := fun A => xT8 ad av tf A) (y := yX8_number) (bytes := cX8_number) (maxL := 4) (avs := [.ref (mr 0), .int z_least, .int z_most]) (WS := (WZ_Tape cI cJ ad mr mi mf mg)) (Qf := fun A => va_Qi (fun (r : Int32) (u : Int32 × Int32 × Int32 × Int32 × Int32 × Int32) => (0 ≤ u.1.toInt) ∧ (u.1.toInt ≤ (mi 2).toInt) ∧ (0 ≤ u.2.2.2.2.1.toInt) ∧ (u.2.2.2.2.1.toInt ≤ 4) ∧ (z_least.toInt ≤ r.toInt) ∧ (r.toInt ≤ z_most.toInt)) (fun u => QW D cI cJ A ((fun (u : Int32 × Int32 × Int32 × Int32 × Int32 × Int32) => (WZ_Tape cI cJ ad mr (upd (upd (upd (upd (upd (upd mi 4 u.1) 7 u.2.1) 5 u.2.2.1) 6 u.2.2.2.1) 8 u.2.2.2.2.1) 9 u.2.2.2.2.2) mf mg)) u)) A) (by decide) (Nat.le_of_ble_eq_true rfl) ?_
  intro p e s m below meth c A ls E hr hlk hnm hX hw1 hl2
  have hl3 : lv_has ls 4 [(0, .ref (mr 0)), (1, .int z_least), (2, .int z_most)] := hl2
  refine lv_aload_n (pc := 0) E.1 E.2.1 dX8_number_0 rfl (lv_at hl3 0 rfl) ?_
  refine x_get (pc := 1) (T := TX8) (N := 9) (ci := 8) (v := .int (mi 5)) E hw1 inX8 0 4 q_546 rfl rfl (by decide) rfl rfl dX8_number_1 ?_
  refine lv_iconst (pc := 4) (v := 1) E.1 E.2.1 dX8_number_4 (by decide +kernel) ?_
  refine lv_icmp_eq (pc := 5) (tgt := 16) E.1 E.2.1 dX8_number_5 (by decide) (fun c_4 => ?_) (fun c_4 => ?_)
  · skip
    have hc_4 := eqE (a := (mi 5).toInt) (b := 1) rfl (by decide +kernel) c_4
    refine lv_aload_n (pc := 16) E.1 E.2.1 dX8_number_16 rfl (lv_at hl3 0 rfl) ?_
    refine x_get (pc := 17) (T := TX8) (N := 9) (ci := 8) (v := .int (mi 6)) E hw1 inX8 0 5 q_548 rfl rfl (by decide) rfl rfl dX8_number_17 ?_
    refine lv_iload_n (pc := 20) E.1 E.2.1 dX8_number_20 rfl (lv_at hl3 1 rfl) ?_
    refine lv_icmp_lt (pc := 21) (tgt := 32) E.1 E.2.1 dX8_number_21 (by decide) (fun c_5 => ?_) (fun c_5 => ?_)
    · skip
      have hc_5 := ltE (a := (mi 6).toInt) (b := z_least.toInt) rfl rfl c_5
      refine lv_aload_n (pc := 32) E.1 E.2.1 dX8_number_32 rfl (lv_at hl3 0 rfl) ?_
      refine lv_iconst (pc := 33) (v := 2) E.1 E.2.1 dX8_number_33 (by decide +kernel) ?_
      refine ck_v (pc := 34) (ws' := (fun (u : Int32 × Int32) => (WZ_Tape cI cJ ad mr (upd (upd mi 8 u.1) 9 u.2) mf mg))) [true, true] hw1 rfl (fun hC_ => (rn_V (As := [.int 2]) (rest := []) E hw1 (t_refuse l D cI cJ _ mr mi mf mg 2 ad (by show 1 ≤ (2 : Int32).toInt ∧ (2 : Int32).toInt ≤ 4; have k_0 : (2 : Int32).toInt = 2 := (by decide +kernel); omega) h4) (gdV q_864 q_857 q_858 q_160 q_859) hdV_X8_refuse ⟨rfl, rfl⟩ ⟨(Nat.le_of_ble_eq_true rfl), (Nat.le_of_ble_eq_true rfl)⟩ ⟨(Nat.le_of_ble_eq_true rfl), (Nat.le_of_ble_eq_true rfl)⟩ xT_b xT_at 0 8 rfl rfl rfl _ hC_ (nd_T _ 0) rfl hl3.1 rfl (Nat.le_of_ble_eq_true rfl) dX8_number_34)) rfl (fun _ => rfl) (fun _ => rfl) (fun u_6 H1 locs hp hw8 => ?_)
      obtain ⟨nfault_9, nfaultPlace_10⟩ := u_6
      generalize H1 = H at hw8 ⊢
      have hw11 : WD D A s.heap (WZ_Tape cI cJ ad mr (upd (upd mi 8 nfault_9) 9 nfaultPlace_10) mf mg) H locs := hw8
      obtain ⟨hp_12, hp_13⟩ := hp
      have hp_12 : 1 ≤ nfault_9.toInt := hp_12
      have hp_13 : nfault_9.toInt ≤ 4 := hp_13
      refine lv_aload_n (pc := 37) E.1 E.2.1 dX8_number_37 rfl (lv_at hl3 0 rfl) ?_
      refine x_get (pc := 38) (T := TX8) (N := 9) (ci := 8) (v := .int nfault_9) E hw11 inX8 0 7 q_550 rfl rfl (by decide) rfl rfl dX8_number_38 ?_
      refine lv_if_ne (pc := 41) (tgt := 51) E.1 E.2.1 dX8_number_41 (by decide) (fun _ => ?_) (fun c_14 => absurd c_14 (mneE (a := nfault_9.toInt) (b := 0) rfl (by decide +kernel) (by omega)))
      refine lv_iload_n (pc := 51) E.1 E.2.1 dX8_number_51 rfl (lv_at hl3 1 rfl) ?_
      refine lv_istore_n (pc := 52) (lv' := [(3, .int z_least), (0, .ref (mr 0)), (1, .int z_least), (2, .int z_most)]) E.1 E.2.1 dX8_number_52 rfl hl3 (by decide) rfl (fun ls hl15 => ?_)
      refine lv_aload_n (pc := 53) E.1 E.2.1 dX8_number_53 rfl (lv_at hl15 1 rfl) ?_
      refine ck_v (pc := 54) (ws' := (fun (u : Int32 × Int32 × Int32 × Int32) => (WZ_Tape cI cJ ad mr (upd (upd (upd (upd (upd (upd mi 4 u.1) 5 u.2.2.1) 6 u.2.2.2) 7 u.2.1) 8 nfault_9) 9 nfaultPlace_10) mf mg))) [true, true] hw11 rfl (fun hC_ => (rn_V (As := []) (rest := []) E hw11 (t_step l D cI cJ _ mr (upd (upd mi 8 nfault_9) 9 nfaultPlace_10) mf mg ad av tf h0 h1 h2 h3) (gdV q_722 q_723 q_724 q_160 q_725) hdV_X8_step ⟨rfl, rfl⟩ ⟨(Nat.le_of_ble_eq_true rfl), (Nat.le_of_ble_eq_true rfl)⟩ ⟨(Nat.le_of_ble_eq_true rfl), (Nat.le_of_ble_eq_true rfl)⟩ xT8_b (xT8_at hX hw11.2.2.1 (va_free hw11.2.1 hw11.2.2.1 hw11.2.2.2 _ hC_)) 0 8 rfl rfl rfl _ hC_ (nd_T _ 0) rfl hl15.1 rfl (Nat.le_of_ble_eq_true rfl) dX8_number_54)) rfl (fun _ => rfl) (fun _ => rfl) (fun u_16 H1 locs hp hw18 => ?_)
      obtain ⟨nat_19, nplace_20, nkind_21, nvalue_22⟩ := u_16
      generalize H1 = H at hw18 ⊢
      have hw23 : WD D A s.heap (WZ_Tape cI cJ ad mr (upd (upd (upd (upd (upd (upd mi 4 nat_19) 5 nkind_21) 6 nvalue_22) 7 nplace_20) 8 nfault_9) 9 nfaultPlace_10) mf mg) H locs := hw18
      obtain ⟨hp_24, hp_25⟩ := hp
      have hp_24 : 0 ≤ nat_19.toInt := hp_24
      have hp_25 : nat_19.toInt ≤ (mi 2).toInt := hp_25
      refine lv_iload_n (pc := 57) E.1 E.2.1 dX8_number_57 rfl (lv_at hl15 0 rfl) ?_
      exact em_i (w1 := (fun (u : Int32 × Int32 × Int32 × Int32 × Int32 × Int32) => (WZ_Tape cI cJ ad mr (upd (upd (upd (upd (upd (upd mi 4 u.1) 7 u.2.1) 5 u.2.2.1) 6 u.2.2.2.1) 8 u.2.2.2.2.1) 9 u.2.2.2.2.2) mf mg))) E hr hlk (nat_19, nplace_20, nkind_21, nvalue_22, nfault_9, nfaultPlace_10) hw23 ⟨hp_24, hp_25, (by show 0 ≤ nfault_9.toInt; omega), hp_13, (by show z_least.toInt ≤ z_least.toInt; omega), h5⟩ (Nat.le_of_ble_eq_true rfl) (Nat.le_of_ble_eq_true rfl) dX8_number_58
    · skip
      have hc_5 := nltE (a := (mi 6).toInt) (b := z_least.toInt) rfl rfl c_5
      refine lv_aload_n (pc := 24) E.1 E.2.1 dX8_number_24 rfl (lv_at hl3 0 rfl) ?_
      refine x_get (pc := 25) (T := TX8) (N := 9) (ci := 8) (v := .int (mi 6)) E hw1 inX8 0 5 q_548 rfl rfl (by decide) rfl rfl dX8_number_25 ?_
      refine lv_iload_n (pc := 28) E.1 E.2.1 dX8_number_28 rfl (lv_at hl3 2 rfl) ?_
      refine lv_icmp_le (pc := 29) (tgt := 37) E.1 E.2.1 dX8_number_29 (by decide) (fun c_26 => ?_) (fun c_26 => ?_)
      · skip
        have hc_26 := leE (a := (mi 6).toInt) (b := z_most.toInt) rfl rfl c_26
        refine lv_aload_n (pc := 37) E.1 E.2.1 dX8_number_37 rfl (lv_at hl3 0 rfl) ?_
        refine x_get (pc := 38) (T := TX8) (N := 9) (ci := 8) (v := .int (mi 8)) E hw1 inX8 0 7 q_550 rfl rfl (by decide) rfl rfl dX8_number_38 ?_
        refine lv_if_ne (pc := 41) (tgt := 51) E.1 E.2.1 dX8_number_41 (by decide) (fun c_27 => ?_) (fun c_27 => ?_)
        · skip
          have hc_27 := neE (a := (mi 8).toInt) (b := 0) rfl (by decide +kernel) c_27
          refine lv_iload_n (pc := 51) E.1 E.2.1 dX8_number_51 rfl (lv_at hl3 1 rfl) ?_
          refine lv_istore_n (pc := 52) (lv' := [(3, .int z_least), (0, .ref (mr 0)), (1, .int z_least), (2, .int z_most)]) E.1 E.2.1 dX8_number_52 rfl hl3 (by decide) rfl (fun ls hl28 => ?_)
          refine lv_aload_n (pc := 53) E.1 E.2.1 dX8_number_53 rfl (lv_at hl28 1 rfl) ?_
          refine ck_v (pc := 54) (ws' := (fun (u : Int32 × Int32 × Int32 × Int32) => (WZ_Tape cI cJ ad mr (upd (upd (upd (upd mi 4 u.1) 5 u.2.2.1) 6 u.2.2.2) 7 u.2.1) mf mg))) [true, true] hw1 rfl (fun hC_ => (rn_V (As := []) (rest := []) E hw1 (t_step l D cI cJ _ mr mi mf mg ad av tf h0 h1 h2 h3) (gdV q_722 q_723 q_724 q_160 q_725) hdV_X8_step ⟨rfl, rfl⟩ ⟨(Nat.le_of_ble_eq_true rfl), (Nat.le_of_ble_eq_true rfl)⟩ ⟨(Nat.le_of_ble_eq_true rfl), (Nat.le_of_ble_eq_true rfl)⟩ xT8_b (xT8_at hX hw1.2.2.1 (va_free hw1.2.1 hw1.2.2.1 hw1.2.2.2 _ hC_)) 0 8 rfl rfl rfl _ hC_ (nd_T _ 0) rfl hl28.1 rfl (Nat.le_of_ble_eq_true rfl) dX8_number_54)) rfl (fun _ => rfl) (fun _ => rfl) (fun u_29 H1 locs hp hw31 => ?_)
          obtain ⟨nat_32, nplace_33, nkind_34, nvalue_35⟩ := u_29
          generalize H1 = H at hw31 ⊢
          have hw36 : WD D A s.heap (WZ_Tape cI cJ ad mr (upd (upd (upd (upd mi 4 nat_32) 5 nkind_34) 6 nvalue_35) 7 nplace_33) mf mg) H locs := hw31
          obtain ⟨hp_37, hp_38⟩ := hp
          have hp_37 : 0 ≤ nat_32.toInt := hp_37
          have hp_38 : nat_32.toInt ≤ (mi 2).toInt := hp_38
          refine lv_iload_n (pc := 57) E.1 E.2.1 dX8_number_57 rfl (lv_at hl28 0 rfl) ?_
          exact em_i (w1 := (fun (u : Int32 × Int32 × Int32 × Int32 × Int32 × Int32) => (WZ_Tape cI cJ ad mr (upd (upd (upd (upd (upd (upd mi 4 u.1) 7 u.2.1) 5 u.2.2.1) 6 u.2.2.2.1) 8 u.2.2.2.2.1) 9 u.2.2.2.2.2) mf mg))) E hr hlk (nat_32, nplace_33, nkind_34, nvalue_35, (mi 8), (mi 9)) hw36 ⟨hp_37, hp_38, h4.1, h4.2, (by show z_least.toInt ≤ z_least.toInt; omega), h5⟩ (Nat.le_of_ble_eq_true rfl) (Nat.le_of_ble_eq_true rfl) dX8_number_58
        · skip
          have hc_27 := eqE (a := (mi 8).toInt) (b := 0) rfl (by decide +kernel) c_27
          refine lv_aload_n (pc := 44) E.1 E.2.1 dX8_number_44 rfl (lv_at hl3 0 rfl) ?_
          refine x_get (pc := 45) (T := TX8) (N := 9) (ci := 8) (v := .int (mi 6)) E hw1 inX8 0 5 q_548 rfl rfl (by decide) rfl rfl dX8_number_45 ?_
          refine lv_goto (pc := 48) (tgt := 52) E.1 E.2.1 dX8_number_48 (by decide) ?_
          refine lv_istore_n (pc := 52) (lv' := [(3, .int (mi 6)), (0, .ref (mr 0)), (1, .int z_least), (2, .int z_most)]) E.1 E.2.1 dX8_number_52 rfl hl3 (by decide) rfl (fun ls hl39 => ?_)
          refine lv_aload_n (pc := 53) E.1 E.2.1 dX8_number_53 rfl (lv_at hl39 1 rfl) ?_
          refine ck_v (pc := 54) (ws' := (fun (u : Int32 × Int32 × Int32 × Int32) => (WZ_Tape cI cJ ad mr (upd (upd (upd (upd mi 4 u.1) 5 u.2.2.1) 6 u.2.2.2) 7 u.2.1) mf mg))) [true, true] hw1 rfl (fun hC_ => (rn_V (As := []) (rest := []) E hw1 (t_step l D cI cJ _ mr mi mf mg ad av tf h0 h1 h2 h3) (gdV q_722 q_723 q_724 q_160 q_725) hdV_X8_step ⟨rfl, rfl⟩ ⟨(Nat.le_of_ble_eq_true rfl), (Nat.le_of_ble_eq_true rfl)⟩ ⟨(Nat.le_of_ble_eq_true rfl), (Nat.le_of_ble_eq_true rfl)⟩ xT8_b (xT8_at hX hw1.2.2.1 (va_free hw1.2.1 hw1.2.2.1 hw1.2.2.2 _ hC_)) 0 8 rfl rfl rfl _ hC_ (nd_T _ 0) rfl hl39.1 rfl (Nat.le_of_ble_eq_true rfl) dX8_number_54)) rfl (fun _ => rfl) (fun _ => rfl) (fun u_40 H1 locs hp hw42 => ?_)
          obtain ⟨nat_43, nplace_44, nkind_45, nvalue_46⟩ := u_40
          generalize H1 = H at hw42 ⊢
          have hw47 : WD D A s.heap (WZ_Tape cI cJ ad mr (upd (upd (upd (upd mi 4 nat_43) 5 nkind_45) 6 nvalue_46) 7 nplace_44) mf mg) H locs := hw42
          obtain ⟨hp_48, hp_49⟩ := hp
          have hp_48 : 0 ≤ nat_43.toInt := hp_48
          have hp_49 : nat_43.toInt ≤ (mi 2).toInt := hp_49
          refine lv_iload_n (pc := 57) E.1 E.2.1 dX8_number_57 rfl (lv_at hl39 0 rfl) ?_
          exact em_i (w1 := (fun (u : Int32 × Int32 × Int32 × Int32 × Int32 × Int32) => (WZ_Tape cI cJ ad mr (upd (upd (upd (upd (upd (upd mi 4 u.1) 7 u.2.1) 5 u.2.2.1) 6 u.2.2.2.1) 8 u.2.2.2.2.1) 9 u.2.2.2.2.2) mf mg))) E hr hlk (nat_43, nplace_44, nkind_45, nvalue_46, (mi 8), (mi 9)) hw47 ⟨hp_48, hp_49, h4.1, h4.2, (by show z_least.toInt ≤ (mi 6).toInt; omega), (by show (mi 6).toInt ≤ z_most.toInt; omega)⟩ (Nat.le_of_ble_eq_true rfl) (Nat.le_of_ble_eq_true rfl) dX8_number_58
      · skip
        have hc_26 := nleE (a := (mi 6).toInt) (b := z_most.toInt) rfl rfl c_26
        refine lv_aload_n (pc := 32) E.1 E.2.1 dX8_number_32 rfl (lv_at hl3 0 rfl) ?_
        refine lv_iconst (pc := 33) (v := 2) E.1 E.2.1 dX8_number_33 (by decide +kernel) ?_
        refine ck_v (pc := 34) (ws' := (fun (u : Int32 × Int32) => (WZ_Tape cI cJ ad mr (upd (upd mi 8 u.1) 9 u.2) mf mg))) [true, true] hw1 rfl (fun hC_ => (rn_V (As := [.int 2]) (rest := []) E hw1 (t_refuse l D cI cJ _ mr mi mf mg 2 ad (by show 1 ≤ (2 : Int32).toInt ∧ (2 : Int32).toInt ≤ 4; have k_0 : (2 : Int32).toInt = 2 := (by decide +kernel); omega) h4) (gdV q_864 q_857 q_858 q_160 q_859) hdV_X8_refuse ⟨rfl, rfl⟩ ⟨(Nat.le_of_ble_eq_true rfl), (Nat.le_of_ble_eq_true rfl)⟩ ⟨(Nat.le_of_ble_eq_true rfl), (Nat.le_of_ble_eq_true rfl)⟩ xT_b xT_at 0 8 rfl rfl rfl _ hC_ (nd_T _ 0) rfl hl3.1 rfl (Nat.le_of_ble_eq_true rfl) dX8_number_34)) rfl (fun _ => rfl) (fun _ => rfl) (fun u_50 H1 locs hp hw52 => ?_)
        obtain ⟨nfault_53, nfaultPlace_54⟩ := u_50
        generalize H1 = H at hw52 ⊢
        have hw55 : WD D A s.heap (WZ_Tape cI cJ ad mr (upd (upd mi 8 nfault_53) 9 nfaultPlace_54) mf mg) H locs := hw52
        obtain ⟨hp_56, hp_57⟩ := hp
        have hp_56 : 1 ≤ nfault_53.toInt := hp_56
        have hp_57 : nfault_53.toInt ≤ 4 := hp_57
        refine lv_aload_n (pc := 37) E.1 E.2.1 dX8_number_37 rfl (lv_at hl3 0 rfl) ?_
        refine x_get (pc := 38) (T := TX8) (N := 9) (ci := 8) (v := .int nfault_53) E hw55 inX8 0 7 q_550 rfl rfl (by decide) rfl rfl dX8_number_38 ?_
        refine lv_if_ne (pc := 41) (tgt := 51) E.1 E.2.1 dX8_number_41 (by decide) (fun _ => ?_) (fun c_58 => absurd c_58 (mneE (a := nfault_53.toInt) (b := 0) rfl (by decide +kernel) (by omega)))
        refine lv_iload_n (pc := 51) E.1 E.2.1 dX8_number_51 rfl (lv_at hl3 1 rfl) ?_
        refine lv_istore_n (pc := 52) (lv' := [(3, .int z_least), (0, .ref (mr 0)), (1, .int z_least), (2, .int z_most)]) E.1 E.2.1 dX8_number_52 rfl hl3 (by decide) rfl (fun ls hl59 => ?_)
        refine lv_aload_n (pc := 53) E.1 E.2.1 dX8_number_53 rfl (lv_at hl59 1 rfl) ?_
        refine ck_v (pc := 54) (ws' := (fun (u : Int32 × Int32 × Int32 × Int32) => (WZ_Tape cI cJ ad mr (upd (upd (upd (upd (upd (upd mi 4 u.1) 5 u.2.2.1) 6 u.2.2.2) 7 u.2.1) 8 nfault_53) 9 nfaultPlace_54) mf mg))) [true, true] hw55 rfl (fun hC_ => (rn_V (As := []) (rest := []) E hw55 (t_step l D cI cJ _ mr (upd (upd mi 8 nfault_53) 9 nfaultPlace_54) mf mg ad av tf h0 h1 h2 h3) (gdV q_722 q_723 q_724 q_160 q_725) hdV_X8_step ⟨rfl, rfl⟩ ⟨(Nat.le_of_ble_eq_true rfl), (Nat.le_of_ble_eq_true rfl)⟩ ⟨(Nat.le_of_ble_eq_true rfl), (Nat.le_of_ble_eq_true rfl)⟩ xT8_b (xT8_at hX hw55.2.2.1 (va_free hw55.2.1 hw55.2.2.1 hw55.2.2.2 _ hC_)) 0 8 rfl rfl rfl _ hC_ (nd_T _ 0) rfl hl59.1 rfl (Nat.le_of_ble_eq_true rfl) dX8_number_54)) rfl (fun _ => rfl) (fun _ => rfl) (fun u_60 H1 locs hp hw62 => ?_)
        obtain ⟨nat_63, nplace_64, nkind_65, nvalue_66⟩ := u_60
        generalize H1 = H at hw62 ⊢
        have hw67 : WD D A s.heap (WZ_Tape cI cJ ad mr (upd (upd (upd (upd (upd (upd mi 4 nat_63) 5 nkind_65) 6 nvalue_66) 7 nplace_64) 8 nfault_53) 9 nfaultPlace_54) mf mg) H locs := hw62
        obtain ⟨hp_68, hp_69⟩ := hp
        have hp_68 : 0 ≤ nat_63.toInt := hp_68
        have hp_69 : nat_63.toInt ≤ (mi 2).toInt := hp_69
        refine lv_iload_n (pc := 57) E.1 E.2.1 dX8_number_57 rfl (lv_at hl59 0 rfl) ?_
        exact em_i (w1 := (fun (u : Int32 × Int32 × Int32 × Int32 × Int32 × Int32) => (WZ_Tape cI cJ ad mr (upd (upd (upd (upd (upd (upd mi 4 u.1) 7 u.2.1) 5 u.2.2.1) 6 u.2.2.2.1) 8 u.2.2.2.2.1) 9 u.2.2.2.2.2) mf mg))) E hr hlk (nat_63, nplace_64, nkind_65, nvalue_66, nfault_53, nfaultPlace_54) hw67 ⟨hp_68, hp_69, (by show 0 ≤ nfault_53.toInt; omega), hp_57, (by show z_least.toInt ≤ z_least.toInt; omega), h5⟩ (Nat.le_of_ble_eq_true rfl) (Nat.le_of_ble_eq_true rfl) dX8_number_58
  · skip
    have hc_4 := neE (a := (mi 5).toInt) (b := 1) rfl (by decide +kernel) c_4
    refine lv_aload_n (pc := 8) E.1 E.2.1 dX8_number_8 rfl (lv_at hl3 0 rfl) ?_
    refine lv_iconst (pc := 9) (v := 1) E.1 E.2.1 dX8_number_9 (by decide +kernel) ?_
    refine ck_v (pc := 10) (ws' := (fun (u : Int32 × Int32) => (WZ_Tape cI cJ ad mr (upd (upd mi 8 u.1) 9 u.2) mf mg))) [true, true] hw1 rfl (fun hC_ => (rn_V (As := [.int 1]) (rest := []) E hw1 (t_refuse l D cI cJ _ mr mi mf mg 1 ad (by show 1 ≤ (1 : Int32).toInt ∧ (1 : Int32).toInt ≤ 4; have k_0 : (1 : Int32).toInt = 1 := (by decide +kernel); omega) h4) (gdV q_864 q_857 q_858 q_160 q_859) hdV_X8_refuse ⟨rfl, rfl⟩ ⟨(Nat.le_of_ble_eq_true rfl), (Nat.le_of_ble_eq_true rfl)⟩ ⟨(Nat.le_of_ble_eq_true rfl), (Nat.le_of_ble_eq_true rfl)⟩ xT_b xT_at 0 8 rfl rfl rfl _ hC_ (nd_T _ 0) rfl hl3.1 rfl (Nat.le_of_ble_eq_true rfl) dX8_number_10)) rfl (fun _ => rfl) (fun _ => rfl) (fun u_70 H1 locs hp hw72 => ?_)
    obtain ⟨nfault_73, nfaultPlace_74⟩ := u_70
    generalize H1 = H at hw72 ⊢
    have hw75 : WD D A s.heap (WZ_Tape cI cJ ad mr (upd (upd mi 8 nfault_73) 9 nfaultPlace_74) mf mg) H locs := hw72
    obtain ⟨hp_76, hp_77⟩ := hp
    have hp_76 : 1 ≤ nfault_73.toInt := hp_76
    have hp_77 : nfault_73.toInt ≤ 4 := hp_77
    refine lv_goto (pc := 13) (tgt := 37) E.1 E.2.1 dX8_number_13 (by decide) ?_
    refine lv_aload_n (pc := 37) E.1 E.2.1 dX8_number_37 rfl (lv_at hl3 0 rfl) ?_
    refine x_get (pc := 38) (T := TX8) (N := 9) (ci := 8) (v := .int nfault_73) E hw75 inX8 0 7 q_550 rfl rfl (by decide) rfl rfl dX8_number_38 ?_
    refine lv_if_ne (pc := 41) (tgt := 51) E.1 E.2.1 dX8_number_41 (by decide) (fun _ => ?_) (fun c_78 => absurd c_78 (mneE (a := nfault_73.toInt) (b := 0) rfl (by decide +kernel) (by omega)))
    refine lv_iload_n (pc := 51) E.1 E.2.1 dX8_number_51 rfl (lv_at hl3 1 rfl) ?_
    refine lv_istore_n (pc := 52) (lv' := [(3, .int z_least), (0, .ref (mr 0)), (1, .int z_least), (2, .int z_most)]) E.1 E.2.1 dX8_number_52 rfl hl3 (by decide) rfl (fun ls hl79 => ?_)
    refine lv_aload_n (pc := 53) E.1 E.2.1 dX8_number_53 rfl (lv_at hl79 1 rfl) ?_
    refine ck_v (pc := 54) (ws' := (fun (u : Int32 × Int32 × Int32 × Int32) => (WZ_Tape cI cJ ad mr (upd (upd (upd (upd (upd (upd mi 4 u.1) 5 u.2.2.1) 6 u.2.2.2) 7 u.2.1) 8 nfault_73) 9 nfaultPlace_74) mf mg))) [true, true] hw75 rfl (fun hC_ => (rn_V (As := []) (rest := []) E hw75 (t_step l D cI cJ _ mr (upd (upd mi 8 nfault_73) 9 nfaultPlace_74) mf mg ad av tf h0 h1 h2 h3) (gdV q_722 q_723 q_724 q_160 q_725) hdV_X8_step ⟨rfl, rfl⟩ ⟨(Nat.le_of_ble_eq_true rfl), (Nat.le_of_ble_eq_true rfl)⟩ ⟨(Nat.le_of_ble_eq_true rfl), (Nat.le_of_ble_eq_true rfl)⟩ xT8_b (xT8_at hX hw75.2.2.1 (va_free hw75.2.1 hw75.2.2.1 hw75.2.2.2 _ hC_)) 0 8 rfl rfl rfl _ hC_ (nd_T _ 0) rfl hl79.1 rfl (Nat.le_of_ble_eq_true rfl) dX8_number_54)) rfl (fun _ => rfl) (fun _ => rfl) (fun u_80 H1 locs hp hw82 => ?_)
    obtain ⟨nat_83, nplace_84, nkind_85, nvalue_86⟩ := u_80
    generalize H1 = H at hw82 ⊢
    have hw87 : WD D A s.heap (WZ_Tape cI cJ ad mr (upd (upd (upd (upd (upd (upd mi 4 nat_83) 5 nkind_85) 6 nvalue_86) 7 nplace_84) 8 nfault_73) 9 nfaultPlace_74) mf mg) H locs := hw82
    obtain ⟨hp_88, hp_89⟩ := hp
    have hp_88 : 0 ≤ nat_83.toInt := hp_88
    have hp_89 : nat_83.toInt ≤ (mi 2).toInt := hp_89
    refine lv_iload_n (pc := 57) E.1 E.2.1 dX8_number_57 rfl (lv_at hl79 0 rfl) ?_
    exact em_i (w1 := (fun (u : Int32 × Int32 × Int32 × Int32 × Int32 × Int32) => (WZ_Tape cI cJ ad mr (upd (upd (upd (upd (upd (upd mi 4 u.1) 7 u.2.1) 5 u.2.2.1) 6 u.2.2.2.1) 8 u.2.2.2.2.1) 9 u.2.2.2.2.2) mf mg))) E hr hlk (nat_83, nplace_84, nkind_85, nvalue_86, nfault_73, nfaultPlace_74) hw87 ⟨hp_88, hp_89, (by show 0 ≤ nfault_73.toInt; omega), hp_77, (by show z_least.toInt ≤ z_least.toInt; omega), h5⟩ (Nat.le_of_ble_eq_true rfl) (Nat.le_of_ble_eq_true rfl) dX8_number_58
set_option maxHeartbeats 4000000 in
set_option maxRecDepth 100000 in
theorem t_numberB (l : Launch) (D : va_G) (cI cJ : ClassId) (sz : Nat) (mr : Nat → Nat) (mi : Nat → Int32) (mf : Nat → Nat → Int32) (mg : Nat → Nat → Int64) (z_least : Int32) (z_most : Int32) (ad av : Nat → Nat) (tf : Value) (h0 : 0 ≤ (mi 2).toInt ∧ (mi 2).toInt ≤ 400) (h1 : 0 ≤ (mi 4).toInt) (h2 : (mi 4).toInt ≤ (mi 2).toInt) (h3 : 0 ≤ (mi 3).toInt ∧ (mi 3).toInt ≤ 6) (h4 : 0 ≤ (mi 8).toInt ∧ (mi 8).toInt ≤ 4) (h5 : 0 ≤ z_least.toInt) (h6 : z_least.toInt ≤ 9) (h7 : z_most.toInt ≤ 9) : Met l yX8_number (Cond.code yX8_number cX8_number 4 (some .int) :: GW) ({ frames := 7, cells := 0, slots := 0, locals := 171 } : Room) (va_Pc [.ref (mr 0), .int z_least, .int z_most] (PW D cI cJ sz (WZ_Tape cI cJ ad mr mi mf mg) (xT8 ad av tf (va_A (WZ_Tape cI cJ ad mr mi mf mg) sz)))) (va_Qi (fun (r : Int32) (u : Int32 × Int32 × Int32 × Int32 × Int32 × Int32) => (0 ≤ u.1.toInt) ∧ (u.1.toInt ≤ (mi 2).toInt) ∧ (0 ≤ u.2.2.2.2.1.toInt) ∧ (u.2.2.2.2.1.toInt ≤ 4) ∧ (0 ≤ r.toInt) ∧ (r.toInt ≤ 9)) (fun u => QW D cI cJ (va_A (WZ_Tape cI cJ ad mr mi mf mg) sz) ((fun (u : Int32 × Int32 × Int32 × Int32 × Int32 × Int32) => (WZ_Tape cI cJ ad mr (upd (upd (upd (upd (upd (upd mi 4 u.1) 7 u.2.1) 5 u.2.2.1) 6 u.2.2.2.1) 8 u.2.2.2.2.1) 9 u.2.2.2.2.2) mf mg)) u)) (va_A (WZ_Tape cI cJ ad mr mi mf mg) sz)) 0 0 (va_A (WZ_Tape cI cJ ad mr mi mf mg) sz) := by
  refine mk_metA (X := fun A => xT8 ad av tf A) (y := yX8_number) (bytes := cX8_number) (maxL := 4) (avs := [.ref (mr 0), .int z_least, .int z_most]) (WS := (WZ_Tape cI cJ ad mr mi mf mg)) (Qf := fun A => va_Qi (fun (r : Int32) (u : Int32 × Int32 × Int32 × Int32 × Int32 × Int32) => (0 ≤ u.1.toInt) ∧ (u.1.toInt ≤ (mi 2).toInt) ∧ (0 ≤ u.2.2.2.2.1.toInt) ∧ (u.2.2.2.2.1.toInt ≤ 4) ∧ (0 ≤ r.toInt) ∧ (r.toInt ≤ 9)) (fun u => QW D cI cJ A ((fun (u : Int32 × Int32 × Int32 × Int32 × Int32 × Int32) => (WZ_Tape cI cJ ad mr (upd (upd (upd (upd (upd (upd mi 4 u.1) 7 u.2.1) 5 u.2.2.1) 6 u.2.2.2.1) 8 u.2.2.2.2.1) 9 u.2.2.2.2.2) mf mg)) u)) A) (by decide) (Nat.le_of_ble_eq_true rfl) ?_
  intro p e s m below meth c A ls E hr hlk hnm hX hw1 hl2
  have hl3 : lv_has ls 4 [(0, .ref (mr 0)), (1, .int z_least), (2, .int z_most)] := hl2
  refine lv_aload_n (pc := 0) E.1 E.2.1 dX8_number_0 rfl (lv_at hl3 0 rfl) ?_
  refine x_get (pc := 1) (T := TX8) (N := 9) (ci := 8) (v := .int (mi 5)) E hw1 inX8 0 4 q_546 rfl rfl (by decide) rfl rfl dX8_number_1 ?_
  refine lv_iconst (pc := 4) (v := 1) E.1 E.2.1 dX8_number_4 (by decide +kernel) ?_
  refine lv_icmp_eq (pc := 5) (tgt := 16) E.1 E.2.1 dX8_number_5 (by decide) (fun c_4 => ?_) (fun c_4 => ?_)
  · skip
    have hc_4 := eqE (a := (mi 5).toInt) (b := 1) rfl (by decide +kernel) c_4
    refine lv_aload_n (pc := 16) E.1 E.2.1 dX8_number_16 rfl (lv_at hl3 0 rfl) ?_
    refine x_get (pc := 17) (T := TX8) (N := 9) (ci := 8) (v := .int (mi 6)) E hw1 inX8 0 5 q_548 rfl rfl (by decide) rfl rfl dX8_number_17 ?_
    refine lv_iload_n (pc := 20) E.1 E.2.1 dX8_number_20 rfl (lv_at hl3 1 rfl) ?_
    refine lv_icmp_lt (pc := 21) (tgt := 32) E.1 E.2.1 dX8_number_21 (by decide) (fun c_5 => ?_) (fun c_5 => ?_)
    · skip
      have hc_5 := ltE (a := (mi 6).toInt) (b := z_least.toInt) rfl rfl c_5
      refine lv_aload_n (pc := 32) E.1 E.2.1 dX8_number_32 rfl (lv_at hl3 0 rfl) ?_
      refine lv_iconst (pc := 33) (v := 2) E.1 E.2.1 dX8_number_33 (by decide +kernel) ?_
      refine ck_v (pc := 34) (ws' := (fun (u : Int32 × Int32) => (WZ_Tape cI cJ ad mr (upd (upd mi 8 u.1) 9 u.2) mf mg))) [true, true] hw1 rfl (fun hC_ => (rn_V (As := [.int 2]) (rest := []) E hw1 (t_refuse l D cI cJ _ mr mi mf mg 2 ad (by show 1 ≤ (2 : Int32).toInt ∧ (2 : Int32).toInt ≤ 4; have k_0 : (2 : Int32).toInt = 2 := (by decide +kernel); omega) h4) (gdV q_864 q_857 q_858 q_160 q_859) hdV_X8_refuse ⟨rfl, rfl⟩ ⟨(Nat.le_of_ble_eq_true rfl), (Nat.le_of_ble_eq_true rfl)⟩ ⟨(Nat.le_of_ble_eq_true rfl), (Nat.le_of_ble_eq_true rfl)⟩ xT_b xT_at 0 8 rfl rfl rfl _ hC_ (nd_T _ 0) rfl hl3.1 rfl (Nat.le_of_ble_eq_true rfl) dX8_number_34)) rfl (fun _ => rfl) (fun _ => rfl) (fun u_6 H1 locs hp hw8 => ?_)
      obtain ⟨nfault_9, nfaultPlace_10⟩ := u_6
      generalize H1 = H at hw8 ⊢
      have hw11 : WD D A s.heap (WZ_Tape cI cJ ad mr (upd (upd mi 8 nfault_9) 9 nfaultPlace_10) mf mg) H locs := hw8
      obtain ⟨hp_12, hp_13⟩ := hp
      have hp_12 : 1 ≤ nfault_9.toInt := hp_12
      have hp_13 : nfault_9.toInt ≤ 4 := hp_13
      refine lv_aload_n (pc := 37) E.1 E.2.1 dX8_number_37 rfl (lv_at hl3 0 rfl) ?_
      refine x_get (pc := 38) (T := TX8) (N := 9) (ci := 8) (v := .int nfault_9) E hw11 inX8 0 7 q_550 rfl rfl (by decide) rfl rfl dX8_number_38 ?_
      refine lv_if_ne (pc := 41) (tgt := 51) E.1 E.2.1 dX8_number_41 (by decide) (fun _ => ?_) (fun c_14 => absurd c_14 (mneE (a := nfault_9.toInt) (b := 0) rfl (by decide +kernel) (by omega)))
      refine lv_iload_n (pc := 51) E.1 E.2.1 dX8_number_51 rfl (lv_at hl3 1 rfl) ?_
      refine lv_istore_n (pc := 52) (lv' := [(3, .int z_least), (0, .ref (mr 0)), (1, .int z_least), (2, .int z_most)]) E.1 E.2.1 dX8_number_52 rfl hl3 (by decide) rfl (fun ls hl15 => ?_)
      refine lv_aload_n (pc := 53) E.1 E.2.1 dX8_number_53 rfl (lv_at hl15 1 rfl) ?_
      refine ck_v (pc := 54) (ws' := (fun (u : Int32 × Int32 × Int32 × Int32) => (WZ_Tape cI cJ ad mr (upd (upd (upd (upd (upd (upd mi 4 u.1) 5 u.2.2.1) 6 u.2.2.2) 7 u.2.1) 8 nfault_9) 9 nfaultPlace_10) mf mg))) [true, true] hw11 rfl (fun hC_ => (rn_V (As := []) (rest := []) E hw11 (t_step l D cI cJ _ mr (upd (upd mi 8 nfault_9) 9 nfaultPlace_10) mf mg ad av tf h0 h1 h2 h3) (gdV q_722 q_723 q_724 q_160 q_725) hdV_X8_step ⟨rfl, rfl⟩ ⟨(Nat.le_of_ble_eq_true rfl), (Nat.le_of_ble_eq_true rfl)⟩ ⟨(Nat.le_of_ble_eq_true rfl), (Nat.le_of_ble_eq_true rfl)⟩ xT8_b (xT8_at hX hw11.2.2.1 (va_free hw11.2.1 hw11.2.2.1 hw11.2.2.2 _ hC_)) 0 8 rfl rfl rfl _ hC_ (nd_T _ 0) rfl hl15.1 rfl (Nat.le_of_ble_eq_true rfl) dX8_number_54)) rfl (fun _ => rfl) (fun _ => rfl) (fun u_16 H1 locs hp hw18 => ?_)
      obtain ⟨nat_19, nplace_20, nkind_21, nvalue_22⟩ := u_16
      generalize H1 = H at hw18 ⊢
      have hw23 : WD D A s.heap (WZ_Tape cI cJ ad mr (upd (upd (upd (upd (upd (upd mi 4 nat_19) 5 nkind_21) 6 nvalue_22) 7 nplace_20) 8 nfault_9) 9 nfaultPlace_10) mf mg) H locs := hw18
      obtain ⟨hp_24, hp_25⟩ := hp
      have hp_24 : 0 ≤ nat_19.toInt := hp_24
      have hp_25 : nat_19.toInt ≤ (mi 2).toInt := hp_25
      refine lv_iload_n (pc := 57) E.1 E.2.1 dX8_number_57 rfl (lv_at hl15 0 rfl) ?_
      exact em_i (w1 := (fun (u : Int32 × Int32 × Int32 × Int32 × Int32 × Int32) => (WZ_Tape cI cJ ad mr (upd (upd (upd (upd (upd (upd mi 4 u.1) 7 u.2.1) 5 u.2.2.1) 6 u.2.2.2.1) 8 u.2.2.2.2.1) 9 u.2.2.2.2.2) mf mg))) E hr hlk (nat_19, nplace_20, nkind_21, nvalue_22, nfault_9, nfaultPlace_10) hw23 ⟨hp_24, hp_25, (by show 0 ≤ nfault_9.toInt; omega), hp_13, h5, h6⟩ (Nat.le_of_ble_eq_true rfl) (Nat.le_of_ble_eq_true rfl) dX8_number_58
    · skip
      have hc_5 := nltE (a := (mi 6).toInt) (b := z_least.toInt) rfl rfl c_5
      refine lv_aload_n (pc := 24) E.1 E.2.1 dX8_number_24 rfl (lv_at hl3 0 rfl) ?_
      refine x_get (pc := 25) (T := TX8) (N := 9) (ci := 8) (v := .int (mi 6)) E hw1 inX8 0 5 q_548 rfl rfl (by decide) rfl rfl dX8_number_25 ?_
      refine lv_iload_n (pc := 28) E.1 E.2.1 dX8_number_28 rfl (lv_at hl3 2 rfl) ?_
      refine lv_icmp_le (pc := 29) (tgt := 37) E.1 E.2.1 dX8_number_29 (by decide) (fun c_26 => ?_) (fun c_26 => ?_)
      · skip
        have hc_26 := leE (a := (mi 6).toInt) (b := z_most.toInt) rfl rfl c_26
        refine lv_aload_n (pc := 37) E.1 E.2.1 dX8_number_37 rfl (lv_at hl3 0 rfl) ?_
        refine x_get (pc := 38) (T := TX8) (N := 9) (ci := 8) (v := .int (mi 8)) E hw1 inX8 0 7 q_550 rfl rfl (by decide) rfl rfl dX8_number_38 ?_
        refine lv_if_ne (pc := 41) (tgt := 51) E.1 E.2.1 dX8_number_41 (by decide) (fun c_27 => ?_) (fun c_27 => ?_)
        · skip
          have hc_27 := neE (a := (mi 8).toInt) (b := 0) rfl (by decide +kernel) c_27
          refine lv_iload_n (pc := 51) E.1 E.2.1 dX8_number_51 rfl (lv_at hl3 1 rfl) ?_
          refine lv_istore_n (pc := 52) (lv' := [(3, .int z_least), (0, .ref (mr 0)), (1, .int z_least), (2, .int z_most)]) E.1 E.2.1 dX8_number_52 rfl hl3 (by decide) rfl (fun ls hl28 => ?_)
          refine lv_aload_n (pc := 53) E.1 E.2.1 dX8_number_53 rfl (lv_at hl28 1 rfl) ?_
          refine ck_v (pc := 54) (ws' := (fun (u : Int32 × Int32 × Int32 × Int32) => (WZ_Tape cI cJ ad mr (upd (upd (upd (upd mi 4 u.1) 5 u.2.2.1) 6 u.2.2.2) 7 u.2.1) mf mg))) [true, true] hw1 rfl (fun hC_ => (rn_V (As := []) (rest := []) E hw1 (t_step l D cI cJ _ mr mi mf mg ad av tf h0 h1 h2 h3) (gdV q_722 q_723 q_724 q_160 q_725) hdV_X8_step ⟨rfl, rfl⟩ ⟨(Nat.le_of_ble_eq_true rfl), (Nat.le_of_ble_eq_true rfl)⟩ ⟨(Nat.le_of_ble_eq_true rfl), (Nat.le_of_ble_eq_true rfl)⟩ xT8_b (xT8_at hX hw1.2.2.1 (va_free hw1.2.1 hw1.2.2.1 hw1.2.2.2 _ hC_)) 0 8 rfl rfl rfl _ hC_ (nd_T _ 0) rfl hl28.1 rfl (Nat.le_of_ble_eq_true rfl) dX8_number_54)) rfl (fun _ => rfl) (fun _ => rfl) (fun u_29 H1 locs hp hw31 => ?_)
          obtain ⟨nat_32, nplace_33, nkind_34, nvalue_35⟩ := u_29
          generalize H1 = H at hw31 ⊢
          have hw36 : WD D A s.heap (WZ_Tape cI cJ ad mr (upd (upd (upd (upd mi 4 nat_32) 5 nkind_34) 6 nvalue_35) 7 nplace_33) mf mg) H locs := hw31
          obtain ⟨hp_37, hp_38⟩ := hp
          have hp_37 : 0 ≤ nat_32.toInt := hp_37
          have hp_38 : nat_32.toInt ≤ (mi 2).toInt := hp_38
          refine lv_iload_n (pc := 57) E.1 E.2.1 dX8_number_57 rfl (lv_at hl28 0 rfl) ?_
          exact em_i (w1 := (fun (u : Int32 × Int32 × Int32 × Int32 × Int32 × Int32) => (WZ_Tape cI cJ ad mr (upd (upd (upd (upd (upd (upd mi 4 u.1) 7 u.2.1) 5 u.2.2.1) 6 u.2.2.2.1) 8 u.2.2.2.2.1) 9 u.2.2.2.2.2) mf mg))) E hr hlk (nat_32, nplace_33, nkind_34, nvalue_35, (mi 8), (mi 9)) hw36 ⟨hp_37, hp_38, h4.1, h4.2, h5, h6⟩ (Nat.le_of_ble_eq_true rfl) (Nat.le_of_ble_eq_true rfl) dX8_number_58
        · skip
          have hc_27 := eqE (a := (mi 8).toInt) (b := 0) rfl (by decide +kernel) c_27
          refine lv_aload_n (pc := 44) E.1 E.2.1 dX8_number_44 rfl (lv_at hl3 0 rfl) ?_
          refine x_get (pc := 45) (T := TX8) (N := 9) (ci := 8) (v := .int (mi 6)) E hw1 inX8 0 5 q_548 rfl rfl (by decide) rfl rfl dX8_number_45 ?_
          refine lv_goto (pc := 48) (tgt := 52) E.1 E.2.1 dX8_number_48 (by decide) ?_
          refine lv_istore_n (pc := 52) (lv' := [(3, .int (mi 6)), (0, .ref (mr 0)), (1, .int z_least), (2, .int z_most)]) E.1 E.2.1 dX8_number_52 rfl hl3 (by decide) rfl (fun ls hl39 => ?_)
          refine lv_aload_n (pc := 53) E.1 E.2.1 dX8_number_53 rfl (lv_at hl39 1 rfl) ?_
          refine ck_v (pc := 54) (ws' := (fun (u : Int32 × Int32 × Int32 × Int32) => (WZ_Tape cI cJ ad mr (upd (upd (upd (upd mi 4 u.1) 5 u.2.2.1) 6 u.2.2.2) 7 u.2.1) mf mg))) [true, true] hw1 rfl (fun hC_ => (rn_V (As := []) (rest := []) E hw1 (t_step l D cI cJ _ mr mi mf mg ad av tf h0 h1 h2 h3) (gdV q_722 q_723 q_724 q_160 q_725) hdV_X8_step ⟨rfl, rfl⟩ ⟨(Nat.le_of_ble_eq_true rfl), (Nat.le_of_ble_eq_true rfl)⟩ ⟨(Nat.le_of_ble_eq_true rfl), (Nat.le_of_ble_eq_true rfl)⟩ xT8_b (xT8_at hX hw1.2.2.1 (va_free hw1.2.1 hw1.2.2.1 hw1.2.2.2 _ hC_)) 0 8 rfl rfl rfl _ hC_ (nd_T _ 0) rfl hl39.1 rfl (Nat.le_of_ble_eq_true rfl) dX8_number_54)) rfl (fun _ => rfl) (fun _ => rfl) (fun u_40 H1 locs hp hw42 => ?_)
          obtain ⟨nat_43, nplace_44, nkind_45, nvalue_46⟩ := u_40
          generalize H1 = H at hw42 ⊢
          have hw47 : WD D A s.heap (WZ_Tape cI cJ ad mr (upd (upd (upd (upd mi 4 nat_43) 5 nkind_45) 6 nvalue_46) 7 nplace_44) mf mg) H locs := hw42
          obtain ⟨hp_48, hp_49⟩ := hp
          have hp_48 : 0 ≤ nat_43.toInt := hp_48
          have hp_49 : nat_43.toInt ≤ (mi 2).toInt := hp_49
          refine lv_iload_n (pc := 57) E.1 E.2.1 dX8_number_57 rfl (lv_at hl39 0 rfl) ?_
          exact em_i (w1 := (fun (u : Int32 × Int32 × Int32 × Int32 × Int32 × Int32) => (WZ_Tape cI cJ ad mr (upd (upd (upd (upd (upd (upd mi 4 u.1) 7 u.2.1) 5 u.2.2.1) 6 u.2.2.2.1) 8 u.2.2.2.2.1) 9 u.2.2.2.2.2) mf mg))) E hr hlk (nat_43, nplace_44, nkind_45, nvalue_46, (mi 8), (mi 9)) hw47 ⟨hp_48, hp_49, h4.1, h4.2, (by show 0 ≤ (mi 6).toInt; omega), (by show (mi 6).toInt ≤ 9; omega)⟩ (Nat.le_of_ble_eq_true rfl) (Nat.le_of_ble_eq_true rfl) dX8_number_58
      · skip
        have hc_26 := nleE (a := (mi 6).toInt) (b := z_most.toInt) rfl rfl c_26
        refine lv_aload_n (pc := 32) E.1 E.2.1 dX8_number_32 rfl (lv_at hl3 0 rfl) ?_
        refine lv_iconst (pc := 33) (v := 2) E.1 E.2.1 dX8_number_33 (by decide +kernel) ?_
        refine ck_v (pc := 34) (ws' := (fun (u : Int32 × Int32) => (WZ_Tape cI cJ ad mr (upd (upd mi 8 u.1) 9 u.2) mf mg))) [true, true] hw1 rfl (fun hC_ => (rn_V (As := [.int 2]) (rest := []) E hw1 (t_refuse l D cI cJ _ mr mi mf mg 2 ad (by show 1 ≤ (2 : Int32).toInt ∧ (2 : Int32).toInt ≤ 4; have k_0 : (2 : Int32).toInt = 2 := (by decide +kernel); omega) h4) (gdV q_864 q_857 q_858 q_160 q_859) hdV_X8_refuse ⟨rfl, rfl⟩ ⟨(Nat.le_of_ble_eq_true rfl), (Nat.le_of_ble_eq_true rfl)⟩ ⟨(Nat.le_of_ble_eq_true rfl), (Nat.le_of_ble_eq_true rfl)⟩ xT_b xT_at 0 8 rfl rfl rfl _ hC_ (nd_T _ 0) rfl hl3.1 rfl (Nat.le_of_ble_eq_true rfl) dX8_number_34)) rfl (fun _ => rfl) (fun _ => rfl) (fun u_50 H1 locs hp hw52 => ?_)
        obtain ⟨nfault_53, nfaultPlace_54⟩ := u_50
        generalize H1 = H at hw52 ⊢
        have hw55 : WD D A s.heap (WZ_Tape cI cJ ad mr (upd (upd mi 8 nfault_53) 9 nfaultPlace_54) mf mg) H locs := hw52
        obtain ⟨hp_56, hp_57⟩ := hp
        have hp_56 : 1 ≤ nfault_53.toInt := hp_56
        have hp_57 : nfault_53.toInt ≤ 4 := hp_57
        refine lv_aload_n (pc := 37) E.1 E.2.1 dX8_number_37 rfl (lv_at hl3 0 rfl) ?_
        refine x_get (pc := 38) (T := TX8) (N := 9) (ci := 8) (v := .int nfault_53) E hw55 inX8 0 7 q_550 rfl rfl (by decide) rfl rfl dX8_number_38 ?_
        refine lv_if_ne (pc := 41) (tgt := 51) E.1 E.2.1 dX8_number_41 (by decide) (fun _ => ?_) (fun c_58 => absurd c_58 (mneE (a := nfault_53.toInt) (b := 0) rfl (by decide +kernel) (by omega)))
        refine lv_iload_n (pc := 51) E.1 E.2.1 dX8_number_51 rfl (lv_at hl3 1 rfl) ?_
        refine lv_istore_n (pc := 52) (lv' := [(3, .int z_least), (0, .ref (mr 0)), (1, .int z_least), (2, .int z_most)]) E.1 E.2.1 dX8_number_52 rfl hl3 (by decide) rfl (fun ls hl59 => ?_)
        refine lv_aload_n (pc := 53) E.1 E.2.1 dX8_number_53 rfl (lv_at hl59 1 rfl) ?_
        refine ck_v (pc := 54) (ws' := (fun (u : Int32 × Int32 × Int32 × Int32) => (WZ_Tape cI cJ ad mr (upd (upd (upd (upd (upd (upd mi 4 u.1) 5 u.2.2.1) 6 u.2.2.2) 7 u.2.1) 8 nfault_53) 9 nfaultPlace_54) mf mg))) [true, true] hw55 rfl (fun hC_ => (rn_V (As := []) (rest := []) E hw55 (t_step l D cI cJ _ mr (upd (upd mi 8 nfault_53) 9 nfaultPlace_54) mf mg ad av tf h0 h1 h2 h3) (gdV q_722 q_723 q_724 q_160 q_725) hdV_X8_step ⟨rfl, rfl⟩ ⟨(Nat.le_of_ble_eq_true rfl), (Nat.le_of_ble_eq_true rfl)⟩ ⟨(Nat.le_of_ble_eq_true rfl), (Nat.le_of_ble_eq_true rfl)⟩ xT8_b (xT8_at hX hw55.2.2.1 (va_free hw55.2.1 hw55.2.2.1 hw55.2.2.2 _ hC_)) 0 8 rfl rfl rfl _ hC_ (nd_T _ 0) rfl hl59.1 rfl (Nat.le_of_ble_eq_true rfl) dX8_number_54)) rfl (fun _ => rfl) (fun _ => rfl) (fun u_60 H1 locs hp hw62 => ?_)
        obtain ⟨nat_63, nplace_64, nkind_65, nvalue_66⟩ := u_60
        generalize H1 = H at hw62 ⊢
        have hw67 : WD D A s.heap (WZ_Tape cI cJ ad mr (upd (upd (upd (upd (upd (upd mi 4 nat_63) 5 nkind_65) 6 nvalue_66) 7 nplace_64) 8 nfault_53) 9 nfaultPlace_54) mf mg) H locs := hw62
        obtain ⟨hp_68, hp_69⟩ := hp
        have hp_68 : 0 ≤ nat_63.toInt := hp_68
        have hp_69 : nat_63.toInt ≤ (mi 2).toInt := hp_69
        refine lv_iload_n (pc := 57) E.1 E.2.1 dX8_number_57 rfl (lv_at hl59 0 rfl) ?_
        exact em_i (w1 := (fun (u : Int32 × Int32 × Int32 × Int32 × Int32 × Int32) => (WZ_Tape cI cJ ad mr (upd (upd (upd (upd (upd (upd mi 4 u.1) 7 u.2.1) 5 u.2.2.1) 6 u.2.2.2.1) 8 u.2.2.2.2.1) 9 u.2.2.2.2.2) mf mg))) E hr hlk (nat_63, nplace_64, nkind_65, nvalue_66, nfault_53, nfaultPlace_54) hw67 ⟨hp_68, hp_69, (by show 0 ≤ nfault_53.toInt; omega), hp_57, h5, h6⟩ (Nat.le_of_ble_eq_true rfl) (Nat.le_of_ble_eq_true rfl) dX8_number_58
  · skip
    have hc_4 := neE (a := (mi 5).toInt) (b := 1) rfl (by decide +kernel) c_4
    refine lv_aload_n (pc := 8) E.1 E.2.1 dX8_number_8 rfl (lv_at hl3 0 rfl) ?_
    refine lv_iconst (pc := 9) (v := 1) E.1 E.2.1 dX8_number_9 (by decide +kernel) ?_
    refine ck_v (pc := 10) (ws' := (fun (u : Int32 × Int32) => (WZ_Tape cI cJ ad mr (upd (upd mi 8 u.1) 9 u.2) mf mg))) [true, true] hw1 rfl (fun hC_ => (rn_V (As := [.int 1]) (rest := []) E hw1 (t_refuse l D cI cJ _ mr mi mf mg 1 ad (by show 1 ≤ (1 : Int32).toInt ∧ (1 : Int32).toInt ≤ 4; have k_0 : (1 : Int32).toInt = 1 := (by decide +kernel); omega) h4) (gdV q_864 q_857 q_858 q_160 q_859) hdV_X8_refuse ⟨rfl, rfl⟩ ⟨(Nat.le_of_ble_eq_true rfl), (Nat.le_of_ble_eq_true rfl)⟩ ⟨(Nat.le_of_ble_eq_true rfl), (Nat.le_of_ble_eq_true rfl)⟩ xT_b xT_at 0 8 rfl rfl rfl _ hC_ (nd_T _ 0) rfl hl3.1 rfl (Nat.le_of_ble_eq_true rfl) dX8_number_10)) rfl (fun _ => rfl) (fun _ => rfl) (fun u_70 H1 locs hp hw72 => ?_)
    obtain ⟨nfault_73, nfaultPlace_74⟩ := u_70
    generalize H1 = H at hw72 ⊢
    have hw75 : WD D A s.heap (WZ_Tape cI cJ ad mr (upd (upd mi 8 nfault_73) 9 nfaultPlace_74) mf mg) H locs := hw72
    obtain ⟨hp_76, hp_77⟩ := hp
    have hp_76 : 1 ≤ nfault_73.toInt := hp_76
    have hp_77 : nfault_73.toInt ≤ 4 := hp_77
    refine lv_goto (pc := 13) (tgt := 37) E.1 E.2.1 dX8_number_13 (by decide) ?_
    refine lv_aload_n (pc := 37) E.1 E.2.1 dX8_number_37 rfl (lv_at hl3 0 rfl) ?_
    refine x_get (pc := 38) (T := TX8) (N := 9) (ci := 8) (v := .int nfault_73) E hw75 inX8 0 7 q_550 rfl rfl (by decide) rfl rfl dX8_number_38 ?_
    refine lv_if_ne (pc := 41) (tgt := 51) E.1 E.2.1 dX8_number_41 (by decide) (fun _ => ?_) (fun c_78 => absurd c_78 (mneE (a := nfault_73.toInt) (b := 0) rfl (by decide +kernel) (by omega)))
    refine lv_iload_n (pc := 51) E.1 E.2.1 dX8_number_51 rfl (lv_at hl3 1 rfl) ?_
    refine lv_istore_n (pc := 52) (lv' := [(3, .int z_least), (0, .ref (mr 0)), (1, .int z_least), (2, .int z_most)]) E.1 E.2.1 dX8_number_52 rfl hl3 (by decide) rfl (fun ls hl79 => ?_)
    refine lv_aload_n (pc := 53) E.1 E.2.1 dX8_number_53 rfl (lv_at hl79 1 rfl) ?_
    refine ck_v (pc := 54) (ws' := (fun (u : Int32 × Int32 × Int32 × Int32) => (WZ_Tape cI cJ ad mr (upd (upd (upd (upd (upd (upd mi 4 u.1) 5 u.2.2.1) 6 u.2.2.2) 7 u.2.1) 8 nfault_73) 9 nfaultPlace_74) mf mg))) [true, true] hw75 rfl (fun hC_ => (rn_V (As := []) (rest := []) E hw75 (t_step l D cI cJ _ mr (upd (upd mi 8 nfault_73) 9 nfaultPlace_74) mf mg ad av tf h0 h1 h2 h3) (gdV q_722 q_723 q_724 q_160 q_725) hdV_X8_step ⟨rfl, rfl⟩ ⟨(Nat.le_of_ble_eq_true rfl), (Nat.le_of_ble_eq_true rfl)⟩ ⟨(Nat.le_of_ble_eq_true rfl), (Nat.le_of_ble_eq_true rfl)⟩ xT8_b (xT8_at hX hw75.2.2.1 (va_free hw75.2.1 hw75.2.2.1 hw75.2.2.2 _ hC_)) 0 8 rfl rfl rfl _ hC_ (nd_T _ 0) rfl hl79.1 rfl (Nat.le_of_ble_eq_true rfl) dX8_number_54)) rfl (fun _ => rfl) (fun _ => rfl) (fun u_80 H1 locs hp hw82 => ?_)
    obtain ⟨nat_83, nplace_84, nkind_85, nvalue_86⟩ := u_80
    generalize H1 = H at hw82 ⊢
    have hw87 : WD D A s.heap (WZ_Tape cI cJ ad mr (upd (upd (upd (upd (upd (upd mi 4 nat_83) 5 nkind_85) 6 nvalue_86) 7 nplace_84) 8 nfault_73) 9 nfaultPlace_74) mf mg) H locs := hw82
    obtain ⟨hp_88, hp_89⟩ := hp
    have hp_88 : 0 ≤ nat_83.toInt := hp_88
    have hp_89 : nat_83.toInt ≤ (mi 2).toInt := hp_89
    refine lv_iload_n (pc := 57) E.1 E.2.1 dX8_number_57 rfl (lv_at hl79 0 rfl) ?_
    exact em_i (w1 := (fun (u : Int32 × Int32 × Int32 × Int32 × Int32 × Int32) => (WZ_Tape cI cJ ad mr (upd (upd (upd (upd (upd (upd mi 4 u.1) 7 u.2.1) 5 u.2.2.1) 6 u.2.2.2.1) 8 u.2.2.2.2.1) 9 u.2.2.2.2.2) mf mg))) E hr hlk (nat_83, nplace_84, nkind_85, nvalue_86, nfault_73, nfaultPlace_74) hw87 ⟨hp_88, hp_89, (by show 0 ≤ nfault_73.toInt; omega), hp_77, h5, h6⟩ (Nat.le_of_ble_eq_true rfl) (Nat.le_of_ble_eq_true rfl) dX8_number_58
