set_option maxHeartbeats 4000000 in
set_option maxRecDepth 100000 in
theorem t_take2N (l : Launch) (D : va_G) (cI cJ : ClassId) (sz : Nat) (mr : Nat → Nat) (mi : Nat → Int32) (mf : Nat → Nat → Int32) (mg : Nat → Nat → Int64) (z_k : Int32) (ad : Nat → Nat) (mv : Nat → Value) (h0 : 0 ≤ (mi 1).toInt ∧ (mi 1).toInt ≤ 5) (h1 : 0 ≤ (mi 2).toInt ∧ (mi 2).toInt ≤ 6) (h2 : 0 ≤ (mi 9).toInt ∧ (mi 9).toInt ≤ 10) (h3 : 0 ≤ (mi 15).toInt ∧ (mi 15).toInt ≤ 40) (h4 : 0 ≤ (mi 20).toInt ∧ (mi 20).toInt ≤ 400) (h5 : 0 ≤ (mi 21).toInt ∧ (mi 21).toInt ≤ 6) (h6 : 0 ≤ (mi 26).toInt ∧ (mi 26).toInt ≤ 4) (h7 : z_k.toInt = 2) (h8 : 0 ≤ (mi 33).toInt ∧ (mi 33).toInt ≤ 40) (a_p_from : p9 (mf 11)) (a_p_to : p9 (mf 12)) (a_dp_from : p9 (mf 29)) (a_dp_to : p9 (mf 30)) : Met l yX11_takeDraft (Cond.code yX11_takeDraft cX11_takeDraft 2 (some .int) :: GW) ({ frames := 3, cells := 0, slots := 0, locals := 82 } : Room) (va_Pc [.ref (mr 0), .int z_k] (PW D cI cJ sz (WZ_Ltext2N cI cJ ad mv mr mi mf mg) xT)) (va_Qi (fun (r : Int32) (u : (Nat → Int32) × (Nat → Nat → Int32) × (Nat → Nat → Int64)) => (0 ≤ (u.1 1).toInt) ∧ ((u.1 1).toInt ≤ 5) ∧ (0 ≤ (u.1 2).toInt) ∧ ((u.1 2).toInt ≤ 6) ∧ (0 ≤ (u.1 9).toInt) ∧ ((u.1 9).toInt ≤ 10) ∧ (0 ≤ (u.1 15).toInt) ∧ ((u.1 15).toInt ≤ 40) ∧ (0 ≤ (u.1 20).toInt) ∧ ((u.1 20).toInt ≤ 400) ∧ (0 ≤ (u.1 21).toInt) ∧ ((u.1 21).toInt ≤ 6) ∧ (0 ≤ (u.1 26).toInt) ∧ ((u.1 26).toInt ≤ 4) ∧ ((u.1 20).toInt = (mi 20).toInt) ∧ ((u.1 9).toInt = (mi 9).toInt) ∧ (p9 (u.2.1 11)) ∧ (p9 (u.2.1 12)) ∧ (p9 (u.2.1 29)) ∧ (p9 (u.2.1 30))) (fun u => QW D cI cJ (va_A (WZ_Ltext2N cI cJ ad mv mr mi mf mg) sz) ((fun (u : (Nat → Int32) × (Nat → Nat → Int32) × (Nat → Nat → Int64)) => (WZ_Ltext2N cI cJ ad mv mr u.1 u.2.1 u.2.2)) u)) (va_A (WZ_Ltext2N cI cJ ad mv mr mi mf mg) sz)) 0 0 (va_A (WZ_Ltext2N cI cJ ad mv mr mi mf mg) sz) := by
  refine mk_met (y := yX11_takeDraft) (bytes := cX11_takeDraft) (maxL := 2) (avs := [.ref (mr 0), .int z_k]) (WS := (WZ_Ltext2N cI cJ ad mv mr mi mf mg)) (Qf := fun A => va_Qi (fun (r : Int32) (u : (Nat → Int32) × (Nat → Nat → Int32) × (Nat → Nat → Int64)) => (0 ≤ (u.1 1).toInt) ∧ ((u.1 1).toInt ≤ 5) ∧ (0 ≤ (u.1 2).toInt) ∧ ((u.1 2).toInt ≤ 6) ∧ (0 ≤ (u.1 9).toInt) ∧ ((u.1 9).toInt ≤ 10) ∧ (0 ≤ (u.1 15).toInt) ∧ ((u.1 15).toInt ≤ 40) ∧ (0 ≤ (u.1 20).toInt) ∧ ((u.1 20).toInt ≤ 400) ∧ (0 ≤ (u.1 21).toInt) ∧ ((u.1 21).toInt ≤ 6) ∧ (0 ≤ (u.1 26).toInt) ∧ ((u.1 26).toInt ≤ 4) ∧ ((u.1 20).toInt = (mi 20).toInt) ∧ ((u.1 9).toInt = (mi 9).toInt) ∧ (p9 (u.2.1 11)) ∧ (p9 (u.2.1 12)) ∧ (p9 (u.2.1 29)) ∧ (p9 (u.2.1 30))) (fun u => QW D cI cJ A ((fun (u : (Nat → Int32) × (Nat → Nat → Int32) × (Nat → Nat → Int64)) => (WZ_Ltext2N cI cJ ad mv mr u.1 u.2.1 u.2.2)) u)) A) (by decide) (Nat.le_of_ble_eq_true rfl) ?_
  intro p e s m below meth c A ls E hr hlk hnm hX hw1 hl2
  have hl3 : lv_has ls 2 [(0, .ref (mr 0)), (1, .int z_k)] := hl2
  refine lv_iload_n (pc := 0) E.1 E.2.1 dX11_takeDraft_0 rfl (lv_at hl3 1 rfl) ?_
  rcases swt (x := z_k) 0 4 with hsw_4 | ⟨hsw_4k, hsw_41, hsw_42, hsw_4⟩
  · skip
    exfalso; omega
  · skip
    rcases (show hsw_4k = 0 ∨ hsw_4k = 1 ∨ hsw_4k = 2 ∨ hsw_4k = 3 ∨ hsw_4k = 4 from by omega) with rfl | rfl | rfl | rfl | rfl
    · skip
      have hsw_4v : z_k.toInt = 0 := hsw_4
      have hsw_4e : z_k = 0 := Int32.toInt_inj.mp (by rw [hsw_4]; decide +kernel)
      refine lv_tableIn (pc := 1) (off := 35) (tgt := 36) E.1 E.2.1 dX11_takeDraft_1 (by rw [hsw_4e]; decide +kernel) (by rw [hsw_4e]; decide +kernel) (by rw [hsw_4e]; decide +kernel) (by decide) ?_
      exfalso; omega
    · skip
      have hsw_4v : z_k.toInt = 1 := hsw_4
      have hsw_4e : z_k = 1 := Int32.toInt_inj.mp (by rw [hsw_4]; decide +kernel)
      refine lv_tableIn (pc := 1) (off := 57) (tgt := 58) E.1 E.2.1 dX11_takeDraft_1 (by rw [hsw_4e]; decide +kernel) (by rw [hsw_4e]; decide +kernel) (by rw [hsw_4e]; decide +kernel) (by decide) ?_
      exfalso; omega
    · skip
      have hsw_4v : z_k.toInt = 2 := hsw_4
      have hsw_4e : z_k = 2 := Int32.toInt_inj.mp (by rw [hsw_4]; decide +kernel)
      refine lv_tableIn (pc := 1) (off := 79) (tgt := 80) E.1 E.2.1 dX11_takeDraft_1 (by rw [hsw_4e]; decide +kernel) (by rw [hsw_4e]; decide +kernel) (by rw [hsw_4e]; decide +kernel) (by decide) ?_
      refine lv_aload_n (pc := 80) E.1 E.2.1 dX11_takeDraft_80 rfl (lv_at hl3 0 rfl) ?_
      refine x_get (pc := 81) (T := TX11) (N := 13) (ci := 11) (v := .ref (mr 3)) E hw1 inX11 0 0 q_606 rfl rfl (by decide) rfl rfl dX11_takeDraft_81 ?_
      refine x_get (pc := 84) (T := TX10) (N := 17) (ci := 10) (v := .ref (mr 10)) E hw1 inX10 1 2 q_466 rfl rfl (by decide) rfl rfl dX11_takeDraft_84 ?_
      refine lv_aload_n (pc := 87) E.1 E.2.1 dX11_takeDraft_87 rfl (lv_at hl3 0 rfl) ?_
      refine x_get (pc := 88) (T := TX11) (N := 13) (ci := 11) (v := .ref (mr 28)) E hw1 inX11 0 4 q_610 rfl rfl (by decide) rfl rfl dX11_takeDraft_88 ?_
      refine ck_v (pc := 91) (ws' := (fun (u : (Nat → Int32) × (Nat → Int32) × (Nat → Int32) × (Nat → Int32) × Int32 × (Nat → Int32)) => (WZ_Ltext2N cI cJ ad mv mr (upd mi 15 u.2.2.2.2.1) (va_up (va_up (va_up (va_up (va_up mf 11 u.1) 12 u.2.1) 13 u.2.2.1) 14 u.2.2.2.1) 17 u.2.2.2.2.2) mg))) [false, false, false, true, true, true, true, true, true, true, false, false, true, true, true, true, true, true, true] hw1 rfl (fun hC_ => (rn_V (As := [.ref (mr 28)]) (rest := []) E hw1 (t_pathsTake l D cI cJ _ (shg 8 10 20 mr) (shg 8 10 20 mi) (shg 8 10 20 mf) (shg 8 10 20 mg) a_dp_from a_dp_to) (gdV q_968 q_969 q_970 q_155 q_971) hdV_X5_take ⟨rfl, rfl⟩ ⟨(Nat.le_of_ble_eq_true rfl), (Nat.le_of_ble_eq_true rfl)⟩ ⟨(Nat.le_of_ble_eq_true rfl), (Nat.le_of_ble_eq_true rfl)⟩ xT_b xT_at 3 5 rfl rfl rfl _ hC_ (nd_T _ 0) rfl hl3.1 rfl (Nat.le_of_ble_eq_true rfl) dX11_takeDraft_91)) rfl (fun _ => rfl) (fun _ => rfl) (fun u_5 H1 locs hp hw7 => ?_)
      obtain ⟨gfrom_8, gto_9, glength_10, guntil_11, ncount_12, gmeasuredIn_13⟩ := u_5
      generalize H1 = H at hw7 ⊢
      have hw14 : WD D A s.heap (WZ_Ltext2N cI cJ ad mv mr (upd mi 15 ncount_12) (va_up (va_up (va_up (va_up (va_up mf 11 gfrom_8) 12 gto_9) 13 glength_10) 14 guntil_11) 17 gmeasuredIn_13) mg) H locs := hw7
      obtain ⟨hp_15, hp_16, hp_17⟩ := hp
      have hp_15 : ncount_12.toInt = (mi 33).toInt := hp_15
      refine lv_aload_n (pc := 94) E.1 E.2.1 dX11_takeDraft_94 rfl (lv_at hl3 0 rfl) ?_
      refine ck_v (pc := 95) (ws' := (fun (u : Int32 × Int32) => (WZ_Ltext2N cI cJ ad mv mr (upd (upd (upd mi 1 u.1) 2 u.2) 15 ncount_12) (va_up (va_up (va_up (va_up (va_up mf 11 gfrom_8) 12 gto_9) 13 glength_10) 14 guntil_11) 17 gmeasuredIn_13) mg))) [true, false, false, false, false, false, false, false, false, false, false, false, false, false, false, false, false, false, false] hw14 rfl (fun hC_ => (rn_V (As := []) (rest := []) E hw14 (t_forgetNightsN l D cI cJ _ mr (upd mi 15 ncount_12) (va_up (va_up (va_up (va_up (va_up mf 11 gfrom_8) 12 gto_9) 13 glength_10) 14 guntil_11) 17 gmeasuredIn_13) mg (vl [.ref (mr 3), mv 0, .ref (mr 18), mv 1, .ref (mr 28), mv 2, mv 3, mv 4, mv 5, mv 6])) (gdV q_650 q_652 q_0 q_151 q_653) hdV_X11_forgetNights ⟨rfl, rfl⟩ ⟨(Nat.le_of_ble_eq_true rfl), (Nat.le_of_ble_eq_true rfl)⟩ ⟨(Nat.le_of_ble_eq_true rfl), (Nat.le_of_ble_eq_true rfl)⟩ xT_b xT_at 0 11 rfl rfl rfl _ hC_ (nd_T _ 0) rfl hl3.1 rfl (Nat.le_of_ble_eq_true rfl) dX11_takeDraft_95)) rfl (fun _ => rfl) (fun _ => rfl) (fun u_18 H1 locs hp hw20 => ?_)
      obtain ⟨noldest_21, nundoable_22⟩ := u_18
      generalize H1 = H at hw20 ⊢
      have hw23 : WD D A s.heap (WZ_Ltext2N cI cJ ad mv mr (upd (upd (upd mi 1 noldest_21) 2 nundoable_22) 15 ncount_12) (va_up (va_up (va_up (va_up (va_up mf 11 gfrom_8) 12 gto_9) 13 glength_10) 14 guntil_11) 17 gmeasuredIn_13) mg) H locs := hw20
      obtain ⟨hp_24, hp_25⟩ := hp
      have hp_24 : noldest_21.toInt = 0 := hp_24
      have hp_25 : nundoable_22.toInt = 0 := hp_25
      refine lv_aload_n (pc := 98) E.1 E.2.1 dX11_takeDraft_98 rfl (lv_at hl3 0 rfl) ?_
      refine x_get (pc := 99) (T := TX11) (N := 13) (ci := 11) (v := .ref (mr 28)) E hw23 inX11 0 4 q_610 rfl rfl (by decide) rfl rfl dX11_takeDraft_99 ?_
      refine x_get (pc := 102) (T := TX5) (N := 7) (ci := 5) (v := .int (mi 33)) E hw23 inX5 12 4 q_319 rfl rfl (by decide) rfl rfl dX11_takeDraft_102 ?_
      exact em_i (w1 := (fun (u : (Nat → Int32) × (Nat → Nat → Int32) × (Nat → Nat → Int64)) => (WZ_Ltext2N cI cJ ad mv mr u.1 u.2.1 u.2.2))) E hr hlk ((upd (upd (upd mi 1 noldest_21) 2 nundoable_22) 15 ncount_12), (va_up (va_up (va_up (va_up (va_up mf 11 gfrom_8) 12 gto_9) 13 glength_10) 14 guntil_11) 17 gmeasuredIn_13), mg) hw23 ⟨(by show 0 ≤ noldest_21.toInt; omega), (by show noldest_21.toInt ≤ 5; omega), (by show 0 ≤ nundoable_22.toInt; omega), (by show nundoable_22.toInt ≤ 6; omega), h2.1, h2.2, (by show 0 ≤ ncount_12.toInt; omega), (by show ncount_12.toInt ≤ 40; omega), h4.1, h4.2, h5.1, h5.2, h6.1, h6.2, rfl, rfl, hp_16, hp_17, a_dp_from, a_dp_to⟩ (Nat.le_of_ble_eq_true rfl) (Nat.le_of_ble_eq_true rfl) dX11_takeDraft_105
    · skip
      have hsw_4v : z_k.toInt = 3 := hsw_4
      have hsw_4e : z_k = 3 := Int32.toInt_inj.mp (by rw [hsw_4]; decide +kernel)
      refine lv_tableIn (pc := 1) (off := 105) (tgt := 106) E.1 E.2.1 dX11_takeDraft_1 (by rw [hsw_4e]; decide +kernel) (by rw [hsw_4e]; decide +kernel) (by rw [hsw_4e]; decide +kernel) (by decide) ?_
      exfalso; omega
    · skip
      have hsw_4v : z_k.toInt = 4 := hsw_4
      have hsw_4e : z_k = 4 := Int32.toInt_inj.mp (by rw [hsw_4]; decide +kernel)
      refine lv_tableIn (pc := 1) (off := 141) (tgt := 142) E.1 E.2.1 dX11_takeDraft_1 (by rw [hsw_4e]; decide +kernel) (by rw [hsw_4e]; decide +kernel) (by rw [hsw_4e]; decide +kernel) (by decide) ?_
      exfalso; omega
set_option maxHeartbeats 4000000 in
set_option maxRecDepth 100000 in
theorem t_text2N (l : Launch) (D : va_G) (cI cJ : ClassId) (sz : Nat) (mr : Nat → Nat) (mi : Nat → Int32) (mf : Nat → Nat → Int32) (mg : Nat → Nat → Int64) (z_k : Int32) (ad av : Nat → Nat) (tf : Value) (mv : Nat → Value) (h0 : 0 ≤ (mi 1).toInt ∧ (mi 1).toInt ≤ 5) (h1 : 0 ≤ (mi 2).toInt ∧ (mi 2).toInt ≤ 6) (h2 : 0 ≤ (mi 9).toInt ∧ (mi 9).toInt ≤ 10) (h3 : 0 ≤ (mi 15).toInt ∧ (mi 15).toInt ≤ 40) (h4 : 0 ≤ (mi 20).toInt ∧ (mi 20).toInt ≤ 400) (h5 : 0 ≤ (mi 21).toInt ∧ (mi 21).toInt ≤ 6) (h6 : 0 ≤ (mi 26).toInt ∧ (mi 26).toInt ≤ 4) (h7 : z_k.toInt = 2) (a_p_from : p9 (mf 11)) (a_p_to : p9 (mf 12)) (a_dp_from : p9 (mf 29)) (a_dp_to : p9 (mf 30)) : Met l yX11_text (Cond.code yX11_text cX11_text 3 (some .int) :: GW) ({ frames := 11, cells := 0, slots := 0, locals := 263 } : Room) (va_Pc [.ref (mr 0), .int z_k] (PW D cI cJ sz (WZ_Ltext2N cI cJ ad mv mr mi mf mg) (xT8 ad av tf (va_A (WZ_Ltext2N cI cJ ad mv mr mi mf mg) sz)))) (va_Qi (fun (r : Int32) (u : (Nat → Int32) × (Nat → Nat → Int32) × (Nat → Nat → Int64)) => (0 ≤ (u.1 1).toInt) ∧ ((u.1 1).toInt ≤ 5) ∧ (0 ≤ (u.1 2).toInt) ∧ ((u.1 2).toInt ≤ 6) ∧ (0 ≤ (u.1 9).toInt) ∧ ((u.1 9).toInt ≤ 10) ∧ (0 ≤ (u.1 15).toInt) ∧ ((u.1 15).toInt ≤ 40) ∧ (0 ≤ (u.1 20).toInt) ∧ ((u.1 20).toInt ≤ 400) ∧ (0 ≤ (u.1 21).toInt) ∧ ((u.1 21).toInt ≤ 6) ∧ (0 ≤ (u.1 26).toInt) ∧ ((u.1 26).toInt ≤ 4) ∧ ((u.1 20).toInt = 0) ∧ ((u.1 9).toInt = (mi 9).toInt) ∧ (p9 (u.2.1 11)) ∧ (p9 (u.2.1 12)) ∧ (p9 (u.2.1 29)) ∧ (p9 (u.2.1 30))) (fun u => QW D cI cJ (va_A (WZ_Ltext2N cI cJ ad mv mr mi mf mg) sz) ((fun (u : (Nat → Int32) × (Nat → Nat → Int32) × (Nat → Nat → Int64)) => (WZ_Ltext2N cI cJ ad mv mr u.1 u.2.1 u.2.2)) u)) (va_A (WZ_Ltext2N cI cJ ad mv mr mi mf mg) sz)) 0 0 (va_A (WZ_Ltext2N cI cJ ad mv mr mi mf mg) sz) := by
  refine mk_metA (X := fun A => xT8 ad av tf A) (y := yX11_text) (bytes := cX11_text) (maxL := 3) (avs := [.ref (mr 0), .int z_k]) (WS := (WZ_Ltext2N cI cJ ad mv mr mi mf mg)) (Qf := fun A => va_Qi (fun (r : Int32) (u : (Nat → Int32) × (Nat → Nat → Int32) × (Nat → Nat → Int64)) => (0 ≤ (u.1 1).toInt) ∧ ((u.1 1).toInt ≤ 5) ∧ (0 ≤ (u.1 2).toInt) ∧ ((u.1 2).toInt ≤ 6) ∧ (0 ≤ (u.1 9).toInt) ∧ ((u.1 9).toInt ≤ 10) ∧ (0 ≤ (u.1 15).toInt) ∧ ((u.1 15).toInt ≤ 40) ∧ (0 ≤ (u.1 20).toInt) ∧ ((u.1 20).toInt ≤ 400) ∧ (0 ≤ (u.1 21).toInt) ∧ ((u.1 21).toInt ≤ 6) ∧ (0 ≤ (u.1 26).toInt) ∧ ((u.1 26).toInt ≤ 4) ∧ ((u.1 20).toInt = 0) ∧ ((u.1 9).toInt = (mi 9).toInt) ∧ (p9 (u.2.1 11)) ∧ (p9 (u.2.1 12)) ∧ (p9 (u.2.1 29)) ∧ (p9 (u.2.1 30))) (fun u => QW D cI cJ A ((fun (u : (Nat → Int32) × (Nat → Nat → Int32) × (Nat → Nat → Int64)) => (WZ_Ltext2N cI cJ ad mv mr u.1 u.2.1 u.2.2)) u)) A) (by decide) (Nat.le_of_ble_eq_true rfl) ?_
  intro p e s m below meth c A ls E hr hlk hnm hX hw1 hl2
  have hl3 : lv_has ls 3 [(0, .ref (mr 0)), (1, .int z_k)] := hl2
  refine lv_aload_n (pc := 0) E.1 E.2.1 dX11_text_0 rfl (lv_at hl3 0 rfl) ?_
  refine x_get (pc := 1) (T := TX11) (N := 13) (ci := 11) (v := .ref (mr 3)) E hw1 inX11 0 0 q_606 rfl rfl (by decide) rfl rfl dX11_text_1 ?_
  refine x_get (pc := 4) (T := TX10) (N := 17) (ci := 10) (v := .ref (mr 8)) E hw1 inX10 1 1 q_463 rfl rfl (by decide) rfl rfl dX11_text_4 ?_
  refine x_get (pc := 7) (T := TX1) (N := 9) (ci := 1) (v := .int (mi 9)) E hw1 inX1 2 5 q_282 rfl rfl (by decide) rfl rfl dX11_text_7 ?_
  refine lv_istore_n (pc := 10) (lv' := [(2, .int (mi 9)), (0, .ref (mr 0)), (1, .int z_k)]) E.1 E.2.1 dX11_text_10 rfl hl3 (by decide) rfl (fun ls hl4 => ?_)
  refine lv_aload_n (pc := 11) E.1 E.2.1 dX11_text_11 rfl (lv_at hl4 1 rfl) ?_
  refine x_get (pc := 12) (T := TX11) (N := 13) (ci := 11) (v := .ref (mr 18)) E hw1 inX11 0 2 q_608 rfl rfl (by decide) rfl rfl dX11_text_12 ?_
  refine lv_iload_n (pc := 15) E.1 E.2.1 dX11_text_15 rfl (lv_at hl4 2 rfl) ?_
  refine ck_v (pc := 16) (ws' := (fun (u : Int32 × Int32 × Int32 × Int32 × Int32 × Int32 × Int32) => (WZ_Ltext2N cI cJ ad mv mr (upd (upd (upd (upd (upd (upd (upd mi 21 u.2.2.2.2.1) 22 u.1) 23 u.2.2.1) 24 u.2.2.2.1) 25 u.2.1) 26 u.2.2.2.2.2.1) 27 u.2.2.2.2.2.2) mf mg))) [false, false, false, false, false, false, false, false, false, false, true, true, false, false, false, false, false, false, false] hw1 rfl (fun hC_ => (rn_V (As := [.int z_k]) (rest := []) E hw1 (t_open l D cI cJ _ (shf 18 mr) (shf 18 mi) (shf 18 mf) (shf 18 mg) z_k ad av tf h4) (gdV q_710 q_711 q_712 q_160 q_713) hdV_X8_open ⟨rfl, rfl⟩ ⟨(Nat.le_of_ble_eq_true rfl), (Nat.le_of_ble_eq_true rfl)⟩ ⟨(Nat.le_of_ble_eq_true rfl), (Nat.le_of_ble_eq_true rfl)⟩ xT8_b (xT8_at hX hw1.2.2.1 (va_free hw1.2.1 hw1.2.2.1 hw1.2.2.2 _ hC_)) 10 8 rfl rfl rfl _ hC_ (nd_T _ 0) rfl hl4.1 rfl (Nat.le_of_ble_eq_true rfl) dX11_text_16)) rfl (fun _ => rfl) (fun _ => rfl) (fun u_5 H1 locs hp hw7 => ?_)
  obtain ⟨nat_8, nplace_9, nkind_10, nvalue_11, nwords_12, nfault_13, nfaultPlace_14⟩ := u_5
  generalize H1 = H at hw7 ⊢
  have hw15 : WD D A s.heap (WZ_Ltext2N cI cJ ad mv mr (upd (upd (upd (upd (upd (upd (upd mi 21 nwords_12) 22 nat_8) 23 nkind_10) 24 nvalue_11) 25 nplace_9) 26 nfault_13) 27 nfaultPlace_14) mf mg) H locs := hw7
  obtain ⟨hp_16, hp_17, hp_18, hp_19, hp_20⟩ := hp
  have hp_16 : 0 ≤ nat_8.toInt := hp_16
  have hp_17 : nat_8.toInt ≤ (mi 20).toInt := hp_17
  have hp_18 : 0 ≤ nwords_12.toInt := hp_18
  have hp_19 : nwords_12.toInt ≤ 6 := hp_19
  have hp_20 : nfault_13.toInt = 0 := hp_20
  refine lv_iload_n (pc := 19) E.1 E.2.1 dX11_text_19 rfl (lv_at hl4 2 rfl) ?_
  rcases swt (x := z_k) 0 4 with hsw_21 | ⟨hsw_21k, hsw_211, hsw_212, hsw_21⟩
  · skip
    exfalso; omega
  · skip
    rcases (show hsw_21k = 0 ∨ hsw_21k = 1 ∨ hsw_21k = 2 ∨ hsw_21k = 3 ∨ hsw_21k = 4 from by omega) with rfl | rfl | rfl | rfl | rfl
    · skip
      have hsw_21v : z_k.toInt = 0 := hsw_21
      have hsw_21e : z_k = 0 := Int32.toInt_inj.mp (by rw [hsw_21]; decide +kernel)
      refine lv_tableIn (pc := 20) (off := 36) (tgt := 56) E.1 E.2.1 dX11_text_20 (by rw [hsw_21e]; decide +kernel) (by rw [hsw_21e]; decide +kernel) (by rw [hsw_21e]; decide +kernel) (by decide) ?_
      exfalso; omega
    · skip
      have hsw_21v : z_k.toInt = 1 := hsw_21
      have hsw_21e : z_k = 1 := Int32.toInt_inj.mp (by rw [hsw_21]; decide +kernel)
      refine lv_tableIn (pc := 20) (off := 36) (tgt := 56) E.1 E.2.1 dX11_text_20 (by rw [hsw_21e]; decide +kernel) (by rw [hsw_21e]; decide +kernel) (by rw [hsw_21e]; decide +kernel) (by decide) ?_
      exfalso; omega
    · skip
      have hsw_21v : z_k.toInt = 2 := hsw_21
      have hsw_21e : z_k = 2 := Int32.toInt_inj.mp (by rw [hsw_21]; decide +kernel)
      refine lv_tableIn (pc := 20) (off := 50) (tgt := 70) E.1 E.2.1 dX11_text_20 (by rw [hsw_21e]; decide +kernel) (by rw [hsw_21e]; decide +kernel) (by rw [hsw_21e]; decide +kernel) (by decide) ?_
      refine lv_aload_n (pc := 70) E.1 E.2.1 dX11_text_70 rfl (lv_at hl4 1 rfl) ?_
      refine x_get (pc := 71) (T := TX11) (N := 13) (ci := 11) (v := .ref (mr 28)) E hw15 inX11 0 4 q_610 rfl rfl (by decide) rfl rfl dX11_text_71 ?_
      refine lv_aload_n (pc := 74) E.1 E.2.1 dX11_text_74 rfl (lv_at hl4 1 rfl) ?_
      refine x_get (pc := 75) (T := TX11) (N := 13) (ci := 11) (v := .ref (mr 18)) E hw15 inX11 0 2 q_608 rfl rfl (by decide) rfl rfl dX11_text_75 ?_
      refine lv_iload_n (pc := 78) E.1 E.2.1 dX11_text_78 rfl (lv_at hl4 0 rfl) ?_
      refine cq_v (pc := 79) (ws' := (fun (u : Int32 × Int32 × Int32 × Int32 × Int32 × Int32 × (Nat → Int32) × (Nat → Int32) × (Nat → Int32) × (Nat → Int32) × Int32) => (WZ_Ltext2N cI cJ ad mv mr (upd (upd (upd (upd (upd (upd (upd (upd mi 21 nwords_12) 22 u.1) 23 u.2.2.1) 24 u.2.2.2.1) 25 u.2.1) 26 u.2.2.2.2.1) 27 u.2.2.2.2.2.1) 33 u.2.2.2.2.2.2.2.2.2.2) (va_up (va_up (va_up (va_up mf 29 u.2.2.2.2.2.2.1) 30 u.2.2.2.2.2.2.2.1) 31 u.2.2.2.2.2.2.2.2.1) 32 u.2.2.2.2.2.2.2.2.2.1) mg))) hw15 [12, 13, 14, 15, 16, 17, 18, 10, 11] [0, 1, 2, 3, 4, 5, 6, 7, 8, 9] [0, 1, 2, 3, 4, 5, 6, 7, 8, 9, 17, 18, 10, 11, 12, 13, 14, 15, 16] rfl rfl (by decide) (by decide) (fun _ => rfl) (by decide) (rn_V (As := [.ref (mr 18), .int (mi 9)]) (rest := []) E hw15 (t_pathsRead l D cI cJ _ (shg 8 28 10 mr) (shg 8 28 10 (upd (upd (upd (upd (upd (upd (upd mi 21 nwords_12) 22 nat_8) 23 nkind_10) 24 nvalue_11) 25 nplace_9) 26 nfault_13) 27 nfaultPlace_14)) (shg 8 28 10 mf) (shg 8 28 10 mg) (mi 9) ad av tf h4 hp_16 hp_17 ⟨hp_18, hp_19⟩ (by show 0 ≤ nfault_13.toInt ∧ nfault_13.toInt ≤ 4; omega) h2 a_dp_from a_dp_to) (gdV q_910 q_911 q_912 q_155 q_913) hdV_X5_read ⟨rfl, rfl⟩ ⟨(Nat.le_of_ble_eq_true rfl), (Nat.le_of_ble_eq_true rfl)⟩ ⟨(Nat.le_of_ble_eq_true rfl), (Nat.le_of_ble_eq_true rfl)⟩ xT8_b (xT8_at hX hw15.2.2.1 (va_free hw15.2.1 hw15.2.2.1 hw15.2.2.2 [12, 13, 14, 15, 16, 17, 18, 10, 11] rfl)) 12 5 rfl rfl rfl [12, 13, 14, 15, 16, 17, 18, 10, 11] rfl (by decide) rfl hl4.1 rfl (Nat.le_of_ble_eq_true rfl) dX11_text_79) (fun u_22 H1 locs hp hw24 => ?_)
      obtain ⟨ntat_25, ntplace_26, ntkind_27, ntvalue_28, ntfault_29, ntfaultPlace_30, gfrom_31, gto_32, glength_33, guntil_34, ncount_35⟩ := u_22
      generalize H1 = H at hw24 ⊢
      have hw36 : WD D A s.heap (WZ_Ltext2N cI cJ ad mv mr (upd (upd (upd (upd (upd (upd (upd (upd mi 21 nwords_12) 22 ntat_25) 23 ntkind_27) 24 ntvalue_28) 25 ntplace_26) 26 ntfault_29) 27 ntfaultPlace_30) 33 ncount_35) (va_up (va_up (va_up (va_up mf 29 gfrom_31) 30 gto_32) 31 glength_33) 32 guntil_34) mg) H locs := hw24
      obtain ⟨hp_37, hp_38, hp_39, hp_40, hp_41, hp_42, hp_43, hp_44⟩ := hp
      have hp_37 : 0 ≤ ntat_25.toInt := hp_37
      have hp_38 : ntat_25.toInt ≤ (mi 20).toInt := hp_38
      have hp_39 : 0 ≤ ntfault_29.toInt := hp_39
      have hp_40 : ntfault_29.toInt ≤ 4 := hp_40
      have hp_41 : 0 ≤ ncount_35.toInt := hp_41
      have hp_42 : ncount_35.toInt ≤ 40 := hp_42
      refine lv_goto (pc := 82) (tgt := 115) E.1 E.2.1 dX11_text_82 (by decide) ?_
      refine lv_aload_n (pc := 115) E.1 E.2.1 dX11_text_115 rfl (lv_at hl4 1 rfl) ?_
      refine x_get (pc := 116) (T := TX11) (N := 13) (ci := 11) (v := .ref (mr 18)) E hw36 inX11 0 2 q_608 rfl rfl (by decide) rfl rfl dX11_text_116 ?_
      refine lv_iconst (pc := 119) (v := 0) E.1 E.2.1 dX11_text_119 (by decide +kernel) ?_
      refine x_put (pc := 120) (T := TX8) (N := 9) (ci := 8) (ws' := (WZ_Ltext2N cI cJ ad mv mr (upd (upd (upd (upd (upd (upd (upd (upd (upd mi 20 0) 21 nwords_12) 22 ntat_25) 23 ntkind_27) 24 ntvalue_28) 25 ntplace_26) 26 ntfault_29) 27 ntfaultPlace_30) 33 ncount_35) (va_up (va_up (va_up (va_up mf 29 gfrom_31) 30 gto_32) 31 glength_33) 32 guntil_34) mg)) E hw36 inX8 tyX8_ok nmX8 10 1 q_539 rfl rfl (by decide) rfl rfl rfl rfl (Nat.le_of_ble_eq_true rfl) rfl dX11_text_120 (fun H locs hw45 => ?_)
      refine lv_aload_n (pc := 123) E.1 E.2.1 dX11_text_123 rfl (lv_at hl4 1 rfl) ?_
      refine x_get (pc := 124) (T := TX11) (N := 13) (ci := 11) (v := .ref (mr 18)) E hw45 inX11 0 2 q_608 rfl rfl (by decide) rfl rfl dX11_text_124 ?_
      refine x_get (pc := 127) (T := TX8) (N := 9) (ci := 8) (v := .int ntfault_29) E hw45 inX8 10 7 q_555 rfl rfl (by decide) rfl rfl dX11_text_127 ?_
      refine lv_if_ne (pc := 130) (tgt := 141) E.1 E.2.1 dX11_text_130 (by decide) (fun c_46 => ?_) (fun c_46 => ?_)
      · skip
        have hc_46 := neE (a := ntfault_29.toInt) (b := 0) rfl (by decide +kernel) c_46
        refine lv_iconst (pc := 141) (v := (-1)) E.1 E.2.1 dX11_text_141 (by decide +kernel) ?_
        exact em_i (w1 := (fun (u : (Nat → Int32) × (Nat → Nat → Int32) × (Nat → Nat → Int64)) => (WZ_Ltext2N cI cJ ad mv mr u.1 u.2.1 u.2.2))) E hr hlk ((upd (upd (upd (upd (upd (upd (upd (upd (upd mi 20 0) 21 nwords_12) 22 ntat_25) 23 ntkind_27) 24 ntvalue_28) 25 ntplace_26) 26 ntfault_29) 27 ntfaultPlace_30) 33 ncount_35), (va_up (va_up (va_up (va_up mf 29 gfrom_31) 30 gto_32) 31 glength_33) 32 guntil_34), mg) hw45 ⟨h0.1, h0.2, h1.1, h1.2, h2.1, h2.2, h3.1, h3.2, (by show 0 ≤ (0 : Int32).toInt; have k_0 : (0 : Int32).toInt = 0 := (by decide +kernel); have k_1 : ((-1) : Int32).toInt = -1 := (by decide +kernel); omega), (by show (0 : Int32).toInt ≤ 400; have k_0 : (0 : Int32).toInt = 0 := (by decide +kernel); have k_1 : ((-1) : Int32).toInt = -1 := (by decide +kernel); omega), hp_18, hp_19, hp_39, hp_40, (by show (0 : Int32).toInt = 0; have k_0 : (0 : Int32).toInt = 0 := (by decide +kernel); have k_1 : ((-1) : Int32).toInt = -1 := (by decide +kernel); omega), rfl, a_p_from, a_p_to, hp_43, hp_44⟩ (Nat.le_of_ble_eq_true rfl) (Nat.le_of_ble_eq_true rfl) dX11_text_142
      · skip
        have hc_46 := eqE (a := ntfault_29.toInt) (b := 0) rfl (by decide +kernel) c_46
        refine lv_aload_n (pc := 133) E.1 E.2.1 dX11_text_133 rfl (lv_at hl4 1 rfl) ?_
        refine lv_iload_n (pc := 134) E.1 E.2.1 dX11_text_134 rfl (lv_at hl4 2 rfl) ?_
        refine ck_i (pc := 135) (ws' := (fun (u : (Nat → Int32) × (Nat → Nat → Int32) × (Nat → Nat → Int64)) => (WZ_Ltext2N cI cJ ad mv mr (mgs [(0, 0, 36)] u.1 (upd (upd (upd (upd (upd (upd (upd (upd (upd mi 20 0) 21 nwords_12) 22 ntat_25) 23 ntkind_27) 24 ntvalue_28) 25 ntplace_26) 26 ntfault_29) 27 ntfaultPlace_30) 33 ncount_35)) (mgs [(0, 0, 36)] u.2.1 (va_up (va_up (va_up (va_up mf 29 gfrom_31) 30 gto_32) 31 glength_33) 32 guntil_34)) (mgs [(0, 0, 36)] u.2.2 mg)))) [true, true, true, true, true, true, true, true, true, true, true, true, true, true, true, true, true, true, true] hw45 rfl (fun hC_ => (rn_V (As := [.int z_k]) (rest := []) E hw45 (t_take2N l D cI cJ _ mr (upd (upd (upd (upd (upd (upd (upd (upd (upd mi 20 0) 21 nwords_12) 22 ntat_25) 23 ntkind_27) 24 ntvalue_28) 25 ntplace_26) 26 ntfault_29) 27 ntfaultPlace_30) 33 ncount_35) (va_up (va_up (va_up (va_up mf 29 gfrom_31) 30 gto_32) 31 glength_33) 32 guntil_34) mg z_k ad (vl [mv 0, mv 1, mv 2, mv 3, mv 4, mv 5, mv 6, mv 7, mv 8, mv 9, mv 10, mv 11, mv 12, mv 13, mv 14, mv 15, mv 16, mv 17, mv 18, mv 19, mv 20, mv 21, mv 22, mv 23, mv 24, mv 25]) h0 h1 h2 h3 (by show 0 ≤ (0 : Int32).toInt ∧ (0 : Int32).toInt ≤ 400; have k_0 : (0 : Int32).toInt = 0 := (by decide +kernel); omega) ⟨hp_18, hp_19⟩ ⟨hp_39, hp_40⟩ h7 ⟨hp_41, hp_42⟩ a_p_from a_p_to hp_43 hp_44) (gdV q_957 q_959 q_18 q_151 q_960) hdV_X11_takeDraft ⟨rfl, rfl⟩ ⟨(Nat.le_of_ble_eq_true rfl), (Nat.le_of_ble_eq_true rfl)⟩ ⟨(Nat.le_of_ble_eq_true rfl), (Nat.le_of_ble_eq_true rfl)⟩ xT_b xT_at 0 11 rfl rfl rfl _ hC_ (nd_T _ 0) rfl hl4.1 rfl (Nat.le_of_ble_eq_true rfl) dX11_text_135)) rfl (fun _ => rfl) (fun _ => rfl) (fun r_48 u_47 H1 locs hp hw49 => ?_)
        obtain ⟨Mi_50, Mf_51, Mg_52⟩ := u_47
        generalize H1 = H at hw49 ⊢
        have hw53 : WD D A s.heap (WZ_Ltext2N cI cJ ad mv mr (mgs [(0, 0, 36)] Mi_50 (upd (upd (upd (upd (upd (upd (upd (upd (upd mi 20 0) 21 nwords_12) 22 ntat_25) 23 ntkind_27) 24 ntvalue_28) 25 ntplace_26) 26 ntfault_29) 27 ntfaultPlace_30) 33 ncount_35)) (mgs [(0, 0, 36)] Mf_51 (va_up (va_up (va_up (va_up mf 29 gfrom_31) 30 gto_32) 31 glength_33) 32 guntil_34)) (mgs [(0, 0, 36)] Mg_52 mg)) H locs := hw49
        obtain ⟨hp_54, hp_55, hp_56, hp_57, hp_58, hp_59, hp_60, hp_61, hp_62, hp_63, hp_64, hp_65, hp_66, hp_67, hp_68, hp_69, hp_70, hp_71, hp_72, hp_73⟩ := hp
        have hp_54 : 0 ≤ (Mi_50 1).toInt := hp_54
        have hp_55 : (Mi_50 1).toInt ≤ 5 := hp_55
        have hp_56 : 0 ≤ (Mi_50 2).toInt := hp_56
        have hp_57 : (Mi_50 2).toInt ≤ 6 := hp_57
        have hp_58 : 0 ≤ (Mi_50 9).toInt := hp_58
        have hp_59 : (Mi_50 9).toInt ≤ 10 := hp_59
        have hp_60 : 0 ≤ (Mi_50 15).toInt := hp_60
        have hp_61 : (Mi_50 15).toInt ≤ 40 := hp_61
        have hp_62 : 0 ≤ (Mi_50 20).toInt := hp_62
        have hp_63 : (Mi_50 20).toInt ≤ 400 := hp_63
        have hp_64 : 0 ≤ (Mi_50 21).toInt := hp_64
        have hp_65 : (Mi_50 21).toInt ≤ 6 := hp_65
        have hp_66 : 0 ≤ (Mi_50 26).toInt := hp_66
        have hp_67 : (Mi_50 26).toInt ≤ 4 := hp_67
        have hp_68 : (Mi_50 20).toInt = (0 : Int32).toInt := hp_68
        rw [show (0 : Int32).toInt = 0 from by decide +kernel] at hp_68
        have hp_69 : (Mi_50 9).toInt = (mi 9).toInt := hp_69
        refine lv_goto (pc := 138) (tgt := 142) E.1 E.2.1 dX11_text_138 (by decide) ?_
        exact em_i (w1 := (fun (u : (Nat → Int32) × (Nat → Nat → Int32) × (Nat → Nat → Int64)) => (WZ_Ltext2N cI cJ ad mv mr u.1 u.2.1 u.2.2))) E hr hlk ((mgs [(0, 0, 36)] Mi_50 (upd (upd (upd (upd (upd (upd (upd (upd (upd mi 20 0) 21 nwords_12) 22 ntat_25) 23 ntkind_27) 24 ntvalue_28) 25 ntplace_26) 26 ntfault_29) 27 ntfaultPlace_30) 33 ncount_35)), (mgs [(0, 0, 36)] Mf_51 (va_up (va_up (va_up (va_up mf 29 gfrom_31) 30 gto_32) 31 glength_33) 32 guntil_34)), (mgs [(0, 0, 36)] Mg_52 mg)) hw53 ⟨hp_54, hp_55, hp_56, hp_57, hp_58, hp_59, hp_60, hp_61, hp_62, hp_63, hp_64, hp_65, hp_66, hp_67, (by show (Mi_50 20).toInt = 0; omega), hp_69, hp_70, hp_71, hp_72, hp_73⟩ (Nat.le_of_ble_eq_true rfl) (Nat.le_of_ble_eq_true rfl) dX11_text_142
    · skip
      have hsw_21v : z_k.toInt = 3 := hsw_21
      have hsw_21e : z_k = 3 := Int32.toInt_inj.mp (by rw [hsw_21]; decide +kernel)
      refine lv_tableIn (pc := 20) (off := 65) (tgt := 85) E.1 E.2.1 dX11_text_20 (by rw [hsw_21e]; decide +kernel) (by rw [hsw_21e]; decide +kernel) (by rw [hsw_21e]; decide +kernel) (by decide) ?_
      exfalso; omega
    · skip
      have hsw_21v : z_k.toInt = 4 := hsw_21
      have hsw_21e : z_k = 4 := Int32.toInt_inj.mp (by rw [hsw_21]; decide +kernel)
      refine lv_tableIn (pc := 20) (off := 80) (tgt := 100) E.1 E.2.1 dX11_text_20 (by rw [hsw_21e]; decide +kernel) (by rw [hsw_21e]; decide +kernel) (by rw [hsw_21e]; decide +kernel) (by decide) ?_
      exfalso; omega
set_option maxHeartbeats 4000000 in
set_option maxRecDepth 100000 in
theorem t_take3N (l : Launch) (D : va_G) (cI cJ : ClassId) (sz : Nat) (mr : Nat → Nat) (mi : Nat → Int32) (mf : Nat → Nat → Int32) (mg : Nat → Nat → Int64) (z_k : Int32) (ad : Nat → Nat) (mv : Nat → Value) (h0 : 0 ≤ (mi 1).toInt ∧ (mi 1).toInt ≤ 5) (h1 : 0 ≤ (mi 2).toInt ∧ (mi 2).toInt ≤ 6) (h2 : 0 ≤ (mi 19).toInt ∧ (mi 19).toInt ≤ 200) (h3 : 0 ≤ (mi 22).toInt ∧ (mi 22).toInt ≤ 10) (h4 : 0 ≤ (mi 29).toInt ∧ (mi 29).toInt ≤ 10) (h5 : 0 ≤ (mi 32).toInt ∧ (mi 32).toInt ≤ 400) (h6 : 0 ≤ (mi 33).toInt ∧ (mi 33).toInt ≤ 6) (h7 : 0 ≤ (mi 38).toInt ∧ (mi 38).toInt ≤ 4) (h8 : z_k.toInt = 3) (h9 : 0 ≤ (mi 46).toInt ∧ (mi 46).toInt ≤ 10) : Met l yX11_takeDraft (Cond.code yX11_takeDraft cX11_takeDraft 2 (some .int) :: GW) ({ frames := 3, cells := 0, slots := 0, locals := 82 } : Room) (va_Pc [.ref (mr 0), .int z_k] (PW D cI cJ sz (WZ_Ltext3N cI cJ ad mv mr mi mf mg) xT)) (va_Qi (fun (r : Int32) (u : (Nat → Int32) × (Nat → Nat → Int32) × (Nat → Nat → Int64)) => (0 ≤ (u.1 1).toInt) ∧ ((u.1 1).toInt ≤ 5) ∧ (0 ≤ (u.1 2).toInt) ∧ ((u.1 2).toInt ≤ 6) ∧ (0 ≤ (u.1 19).toInt) ∧ ((u.1 19).toInt ≤ 200) ∧ (0 ≤ (u.1 22).toInt) ∧ ((u.1 22).toInt ≤ 10) ∧ (0 ≤ (u.1 29).toInt) ∧ ((u.1 29).toInt ≤ 10) ∧ (0 ≤ (u.1 32).toInt) ∧ ((u.1 32).toInt ≤ 400) ∧ (0 ≤ (u.1 33).toInt) ∧ ((u.1 33).toInt ≤ 6) ∧ (0 ≤ (u.1 38).toInt) ∧ ((u.1 38).toInt ≤ 4) ∧ ((u.1 32).toInt = (mi 32).toInt) ∧ ((u.1 22).toInt = (mi 22).toInt)) (fun u => QW D cI cJ (va_A (WZ_Ltext3N cI cJ ad mv mr mi mf mg) sz) ((fun (u : (Nat → Int32) × (Nat → Nat → Int32) × (Nat → Nat → Int64)) => (WZ_Ltext3N cI cJ ad mv mr u.1 u.2.1 u.2.2)) u)) (va_A (WZ_Ltext3N cI cJ ad mv mr mi mf mg) sz)) 0 0 (va_A (WZ_Ltext3N cI cJ ad mv mr mi mf mg) sz) := by
  refine mk_met (y := yX11_takeDraft) (bytes := cX11_takeDraft) (maxL := 2) (avs := [.ref (mr 0), .int z_k]) (WS := (WZ_Ltext3N cI cJ ad mv mr mi mf mg)) (Qf := fun A => va_Qi (fun (r : Int32) (u : (Nat → Int32) × (Nat → Nat → Int32) × (Nat → Nat → Int64)) => (0 ≤ (u.1 1).toInt) ∧ ((u.1 1).toInt ≤ 5) ∧ (0 ≤ (u.1 2).toInt) ∧ ((u.1 2).toInt ≤ 6) ∧ (0 ≤ (u.1 19).toInt) ∧ ((u.1 19).toInt ≤ 200) ∧ (0 ≤ (u.1 22).toInt) ∧ ((u.1 22).toInt ≤ 10) ∧ (0 ≤ (u.1 29).toInt) ∧ ((u.1 29).toInt ≤ 10) ∧ (0 ≤ (u.1 32).toInt) ∧ ((u.1 32).toInt ≤ 400) ∧ (0 ≤ (u.1 33).toInt) ∧ ((u.1 33).toInt ≤ 6) ∧ (0 ≤ (u.1 38).toInt) ∧ ((u.1 38).toInt ≤ 4) ∧ ((u.1 32).toInt = (mi 32).toInt) ∧ ((u.1 22).toInt = (mi 22).toInt)) (fun u => QW D cI cJ A ((fun (u : (Nat → Int32) × (Nat → Nat → Int32) × (Nat → Nat → Int64)) => (WZ_Ltext3N cI cJ ad mv mr u.1 u.2.1 u.2.2)) u)) A) (by decide) (Nat.le_of_ble_eq_true rfl) ?_
  intro p e s m below meth c A ls E hr hlk hnm hX hw1 hl2
  have hl3 : lv_has ls 2 [(0, .ref (mr 0)), (1, .int z_k)] := hl2
  refine lv_iload_n (pc := 0) E.1 E.2.1 dX11_takeDraft_0 rfl (lv_at hl3 1 rfl) ?_
  rcases swt (x := z_k) 0 4 with hsw_4 | ⟨hsw_4k, hsw_41, hsw_42, hsw_4⟩
  · skip
    exfalso; omega
  · skip
    rcases (show hsw_4k = 0 ∨ hsw_4k = 1 ∨ hsw_4k = 2 ∨ hsw_4k = 3 ∨ hsw_4k = 4 from by omega) with rfl | rfl | rfl | rfl | rfl
    · skip
      have hsw_4v : z_k.toInt = 0 := hsw_4
      have hsw_4e : z_k = 0 := Int32.toInt_inj.mp (by rw [hsw_4]; decide +kernel)
      refine lv_tableIn (pc := 1) (off := 35) (tgt := 36) E.1 E.2.1 dX11_takeDraft_1 (by rw [hsw_4e]; decide +kernel) (by rw [hsw_4e]; decide +kernel) (by rw [hsw_4e]; decide +kernel) (by decide) ?_
      exfalso; omega
    · skip
      have hsw_4v : z_k.toInt = 1 := hsw_4
      have hsw_4e : z_k = 1 := Int32.toInt_inj.mp (by rw [hsw_4]; decide +kernel)
      refine lv_tableIn (pc := 1) (off := 57) (tgt := 58) E.1 E.2.1 dX11_takeDraft_1 (by rw [hsw_4e]; decide +kernel) (by rw [hsw_4e]; decide +kernel) (by rw [hsw_4e]; decide +kernel) (by decide) ?_
      exfalso; omega
    · skip
      have hsw_4v : z_k.toInt = 2 := hsw_4
      have hsw_4e : z_k = 2 := Int32.toInt_inj.mp (by rw [hsw_4]; decide +kernel)
      refine lv_tableIn (pc := 1) (off := 79) (tgt := 80) E.1 E.2.1 dX11_takeDraft_1 (by rw [hsw_4e]; decide +kernel) (by rw [hsw_4e]; decide +kernel) (by rw [hsw_4e]; decide +kernel) (by decide) ?_
      exfalso; omega
    · skip
      have hsw_4v : z_k.toInt = 3 := hsw_4
      have hsw_4e : z_k = 3 := Int32.toInt_inj.mp (by rw [hsw_4]; decide +kernel)
      refine lv_tableIn (pc := 1) (off := 105) (tgt := 106) E.1 E.2.1 dX11_takeDraft_1 (by rw [hsw_4e]; decide +kernel) (by rw [hsw_4e]; decide +kernel) (by rw [hsw_4e]; decide +kernel) (by decide) ?_
      refine lv_aload_n (pc := 106) E.1 E.2.1 dX11_takeDraft_106 rfl (lv_at hl3 0 rfl) ?_
      refine x_get (pc := 107) (T := TX11) (N := 13) (ci := 11) (v := .ref (mr 3)) E hw1 inX11 0 0 q_606 rfl rfl (by decide) rfl rfl dX11_takeDraft_107 ?_
      refine x_get (pc := 110) (T := TX10) (N := 17) (ci := 10) (v := .ref (mr 23)) E hw1 inX10 1 3 q_469 rfl rfl (by decide) rfl rfl dX11_takeDraft_110 ?_
      refine lv_aload_n (pc := 113) E.1 E.2.1 dX11_takeDraft_113 rfl (lv_at hl3 0 rfl) ?_
      refine x_get (pc := 114) (T := TX11) (N := 13) (ci := 11) (v := .ref (mr 40)) E hw1 inX11 0 5 q_611 rfl rfl (by decide) rfl rfl dX11_takeDraft_114 ?_
      refine ck_v (pc := 117) (ws' := (fun (u : (Nat → Int32) × (Nat → Int32) × (Nat → Int32) × (Nat → Int32) × (Nat → Int32) × Int32) => (WZ_Ltext3N cI cJ ad mv mr (upd mi 29 u.2.2.2.2.2) (va_up (va_up (va_up (va_up (va_up mf 24 u.1) 25 u.2.1) 26 u.2.2.1) 27 u.2.2.2.1) 28 u.2.2.2.2.1) mg))) [false, false, false, false, false, false, false, false, false, true, true, true, true, true, true, false, false, true, true, true, true, true, true] hw1 rfl (fun hC_ => (rn_V (As := [.ref (mr 40)]) (rest := []) E hw1 (t_needsTake l D cI cJ _ (shg 7 23 33 mr) (shg 7 23 33 mi) (shg 7 23 33 mf) (shg 7 23 33 mg) ) (gdV q_973 q_974 q_975 q_156 q_976) hdV_X3_take ⟨rfl, rfl⟩ ⟨(Nat.le_of_ble_eq_true rfl), (Nat.le_of_ble_eq_true rfl)⟩ ⟨(Nat.le_of_ble_eq_true rfl), (Nat.le_of_ble_eq_true rfl)⟩ xT_b xT_at 9 3 rfl rfl rfl _ hC_ (nd_T _ 0) rfl hl3.1 rfl (Nat.le_of_ble_eq_true rfl) dX11_takeDraft_117)) rfl (fun _ => rfl) (fun _ => rfl) (fun u_5 H1 locs hp hw7 => ?_)
      obtain ⟨gkind_8, gat_9, gfrom_10, gto_11, gworth_12, ncount_13⟩ := u_5
      generalize H1 = H at hw7 ⊢
      have hw14 : WD D A s.heap (WZ_Ltext3N cI cJ ad mv mr (upd mi 29 ncount_13) (va_up (va_up (va_up (va_up (va_up mf 24 gkind_8) 25 gat_9) 26 gfrom_10) 27 gto_11) 28 gworth_12) mg) H locs := hw7
      have hp_15 := hp
      have hp_15 : ncount_13.toInt = (mi 46).toInt := hp_15
      refine lv_aload_n (pc := 120) E.1 E.2.1 dX11_takeDraft_120 rfl (lv_at hl3 0 rfl) ?_
      refine x_get (pc := 121) (T := TX11) (N := 13) (ci := 11) (v := .ref (mr 3)) E hw14 inX11 0 0 q_606 rfl rfl (by decide) rfl rfl dX11_takeDraft_121 ?_
      refine x_get (pc := 124) (T := TX10) (N := 17) (ci := 10) (v := .ref (mr 8)) E hw14 inX10 1 0 q_458 rfl rfl (by decide) rfl rfl dX11_takeDraft_124 ?_
      refine ck_v (pc := 127) (ws' := (fun (u : (Nat → Int32) × Int32) => (WZ_Ltext3N cI cJ ad mv mr (upd (upd mi 14 u.2) 29 ncount_13) (va_up (va_up (va_up (va_up (va_up (va_up mf 13 u.1) 24 gkind_8) 25 gat_9) 26 gfrom_10) 27 gto_11) 28 gworth_12) mg))) [false, false, true, true, true, true, true, true, false, false, false, false, false, false, false, false, false, false, false, false, false, false, false] hw14 rfl (fun hC_ => (rn_V (As := []) (rest := []) E hw14 (t_forgetNeeds l D cI cJ _ (shf 8 mr) (shf 8 (upd mi 29 ncount_13)) (shf 8 (va_up (va_up (va_up (va_up (va_up mf 24 gkind_8) 25 gat_9) 26 gfrom_10) 27 gto_11) 28 gworth_12)) (shf 8 mg) ) (gdV q_978 q_979 q_980 q_153 q_981) hdV_X4_forgetNeeds ⟨rfl, rfl⟩ ⟨(Nat.le_of_ble_eq_true rfl), (Nat.le_of_ble_eq_true rfl)⟩ ⟨(Nat.le_of_ble_eq_true rfl), (Nat.le_of_ble_eq_true rfl)⟩ xT_b xT_at 2 4 rfl rfl rfl _ hC_ (nd_T _ 0) rfl hl3.1 rfl (Nat.le_of_ble_eq_true rfl) dX11_takeDraft_127)) rfl (fun _ => rfl) (fun _ => rfl) (fun u_16 H1 locs hp hw18 => ?_)
      obtain ⟨gdone_19, nspoilt_20⟩ := u_16
      generalize H1 = H at hw18 ⊢
      have hw21 : WD D A s.heap (WZ_Ltext3N cI cJ ad mv mr (upd (upd mi 14 nspoilt_20) 29 ncount_13) (va_up (va_up (va_up (va_up (va_up (va_up mf 13 gdone_19) 24 gkind_8) 25 gat_9) 26 gfrom_10) 27 gto_11) 28 gworth_12) mg) H locs := hw18
      refine lv_aload_n (pc := 130) E.1 E.2.1 dX11_takeDraft_130 rfl (lv_at hl3 0 rfl) ?_
      refine ck_v (pc := 131) (ws' := (fun (u : Int32 × Int32) => (WZ_Ltext3N cI cJ ad mv mr (upd (upd (upd (upd mi 1 u.1) 2 u.2) 14 nspoilt_20) 29 ncount_13) (va_up (va_up (va_up (va_up (va_up (va_up mf 13 gdone_19) 24 gkind_8) 25 gat_9) 26 gfrom_10) 27 gto_11) 28 gworth_12) mg))) [true, false, false, false, false, false, false, false, false, false, false, false, false, false, false, false, false, false, false, false, false, false, false] hw21 rfl (fun hC_ => (rn_V (As := []) (rest := []) E hw21 (t_forgetNightsN l D cI cJ _ mr (upd (upd mi 14 nspoilt_20) 29 ncount_13) (va_up (va_up (va_up (va_up (va_up (va_up mf 13 gdone_19) 24 gkind_8) 25 gat_9) 26 gfrom_10) 27 gto_11) 28 gworth_12) mg (vl [.ref (mr 3), mv 0, .ref (mr 30), mv 1, mv 2, .ref (mr 40), mv 3, mv 4, mv 5, mv 6])) (gdV q_650 q_652 q_0 q_151 q_653) hdV_X11_forgetNights ⟨rfl, rfl⟩ ⟨(Nat.le_of_ble_eq_true rfl), (Nat.le_of_ble_eq_true rfl)⟩ ⟨(Nat.le_of_ble_eq_true rfl), (Nat.le_of_ble_eq_true rfl)⟩ xT_b xT_at 0 11 rfl rfl rfl _ hC_ (nd_T _ 0) rfl hl3.1 rfl (Nat.le_of_ble_eq_true rfl) dX11_takeDraft_131)) rfl (fun _ => rfl) (fun _ => rfl) (fun u_22 H1 locs hp hw24 => ?_)
      obtain ⟨noldest_25, nundoable_26⟩ := u_22
      generalize H1 = H at hw24 ⊢
      have hw27 : WD D A s.heap (WZ_Ltext3N cI cJ ad mv mr (upd (upd (upd (upd mi 1 noldest_25) 2 nundoable_26) 14 nspoilt_20) 29 ncount_13) (va_up (va_up (va_up (va_up (va_up (va_up mf 13 gdone_19) 24 gkind_8) 25 gat_9) 26 gfrom_10) 27 gto_11) 28 gworth_12) mg) H locs := hw24
      obtain ⟨hp_28, hp_29⟩ := hp
      have hp_28 : noldest_25.toInt = 0 := hp_28
      have hp_29 : nundoable_26.toInt = 0 := hp_29
      refine lv_aload_n (pc := 134) E.1 E.2.1 dX11_takeDraft_134 rfl (lv_at hl3 0 rfl) ?_
      refine x_get (pc := 135) (T := TX11) (N := 13) (ci := 11) (v := .ref (mr 40)) E hw27 inX11 0 5 q_611 rfl rfl (by decide) rfl rfl dX11_takeDraft_135 ?_
      refine x_get (pc := 138) (T := TX3) (N := 6) (ci := 3) (v := .int (mi 46)) E hw27 inX3 17 5 q_363 rfl rfl (by decide) rfl rfl dX11_takeDraft_138 ?_
      exact em_i (w1 := (fun (u : (Nat → Int32) × (Nat → Nat → Int32) × (Nat → Nat → Int64)) => (WZ_Ltext3N cI cJ ad mv mr u.1 u.2.1 u.2.2))) E hr hlk ((upd (upd (upd (upd mi 1 noldest_25) 2 nundoable_26) 14 nspoilt_20) 29 ncount_13), (va_up (va_up (va_up (va_up (va_up (va_up mf 13 gdone_19) 24 gkind_8) 25 gat_9) 26 gfrom_10) 27 gto_11) 28 gworth_12), mg) hw27 ⟨(by show 0 ≤ noldest_25.toInt; omega), (by show noldest_25.toInt ≤ 5; omega), (by show 0 ≤ nundoable_26.toInt; omega), (by show nundoable_26.toInt ≤ 6; omega), h2.1, h2.2, h3.1, h3.2, (by show 0 ≤ ncount_13.toInt; omega), (by show ncount_13.toInt ≤ 10; omega), h5.1, h5.2, h6.1, h6.2, h7.1, h7.2, rfl, rfl⟩ (Nat.le_of_ble_eq_true rfl) (Nat.le_of_ble_eq_true rfl) dX11_takeDraft_141
    · skip
      have hsw_4v : z_k.toInt = 4 := hsw_4
      have hsw_4e : z_k = 4 := Int32.toInt_inj.mp (by rw [hsw_4]; decide +kernel)
      refine lv_tableIn (pc := 1) (off := 141) (tgt := 142) E.1 E.2.1 dX11_takeDraft_1 (by rw [hsw_4e]; decide +kernel) (by rw [hsw_4e]; decide +kernel) (by rw [hsw_4e]; decide +kernel) (by decide) ?_
      exfalso; omega
