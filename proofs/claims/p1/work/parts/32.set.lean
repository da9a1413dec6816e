def ws_p_set (cI cJ : ClassId) (L : Nat) (L_village : Nat) (L_tape : Nat) (L_draftLaw : Nat) (L_draftPaths : Nat) (L_draftNeeds : Nat) (L_draftRound : Nat) (L_thought : Nat) (L_past : Nat) (L_oldest : Int32) (L_undoable : Int32) (L_trail : Nat) (L_village_now : Nat) (L_village_houses : Nat) (L_village_paths : Nat) (L_village_needs : Nat) (L_village_turns : Nat) (L_village_burning : Nat) (L_village_round : Nat) (L_village_clues : Nat) (L_village_book : Nat) (L_village_flakes : Int32) (L_village_margin : Int32) (L_village_dusk : Int32) (L_village_due : Int32) (L_village_readings : Nat) (L_village_chance : Nat) (L_village_chanceAhead : Nat) (L_village_likely : Nat) (L_village_houses_place : Nat) (L_village_houses_people : Nat) (L_village_houses_bid : Nat) (L_village_houses_says : Nat) (L_village_houses_friendSet : Nat) (L_village_houses_mended : Nat) (L_village_houses_partner : Nat) (L_village_now_oil : Nat) (L_village_now_owed : Nat) (L_village_now_had : Nat) (L_village_now_last : Nat) (L_village_now_done : Nat) (L_village_now_spoilt : Int32) (L_village_now_lamp : Int32) (L_village_now_night : Int32) (L_village_now_snow : Int32) (L_village_now_draws : Int32) (L_village_now_gone : Int32) (L_village_now_lines : Int32) (p1 : Int32) (p2 : Int32) (p3 : Int32) (t1 : Nat) (t2 : Nat) : va_W := [(L, .inr (11, [.ref L_village, .null, .ref L_tape, .ref L_draftLaw, .ref L_draftPaths, .ref L_draftNeeds, .ref L_draftRound, .ref L_thought, .ref L_past, .int L_oldest, .int L_undoable, .null, .ref L_trail])), (L_village, .inr (10, [.ref L_village_now, .ref L_village_houses, .ref L_village_paths, .ref L_village_needs, .ref L_village_turns, .ref L_village_burning, .ref L_village_round, .ref L_village_clues, .ref L_village_book, .int L_village_flakes, .int L_village_margin, .int L_village_dusk, .int L_village_due, .ref L_village_readings, .ref L_village_chance, .ref L_village_chanceAhead, .ref L_village_likely])), (L_village_houses, .inr (1, [.ref L_village_houses_place, .ref L_village_houses_people, .ref L_village_houses_bid, .ref L_village_houses_says, .ref L_village_houses_friendSet, .int 0, .ref L_village_houses_mended, .ref L_village_houses_partner, .null])), (L_village_now, .inr (4, [.ref L_village_now_oil, .ref L_village_now_owed, .ref L_village_now_had, .ref L_village_now_last, .ref L_village_now_done, .int L_village_now_spoilt, .int L_village_now_lamp, .int L_village_now_night, .int L_village_now_snow, .int L_village_now_draws, .int L_village_now_gone, .int L_village_now_lines]))]
def w1_p_set (cI cJ : ClassId) (L : Nat) (L_village : Nat) (L_tape : Nat) (L_draftLaw : Nat) (L_draftPaths : Nat) (L_draftNeeds : Nat) (L_draftRound : Nat) (L_thought : Nat) (L_past : Nat) (L_oldest : Int32) (L_undoable : Int32) (L_trail : Nat) (L_village_now : Nat) (L_village_houses : Nat) (L_village_paths : Nat) (L_village_needs : Nat) (L_village_turns : Nat) (L_village_burning : Nat) (L_village_round : Nat) (L_village_clues : Nat) (L_village_book : Nat) (L_village_flakes : Int32) (L_village_margin : Int32) (L_village_dusk : Int32) (L_village_due : Int32) (L_village_readings : Nat) (L_village_chance : Nat) (L_village_chanceAhead : Nat) (L_village_likely : Nat) (L_village_houses_place : Nat) (L_village_houses_people : Nat) (L_village_houses_bid : Nat) (L_village_houses_says : Nat) (L_village_houses_friendSet : Nat) (L_village_houses_mended : Nat) (L_village_houses_partner : Nat) (L_village_now_oil : Nat) (L_village_now_owed : Nat) (L_village_now_had : Nat) (L_village_now_last : Nat) (L_village_now_done : Nat) (L_village_now_spoilt : Int32) (L_village_now_lamp : Int32) (L_village_now_night : Int32) (L_village_now_snow : Int32) (L_village_now_draws : Int32) (L_village_now_gone : Int32) (L_village_now_lines : Int32) (p1 : Int32) (p2 : Int32) (p3 : Int32) (t1 : Nat) (t2 : Nat) : Unit → va_W := fun u => []
set_option maxHeartbeats 4000000 in
set_option maxRecDepth 100000 in
theorem p_set (l : Launch) (D : va_G) (cI cJ : ClassId) (sz : Nat) (L : Nat) (L_village : Nat) (L_tape : Nat) (L_draftLaw : Nat) (L_draftPaths : Nat) (L_draftNeeds : Nat) (L_draftRound : Nat) (L_thought : Nat) (L_past : Nat) (L_oldest : Int32) (L_undoable : Int32) (L_trail : Nat) (L_village_now : Nat) (L_village_houses : Nat) (L_village_paths : Nat) (L_village_needs : Nat) (L_village_turns : Nat) (L_village_burning : Nat) (L_village_round : Nat) (L_village_clues : Nat) (L_village_book : Nat) (L_village_flakes : Int32) (L_village_margin : Int32) (L_village_dusk : Int32) (L_village_due : Int32) (L_village_readings : Nat) (L_village_chance : Nat) (L_village_chanceAhead : Nat) (L_village_likely : Nat) (L_village_houses_place : Nat) (L_village_houses_people : Nat) (L_village_houses_bid : Nat) (L_village_houses_says : Nat) (L_village_houses_friendSet : Nat) (L_village_houses_mended : Nat) (L_village_houses_partner : Nat) (L_village_now_oil : Nat) (L_village_now_owed : Nat) (L_village_now_had : Nat) (L_village_now_last : Nat) (L_village_now_done : Nat) (L_village_now_spoilt : Int32) (L_village_now_lamp : Int32) (L_village_now_night : Int32) (L_village_now_snow : Int32) (L_village_now_draws : Int32) (L_village_now_gone : Int32) (L_village_now_lines : Int32) (p1 : Int32) (p2 : Int32) (p3 : Int32) (t1 : Nat) (t2 : Nat)  : Met l yX11_set (Cond.code yX11_set cX11_set 4 (some .boolean) :: GW) ({ frames := 4, cells := 0, slots := 0, locals := 120 } : Room) (va_Pc [.ref L, .int p1, .int p2, .int p3] (PW D cI cJ sz (ws_p_set cI cJ L L_village L_tape L_draftLaw L_draftPaths L_draftNeeds L_draftRound L_thought L_past L_oldest L_undoable L_trail L_village_now L_village_houses L_village_paths L_village_needs L_village_turns L_village_burning L_village_round L_village_clues L_village_book L_village_flakes L_village_margin L_village_dusk L_village_due L_village_readings L_village_chance L_village_chanceAhead L_village_likely L_village_houses_place L_village_houses_people L_village_houses_bid L_village_houses_says L_village_houses_friendSet L_village_houses_mended L_village_houses_partner L_village_now_oil L_village_now_owed L_village_now_had L_village_now_last L_village_now_done L_village_now_spoilt L_village_now_lamp L_village_now_night L_village_now_snow L_village_now_draws L_village_now_gone L_village_now_lines p1 p2 p3 t1 t2) ((xZ t1 t2) (va_A (ws_p_set cI cJ L L_village L_tape L_draftLaw L_draftPaths L_draftNeeds L_draftRound L_thought L_past L_oldest L_undoable L_trail L_village_now L_village_houses L_village_paths L_village_needs L_village_turns L_village_burning L_village_round L_village_clues L_village_book L_village_flakes L_village_margin L_village_dusk L_village_due L_village_readings L_village_chance L_village_chanceAhead L_village_likely L_village_houses_place L_village_houses_people L_village_houses_bid L_village_houses_says L_village_houses_friendSet L_village_houses_mended L_village_houses_partner L_village_now_oil L_village_now_owed L_village_now_had L_village_now_last L_village_now_done L_village_now_spoilt L_village_now_lamp L_village_now_night L_village_now_snow L_village_now_draws L_village_now_gone L_village_now_lines p1 p2 p3 t1 t2) sz)))) (va_Qi (fun (r : Int32) (u : Unit) => r = sp_set p1 p3) (fun u => QW D cI cJ (va_A (ws_p_set cI cJ L L_village L_tape L_draftLaw L_draftPaths L_draftNeeds L_draftRound L_thought L_past L_oldest L_undoable L_trail L_village_now L_village_houses L_village_paths L_village_needs L_village_turns L_village_burning L_village_round L_village_clues L_village_book L_village_flakes L_village_margin L_village_dusk L_village_due L_village_readings L_village_chance L_village_chanceAhead L_village_likely L_village_houses_place L_village_houses_people L_village_houses_bid L_village_houses_says L_village_houses_friendSet L_village_houses_mended L_village_houses_partner L_village_now_oil L_village_now_owed L_village_now_had L_village_now_last L_village_now_done L_village_now_spoilt L_village_now_lamp L_village_now_night L_village_now_snow L_village_now_draws L_village_now_gone L_village_now_lines p1 p2 p3 t1 t2) sz) ((w1_p_set cI cJ L L_village L_tape L_draftLaw L_draftPaths L_draftNeeds L_draftRound L_thought L_past L_oldest L_undoable L_trail L_village_now L_village_houses L_village_paths L_village_needs L_village_turns L_village_burning L_village_round L_village_clues L_village_book L_village_flakes L_village_margin L_village_dusk L_village_due L_village_readings L_village_chance L_village_chanceAhead L_village_likely L_village_houses_place L_village_houses_people L_village_houses_bid L_village_houses_says L_village_houses_friendSet L_village_houses_mended L_village_houses_partner L_village_now_oil L_village_now_owed L_village_now_had L_village_now_last L_village_now_done L_village_now_spoilt L_village_now_lamp L_village_now_night L_village_now_snow L_village_now_draws L_village_now_gone L_village_now_lines p1 p2 p3 t1 t2) u)) (va_A (ws_p_set cI cJ L L_village L_tape L_draftLaw L_draftPaths L_draftNeeds L_draftRound L_thought L_past L_oldest L_undoable L_trail L_village_now L_village_houses L_village_paths L_village_needs L_village_turns L_village_burning L_village_round L_village_clues L_village_book L_village_flakes L_village_margin L_village_dusk L_village_due L_village_readings L_village_chance L_village_chanceAhead L_village_likely L_village_houses_place L_village_houses_people L_village_houses_bid L_village_houses_says L_village_houses_friendSet L_village_houses_mended L_village_houses_partner L_village_now_oil L_village_now_owed L_village_now_had L_village_now_last L_village_now_done L_village_now_spoilt L_village_now_lamp L_village_now_night L_village_now_snow L_village_now_draws L_village_now_gone L_village_now_lines p1 p2 p3 t1 t2) sz)) 0 0 (va_A (ws_p_set cI cJ L L_village L_tape L_draftLaw L_draftPaths L_draftNeeds L_draftRound L_thought L_past L_oldest L_undoable L_trail L_village_now L_village_houses L_village_paths L_village_needs L_village_turns L_village_burning L_village_round L_village_clues L_village_book L_village_flakes L_village_margin L_village_dusk L_village_due L_village_readings L_village_chance L_village_chanceAhead L_village_likely L_village_houses_place L_village_houses_people L_village_houses_bid L_village_houses_says L_village_houses_friendSet L_village_houses_mended L_village_houses_partner L_village_now_oil L_village_now_owed L_village_now_had L_village_now_last L_village_now_done L_village_now_spoilt L_village_now_lamp L_village_now_night L_village_now_snow L_village_now_draws L_village_now_gone L_village_now_lines p1 p2 p3 t1 t2) sz) := by
  refine mk_metA (X := (xZ t1 t2)) (y := yX11_set) (bytes := cX11_set) (maxL := 4) (avs := [.ref L, .int p1, .int p2, .int p3]) (WS := (ws_p_set cI cJ L L_village L_tape L_draftLaw L_draftPaths L_draftNeeds L_draftRound L_thought L_past L_oldest L_undoable L_trail L_village_now L_village_houses L_village_paths L_village_needs L_village_turns L_village_burning L_village_round L_village_clues L_village_book L_village_flakes L_village_margin L_village_dusk L_village_due L_village_readings L_village_chance L_village_chanceAhead L_village_likely L_village_houses_place L_village_houses_people L_village_houses_bid L_village_houses_says L_village_houses_friendSet L_village_houses_mended L_village_houses_partner L_village_now_oil L_village_now_owed L_village_now_had L_village_now_last L_village_now_done L_village_now_spoilt L_village_now_lamp L_village_now_night L_village_now_snow L_village_now_draws L_village_now_gone L_village_now_lines p1 p2 p3 t1 t2)) (Qf := fun A => va_Qi (fun (r : Int32) (u : Unit) => r = sp_set p1 p3) (fun u => QW D cI cJ A ((w1_p_set cI cJ L L_village L_tape L_draftLaw L_draftPaths L_draftNeeds L_draftRound L_thought L_past L_oldest L_undoable L_trail L_village_now L_village_houses L_village_paths L_village_needs L_village_turns L_village_burning L_village_round L_village_clues L_village_book L_village_flakes L_village_margin L_village_dusk L_village_due L_village_readings L_village_chance L_village_chanceAhead L_village_likely L_village_houses_place L_village_houses_people L_village_houses_bid L_village_houses_says L_village_houses_friendSet L_village_houses_mended L_village_houses_partner L_village_now_oil L_village_now_owed L_village_now_had L_village_now_last L_village_now_done L_village_now_spoilt L_village_now_lamp L_village_now_night L_village_now_snow L_village_now_draws L_village_now_gone L_village_now_lines p1 p2 p3 t1 t2) u)) A) (by decide) (Nat.le_of_ble_eq_true rfl) ?_
  intro p e s m below meth c A ls E hr hlk hnm hX hw1 hl2
  have hl3 : lv_has ls 4 [(0, .ref L), (1, .int p1), (2, .int p2), (3, .int p3)] := hl2
  have hw4 : WD D A s.heap [(L, .inr (11, [.ref L_village, .null, .ref L_tape, .ref L_draftLaw, .ref L_draftPaths, .ref L_draftNeeds, .ref L_draftRound, .ref L_thought, .ref L_past, .int L_oldest, .int L_undoable, .null, .ref L_trail])), (L_village, .inr (10, [.ref L_village_now, .ref L_village_houses, .ref L_village_paths, .ref L_village_needs, .ref L_village_turns, .ref L_village_burning, .ref L_village_round, .ref L_village_clues, .ref L_village_book, .int L_village_flakes, .int L_village_margin, .int L_village_dusk, .int L_village_due, .ref L_village_readings, .ref L_village_chance, .ref L_village_chanceAhead, .ref L_village_likely])), (L_village_houses, .inr (1, [.ref L_village_houses_place, .ref L_village_houses_people, .ref L_village_houses_bid, .ref L_village_houses_says, .ref L_village_houses_friendSet, .int 0, .ref L_village_houses_mended, .ref L_village_houses_partner, .null])), (L_village_now, .inr (4, [.ref L_village_now_oil, .ref L_village_now_owed, .ref L_village_now_had, .ref L_village_now_last, .ref L_village_now_done, .int L_village_now_spoilt, .int L_village_now_lamp, .int L_village_now_night, .int L_village_now_snow, .int L_village_now_draws, .int L_village_now_gone, .int L_village_now_lines]))] s.heap [] := hw1
  rcases sw11 p1 with rfl | rfl | rfl | rfl | rfl | rfl | rfl | rfl | rfl | rfl | rfl | c_5 | c_5
  · skip
    refine lv_iload_n (pc := 0) E.1 E.2.1 dX11_set_0 rfl (lv_at hl3 1 rfl) ?_
    refine lv_if_lt (pc := 1) (tgt := 20) E.1 E.2.1 dX11_set_1 (by decide) (fun c_6 => absurd c_6 (by decide +kernel)) (fun _ => ?_)
    refine lv_iload_n (pc := 4) E.1 E.2.1 dX11_set_4 rfl (lv_at hl3 1 rfl) ?_
    refine x_gets (pc := 5) E hw4 hX.1 q_670 rfl dX11_set_5 ?_
    refine x_tlen (pc := 8) (v := 11) E hw4 hX.2.1 (by decide +kernel) dX11_set_8 ?_
    refine lv_icmp_ge (pc := 9) (tgt := 20) E.1 E.2.1 dX11_set_9 (by decide) (fun c_7 => absurd c_7 (by decide +kernel)) (fun _ => ?_)
    refine lv_iload_n (pc := 12) E.1 E.2.1 dX11_set_12 rfl (lv_at hl3 1 rfl) ?_
    refine x_gets (pc := 13) E hw4 hX.2.2.1 q_672 rfl dX11_set_13 ?_
    refine x_tlen (pc := 16) (v := 11) E hw4 hX.2.2.2 (by decide +kernel) dX11_set_16 ?_
    refine lv_icmp_lt (pc := 17) (tgt := 22) E.1 E.2.1 dX11_set_17 (by decide) (fun _ => ?_) (fun c_8 => absurd (by decide +kernel) c_8)
    refine lv_iload_n (pc := 22) E.1 E.2.1 dX11_set_22 rfl (lv_at hl3 3 rfl) ?_
    refine x_gets (pc := 23) E hw4 hX.1 q_670 rfl dX11_set_23 ?_
    refine lv_iload_n (pc := 26) E.1 E.2.1 dX11_set_26 rfl (lv_at hl3 1 rfl) ?_
    refine x_ti (pc := 27) (v := .int 0) E hw4 hX.2.1 (vp_in_nI (n := 0) (N := 11) (Nat.le_of_ble_eq_true rfl) (Nat.le_of_ble_eq_true rfl)) rfl dX11_set_27 ?_
    refine lv_icmp_lt (pc := 28) (tgt := 40) E.1 E.2.1 dX11_set_28 (by decide) (fun c_9 => ?_) (fun c_9 => ?_)
    · skip
      refine lv_iconst (pc := 40) (v := 0) E.1 E.2.1 dX11_set_40 (by decide +kernel) ?_
      exact nd_z  E hr hlk hw4 () (by first | decide +kernel | (simp [sp_set, c_9]; done) | exact (sp_set_out (by simp [c_9])).symm) (by decide +kernel) [] rfl (by decide) (Nat.le_of_ble_eq_true rfl) (Nat.le_of_ble_eq_true rfl) dX11_set_41
    · skip
      refine lv_iload_n (pc := 31) E.1 E.2.1 dX11_set_31 rfl (lv_at hl3 3 rfl) ?_
      refine x_gets (pc := 32) E hw4 hX.2.2.1 q_672 rfl dX11_set_32 ?_
      refine lv_iload_n (pc := 35) E.1 E.2.1 dX11_set_35 rfl (lv_at hl3 1 rfl) ?_
      refine x_ti (pc := 36) (v := .int 9) E hw4 hX.2.2.2 (vp_in_nI (n := 0) (N := 11) (Nat.le_of_ble_eq_true rfl) (Nat.le_of_ble_eq_true rfl)) rfl dX11_set_36 ?_
      refine lv_icmp_le (pc := 37) (tgt := 42) E.1 E.2.1 dX11_set_37 (by decide) (fun c_10 => ?_) (fun c_10 => ?_)
      · skip
        refine lv_iload_n (pc := 42) E.1 E.2.1 dX11_set_42 rfl (lv_at hl3 1 rfl) ?_
        refine lv_iconst (pc := 43) (v := 5) E.1 E.2.1 dX11_set_43 (by decide +kernel) ?_
        refine lv_icmp_ne (pc := 44) (tgt := 63) E.1 E.2.1 dX11_set_44 (by decide) (fun _ => ?_) (fun c_11 => absurd c_11 (by decide +kernel))
        refine lv_iload_n (pc := 63) E.1 E.2.1 dX11_set_63 rfl (lv_at hl3 1 rfl) ?_
        refine lv_iconst (pc := 64) (v := 5) E.1 E.2.1 dX11_set_64 (by decide +kernel) ?_
        refine lv_icmp_le (pc := 65) (tgt := 84) E.1 E.2.1 dX11_set_65 (by decide) (fun _ => ?_) (fun c_12 => absurd (by decide +kernel) c_12)
        refine lv_iload_n (pc := 84) E.1 E.2.1 dX11_set_84 rfl (lv_at hl3 1 rfl) ?_
        refine lv_iconst (pc := 85) (v := 5) E.1 E.2.1 dX11_set_85 (by decide +kernel) ?_
        refine lv_icmp_le (pc := 86) (tgt := 102) E.1 E.2.1 dX11_set_86 (by decide) (fun _ => ?_) (fun c_13 => absurd (by decide +kernel) c_13)
        refine lv_aload_n (pc := 102) E.1 E.2.1 dX11_set_102 rfl (lv_at hl3 0 rfl) ?_
        refine x_get (pc := 103) (T := TX11) (N := 13) (ci := 11) E hw4 inX11 0 0 q_606 rfl rfl (by decide) rfl rfl dX11_set_103 ?_
        refine lv_iload_n (pc := 106) E.1 E.2.1 dX11_set_106 rfl (lv_at hl3 1 rfl) ?_
        refine lv_iload_n (pc := 107) E.1 E.2.1 dX11_set_107 rfl (lv_at hl3 3 rfl) ?_
        refine cl_v (pc := 108) (k1 := 0) (n1 := 0) (wr := [(L, .inr (11, [.ref L_village, .null, .ref L_tape, .ref L_draftLaw, .ref L_draftPaths, .ref L_draftNeeds, .ref L_draftRound, .ref L_thought, .ref L_past, .int L_oldest, .int L_undoable, .null, .ref L_trail])), (L_village_houses, .inr (1, [.ref L_village_houses_place, .ref L_village_houses_people, .ref L_village_houses_bid, .ref L_village_houses_says, .ref L_village_houses_friendSet, .int 0, .ref L_village_houses_mended, .ref L_village_houses_partner, .null]))]) hw4 [1, 3] [0, 2] rfl rfl (by decide) (by decide) (Nat.le_of_ble_eq_true rfl) (Nat.le_of_ble_eq_true rfl) (rn_V (As := [.int 0, .int p3]) (rest := []) E hw4 (c_X10_tellOfAll_0 l D cI cJ _ L_village L_village_now L_village_houses L_village_paths L_village_needs L_village_turns L_village_burning L_village_round L_village_clues L_village_book L_village_flakes L_village_margin L_village_dusk L_village_due L_village_readings L_village_chance L_village_chanceAhead L_village_likely L_village_now_oil L_village_now_owed L_village_now_had L_village_now_last L_village_now_done L_village_now_spoilt L_village_now_lamp L_village_now_night L_village_now_snow L_village_now_draws L_village_now_gone L_village_now_lines p3) (gdV q_682 q_683 q_684 q_152 q_685) hdV_X10_tellOfAll ⟨rfl, rfl⟩ ⟨(Nat.le_of_ble_eq_true rfl), (Nat.le_of_ble_eq_true rfl)⟩ ⟨(Nat.le_of_ble_eq_true rfl), (Nat.le_of_ble_eq_true rfl)⟩ xT_b xT_at 1 10 rfl rfl rfl [1, 3] rfl (by decide) rfl hl3.1 rfl (Nat.le_of_ble_eq_true rfl) dX11_set_108) (fun u_14 H1 locs hp hw15 => ?_)
        generalize H1 = H at hw15 ⊢
        have hw16 : WD D A s.heap [(L, .inr (11, [.ref L_village, .null, .ref L_tape, .ref L_draftLaw, .ref L_draftPaths, .ref L_draftNeeds, .ref L_draftRound, .ref L_thought, .ref L_past, .int L_oldest, .int L_undoable, .null, .ref L_trail])), (L_village_houses, .inr (1, [.ref L_village_houses_place, .ref L_village_houses_people, .ref L_village_houses_bid, .ref L_village_houses_says, .ref L_village_houses_friendSet, .int 0, .ref L_village_houses_mended, .ref L_village_houses_partner, .null]))] H locs := hw15
        refine lv_aload_n (pc := 111) E.1 E.2.1 dX11_set_111 rfl (lv_at hl3 0 rfl) ?_
        refine cl_v (pc := 112) (k1 := 0) (n1 := 0) (wr := [(L_village_houses, .inr (1, [.ref L_village_houses_place, .ref L_village_houses_people, .ref L_village_houses_bid, .ref L_village_houses_says, .ref L_village_houses_friendSet, .int 0, .ref L_village_houses_mended, .ref L_village_houses_partner, .null]))]) hw16 [0] [1] rfl rfl (by decide) (by decide) (Nat.le_of_ble_eq_true rfl) (Nat.le_of_ble_eq_true rfl) (rn_V (As := []) (rest := []) E hw16 (c_X11_forgetNights l D cI cJ _ L L_village L_tape L_draftLaw L_draftPaths L_draftNeeds L_draftRound L_thought L_past L_oldest L_undoable L_trail) (gdV q_650 q_652 q_0 q_151 q_653) hdV_X11_forgetNights ⟨rfl, rfl⟩ ⟨(Nat.le_of_ble_eq_true rfl), (Nat.le_of_ble_eq_true rfl)⟩ ⟨(Nat.le_of_ble_eq_true rfl), (Nat.le_of_ble_eq_true rfl)⟩ xT_b xT_at 0 11 rfl rfl rfl [0] rfl (by decide) rfl hl3.1 rfl (Nat.le_of_ble_eq_true rfl) dX11_set_112) (fun u_17 H1 locs hp hw18 => ?_)
        generalize H1 = H at hw18 ⊢
        have hw19 : WD D A s.heap [(L_village_houses, .inr (1, [.ref L_village_houses_place, .ref L_village_houses_people, .ref L_village_houses_bid, .ref L_village_houses_says, .ref L_village_houses_friendSet, .int 0, .ref L_village_houses_mended, .ref L_village_houses_partner, .null])), (L, .inr (11, [.ref L_village, .null, .ref L_tape, .ref L_draftLaw, .ref L_draftPaths, .ref L_draftNeeds, .ref L_draftRound, .ref L_thought, .ref L_past, .int 0, .int 0, .null, .ref L_trail]))] H locs := hw18
        refine lv_iconst (pc := 115) (v := 1) E.1 E.2.1 dX11_set_115 (by decide +kernel) ?_
        exact nd_z  E hr hlk hw19 () (by first | decide +kernel | (simp [sp_set, c_9, c_10]; done) | exact (sp_set_out (by simp [c_9, c_10])).symm) (by decide +kernel) [] rfl (by decide) (Nat.le_of_ble_eq_true rfl) (Nat.le_of_ble_eq_true rfl) dX11_set_116
      · skip
        refine lv_iconst (pc := 40) (v := 0) E.1 E.2.1 dX11_set_40 (by decide +kernel) ?_
        exact nd_z  E hr hlk hw4 () (by first | decide +kernel | (simp [sp_set, c_9, c_10]; done) | exact (sp_set_out (by simp [c_9, c_10])).symm) (by decide +kernel) [] rfl (by decide) (Nat.le_of_ble_eq_true rfl) (Nat.le_of_ble_eq_true rfl) dX11_set_41
  · skip
    refine lv_iload_n (pc := 0) E.1 E.2.1 dX11_set_0 rfl (lv_at hl3 1 rfl) ?_
    refine lv_if_lt (pc := 1) (tgt := 20) E.1 E.2.1 dX11_set_1 (by decide) (fun c_20 => absurd c_20 (by decide +kernel)) (fun _ => ?_)
    refine lv_iload_n (pc := 4) E.1 E.2.1 dX11_set_4 rfl (lv_at hl3 1 rfl) ?_
    refine x_gets (pc := 5) E hw4 hX.1 q_670 rfl dX11_set_5 ?_
    refine x_tlen (pc := 8) (v := 11) E hw4 hX.2.1 (by decide +kernel) dX11_set_8 ?_
    refine lv_icmp_ge (pc := 9) (tgt := 20) E.1 E.2.1 dX11_set_9 (by decide) (fun c_21 => absurd c_21 (by decide +kernel)) (fun _ => ?_)
    refine lv_iload_n (pc := 12) E.1 E.2.1 dX11_set_12 rfl (lv_at hl3 1 rfl) ?_
    refine x_gets (pc := 13) E hw4 hX.2.2.1 q_672 rfl dX11_set_13 ?_
    refine x_tlen (pc := 16) (v := 11) E hw4 hX.2.2.2 (by decide +kernel) dX11_set_16 ?_
    refine lv_icmp_lt (pc := 17) (tgt := 22) E.1 E.2.1 dX11_set_17 (by decide) (fun _ => ?_) (fun c_22 => absurd (by decide +kernel) c_22)
    refine lv_iload_n (pc := 22) E.1 E.2.1 dX11_set_22 rfl (lv_at hl3 3 rfl) ?_
    refine x_gets (pc := 23) E hw4 hX.1 q_670 rfl dX11_set_23 ?_
    refine lv_iload_n (pc := 26) E.1 E.2.1 dX11_set_26 rfl (lv_at hl3 1 rfl) ?_
    refine x_ti (pc := 27) (v := .int 0) E hw4 hX.2.1 (vp_in_nI (n := 1) (N := 11) (Nat.le_of_ble_eq_true rfl) (Nat.le_of_ble_eq_true rfl)) rfl dX11_set_27 ?_
    refine lv_icmp_lt (pc := 28) (tgt := 40) E.1 E.2.1 dX11_set_28 (by decide) (fun c_23 => ?_) (fun c_23 => ?_)
    · skip
      refine lv_iconst (pc := 40) (v := 0) E.1 E.2.1 dX11_set_40 (by decide +kernel) ?_
      exact nd_z  E hr hlk hw4 () (by first | decide +kernel | (simp [sp_set, c_23]; done) | exact (sp_set_out (by simp [c_23])).symm) (by decide +kernel) [] rfl (by decide) (Nat.le_of_ble_eq_true rfl) (Nat.le_of_ble_eq_true rfl) dX11_set_41
    · skip
      refine lv_iload_n (pc := 31) E.1 E.2.1 dX11_set_31 rfl (lv_at hl3 3 rfl) ?_
      refine x_gets (pc := 32) E hw4 hX.2.2.1 q_672 rfl dX11_set_32 ?_
      refine lv_iload_n (pc := 35) E.1 E.2.1 dX11_set_35 rfl (lv_at hl3 1 rfl) ?_
      refine x_ti (pc := 36) (v := .int 1000) E hw4 hX.2.2.2 (vp_in_nI (n := 1) (N := 11) (Nat.le_of_ble_eq_true rfl) (Nat.le_of_ble_eq_true rfl)) rfl dX11_set_36 ?_
      refine lv_icmp_le (pc := 37) (tgt := 42) E.1 E.2.1 dX11_set_37 (by decide) (fun c_24 => ?_) (fun c_24 => ?_)
      · skip
        refine lv_iload_n (pc := 42) E.1 E.2.1 dX11_set_42 rfl (lv_at hl3 1 rfl) ?_
        refine lv_iconst (pc := 43) (v := 5) E.1 E.2.1 dX11_set_43 (by decide +kernel) ?_
        refine lv_icmp_ne (pc := 44) (tgt := 63) E.1 E.2.1 dX11_set_44 (by decide) (fun _ => ?_) (fun c_25 => absurd c_25 (by decide +kernel))
        refine lv_iload_n (pc := 63) E.1 E.2.1 dX11_set_63 rfl (lv_at hl3 1 rfl) ?_
        refine lv_iconst (pc := 64) (v := 5) E.1 E.2.1 dX11_set_64 (by decide +kernel) ?_
        refine lv_icmp_le (pc := 65) (tgt := 84) E.1 E.2.1 dX11_set_65 (by decide) (fun _ => ?_) (fun c_26 => absurd (by decide +kernel) c_26)
        refine lv_iload_n (pc := 84) E.1 E.2.1 dX11_set_84 rfl (lv_at hl3 1 rfl) ?_
        refine lv_iconst (pc := 85) (v := 5) E.1 E.2.1 dX11_set_85 (by decide +kernel) ?_
        refine lv_icmp_le (pc := 86) (tgt := 102) E.1 E.2.1 dX11_set_86 (by decide) (fun _ => ?_) (fun c_27 => absurd (by decide +kernel) c_27)
        refine lv_aload_n (pc := 102) E.1 E.2.1 dX11_set_102 rfl (lv_at hl3 0 rfl) ?_
        refine x_get (pc := 103) (T := TX11) (N := 13) (ci := 11) E hw4 inX11 0 0 q_606 rfl rfl (by decide) rfl rfl dX11_set_103 ?_
        refine lv_iload_n (pc := 106) E.1 E.2.1 dX11_set_106 rfl (lv_at hl3 1 rfl) ?_
        refine lv_iload_n (pc := 107) E.1 E.2.1 dX11_set_107 rfl (lv_at hl3 3 rfl) ?_
        refine cl_v (pc := 108) (k1 := 0) (n1 := 0) (wr := [(L, .inr (11, [.ref L_village, .null, .ref L_tape, .ref L_draftLaw, .ref L_draftPaths, .ref L_draftNeeds, .ref L_draftRound, .ref L_thought, .ref L_past, .int L_oldest, .int L_undoable, .null, .ref L_trail])), (L_village_houses, .inr (1, [.ref L_village_houses_place, .ref L_village_houses_people, .ref L_village_houses_bid, .ref L_village_houses_says, .ref L_village_houses_friendSet, .int 0, .ref L_village_houses_mended, .ref L_village_houses_partner, .null]))]) hw4 [1, 3] [0, 2] rfl rfl (by decide) (by decide) (Nat.le_of_ble_eq_true rfl) (Nat.le_of_ble_eq_true rfl) (rn_V (As := [.int 1, .int p3]) (rest := []) E hw4 (c_X10_tellOfAll_1 l D cI cJ _ L_village L_village_now L_village_houses L_village_paths L_village_needs L_village_turns L_village_burning L_village_round L_village_clues L_village_book L_village_flakes L_village_margin L_village_dusk L_village_due L_village_readings L_village_chance L_village_chanceAhead L_village_likely L_village_now_oil L_village_now_owed L_village_now_had L_village_now_last L_village_now_done L_village_now_spoilt L_village_now_lamp L_village_now_night L_village_now_snow L_village_now_draws L_village_now_gone L_village_now_lines p3) (gdV q_682 q_683 q_684 q_152 q_685) hdV_X10_tellOfAll ⟨rfl, rfl⟩ ⟨(Nat.le_of_ble_eq_true rfl), (Nat.le_of_ble_eq_true rfl)⟩ ⟨(Nat.le_of_ble_eq_true rfl), (Nat.le_of_ble_eq_true rfl)⟩ xT_b xT_at 1 10 rfl rfl rfl [1, 3] rfl (by decide) rfl hl3.1 rfl (Nat.le_of_ble_eq_true rfl) dX11_set_108) (fun u_28 H1 locs hp hw29 => ?_)
        generalize H1 = H at hw29 ⊢
        have hw30 : WD D A s.heap [(L, .inr (11, [.ref L_village, .null, .ref L_tape, .ref L_draftLaw, .ref L_draftPaths, .ref L_draftNeeds, .ref L_draftRound, .ref L_thought, .ref L_past, .int L_oldest, .int L_undoable, .null, .ref L_trail])), (L_village_houses, .inr (1, [.ref L_village_houses_place, .ref L_village_houses_people, .ref L_village_houses_bid, .ref L_village_houses_says, .ref L_village_houses_friendSet, .int 0, .ref L_village_houses_mended, .ref L_village_houses_partner, .null]))] H locs := hw29
        refine lv_aload_n (pc := 111) E.1 E.2.1 dX11_set_111 rfl (lv_at hl3 0 rfl) ?_
        refine cl_v (pc := 112) (k1 := 0) (n1 := 0) (wr := [(L_village_houses, .inr (1, [.ref L_village_houses_place, .ref L_village_houses_people, .ref L_village_houses_bid, .ref L_village_houses_says, .ref L_village_houses_friendSet, .int 0, .ref L_village_houses_mended, .ref L_village_houses_partner, .null]))]) hw30 [0] [1] rfl rfl (by decide) (by decide) (Nat.le_of_ble_eq_true rfl) (Nat.le_of_ble_eq_true rfl) (rn_V (As := []) (rest := []) E hw30 (c_X11_forgetNights l D cI cJ _ L L_village L_tape L_draftLaw L_draftPaths L_draftNeeds L_draftRound L_thought L_past L_oldest L_undoable L_trail) (gdV q_650 q_652 q_0 q_151 q_653) hdV_X11_forgetNights ⟨rfl, rfl⟩ ⟨(Nat.le_of_ble_eq_true rfl), (Nat.le_of_ble_eq_true rfl)⟩ ⟨(Nat.le_of_ble_eq_true rfl), (Nat.le_of_ble_eq_true rfl)⟩ xT_b xT_at 0 11 rfl rfl rfl [0] rfl (by decide) rfl hl3.1 rfl (Nat.le_of_ble_eq_true rfl) dX11_set_112) (fun u_31 H1 locs hp hw32 => ?_)
        generalize H1 = H at hw32 ⊢
        have hw33 : WD D A s.heap [(L_village_houses, .inr (1, [.ref L_village_houses_place, .ref L_village_houses_people, .ref L_village_houses_bid, .ref L_village_houses_says, .ref L_village_houses_friendSet, .int 0, .ref L_village_houses_mended, .ref L_village_houses_partner, .null])), (L, .inr (11, [.ref L_village, .null, .ref L_tape, .ref L_draftLaw, .ref L_draftPaths, .ref L_draftNeeds, .ref L_draftRound, .ref L_thought, .ref L_past, .int 0, .int 0, .null, .ref L_trail]))] H locs := hw32
        refine lv_iconst (pc := 115) (v := 1) E.1 E.2.1 dX11_set_115 (by decide +kernel) ?_
        exact nd_z  E hr hlk hw33 () (by first | decide +kernel | (simp [sp_set, c_23, c_24]; done) | exact (sp_set_out (by simp [c_23, c_24])).symm) (by decide +kernel) [] rfl (by decide) (Nat.le_of_ble_eq_true rfl) (Nat.le_of_ble_eq_true rfl) dX11_set_116
      · skip
        refine lv_iconst (pc := 40) (v := 0) E.1 E.2.1 dX11_set_40 (by decide +kernel) ?_
        exact nd_z  E hr hlk hw4 () (by first | decide +kernel | (simp [sp_set, c_23, c_24]; done) | exact (sp_set_out (by simp [c_23, c_24])).symm) (by decide +kernel) [] rfl (by decide) (Nat.le_of_ble_eq_true rfl) (Nat.le_of_ble_eq_true rfl) dX11_set_41
  · skip
    refine lv_iload_n (pc := 0) E.1 E.2.1 dX11_set_0 rfl (lv_at hl3 1 rfl) ?_
    refine lv_if_lt (pc := 1) (tgt := 20) E.1 E.2.1 dX11_set_1 (by decide) (fun c_34 => absurd c_34 (by decide +kernel)) (fun _ => ?_)
    refine lv_iload_n (pc := 4) E.1 E.2.1 dX11_set_4 rfl (lv_at hl3 1 rfl) ?_
    refine x_gets (pc := 5) E hw4 hX.1 q_670 rfl dX11_set_5 ?_
    refine x_tlen (pc := 8) (v := 11) E hw4 hX.2.1 (by decide +kernel) dX11_set_8 ?_
    refine lv_icmp_ge (pc := 9) (tgt := 20) E.1 E.2.1 dX11_set_9 (by decide) (fun c_35 => absurd c_35 (by decide +kernel)) (fun _ => ?_)
    refine lv_iload_n (pc := 12) E.1 E.2.1 dX11_set_12 rfl (lv_at hl3 1 rfl) ?_
    refine x_gets (pc := 13) E hw4 hX.2.2.1 q_672 rfl dX11_set_13 ?_
    refine x_tlen (pc := 16) (v := 11) E hw4 hX.2.2.2 (by decide +kernel) dX11_set_16 ?_
    refine lv_icmp_lt (pc := 17) (tgt := 22) E.1 E.2.1 dX11_set_17 (by decide) (fun _ => ?_) (fun c_36 => absurd (by decide +kernel) c_36)
    refine lv_iload_n (pc := 22) E.1 E.2.1 dX11_set_22 rfl (lv_at hl3 3 rfl) ?_
    refine x_gets (pc := 23) E hw4 hX.1 q_670 rfl dX11_set_23 ?_
    refine lv_iload_n (pc := 26) E.1 E.2.1 dX11_set_26 rfl (lv_at hl3 1 rfl) ?_
    refine x_ti (pc := 27) (v := .int 0) E hw4 hX.2.1 (vp_in_nI (n := 2) (N := 11) (Nat.le_of_ble_eq_true rfl) (Nat.le_of_ble_eq_true rfl)) rfl dX11_set_27 ?_
    refine lv_icmp_lt (pc := 28) (tgt := 40) E.1 E.2.1 dX11_set_28 (by decide) (fun c_37 => ?_) (fun c_37 => ?_)
    · skip
      refine lv_iconst (pc := 40) (v := 0) E.1 E.2.1 dX11_set_40 (by decide +kernel) ?_
      exact nd_z  E hr hlk hw4 () (by first | decide +kernel | (simp [sp_set, c_37]; done) | exact (sp_set_out (by simp [c_37])).symm) (by decide +kernel) [] rfl (by decide) (Nat.le_of_ble_eq_true rfl) (Nat.le_of_ble_eq_true rfl) dX11_set_41
    · skip
      refine lv_iload_n (pc := 31) E.1 E.2.1 dX11_set_31 rfl (lv_at hl3 3 rfl) ?_
      refine x_gets (pc := 32) E hw4 hX.2.2.1 q_672 rfl dX11_set_32 ?_
      refine lv_iload_n (pc := 35) E.1 E.2.1 dX11_set_35 rfl (lv_at hl3 1 rfl) ?_
      refine x_ti (pc := 36) (v := .int 99) E hw4 hX.2.2.2 (vp_in_nI (n := 2) (N := 11) (Nat.le_of_ble_eq_true rfl) (Nat.le_of_ble_eq_true rfl)) rfl dX11_set_36 ?_
      refine lv_icmp_le (pc := 37) (tgt := 42) E.1 E.2.1 dX11_set_37 (by decide) (fun c_38 => ?_) (fun c_38 => ?_)
      · skip
        refine lv_iload_n (pc := 42) E.1 E.2.1 dX11_set_42 rfl (lv_at hl3 1 rfl) ?_
        refine lv_iconst (pc := 43) (v := 5) E.1 E.2.1 dX11_set_43 (by decide +kernel) ?_
        refine lv_icmp_ne (pc := 44) (tgt := 63) E.1 E.2.1 dX11_set_44 (by decide) (fun _ => ?_) (fun c_39 => absurd c_39 (by decide +kernel))
        refine lv_iload_n (pc := 63) E.1 E.2.1 dX11_set_63 rfl (lv_at hl3 1 rfl) ?_
        refine lv_iconst (pc := 64) (v := 5) E.1 E.2.1 dX11_set_64 (by decide +kernel) ?_
        refine lv_icmp_le (pc := 65) (tgt := 84) E.1 E.2.1 dX11_set_65 (by decide) (fun _ => ?_) (fun c_40 => absurd (by decide +kernel) c_40)
        refine lv_iload_n (pc := 84) E.1 E.2.1 dX11_set_84 rfl (lv_at hl3 1 rfl) ?_
        refine lv_iconst (pc := 85) (v := 5) E.1 E.2.1 dX11_set_85 (by decide +kernel) ?_
        refine lv_icmp_le (pc := 86) (tgt := 102) E.1 E.2.1 dX11_set_86 (by decide) (fun _ => ?_) (fun c_41 => absurd (by decide +kernel) c_41)
        refine lv_aload_n (pc := 102) E.1 E.2.1 dX11_set_102 rfl (lv_at hl3 0 rfl) ?_
        refine x_get (pc := 103) (T := TX11) (N := 13) (ci := 11) E hw4 inX11 0 0 q_606 rfl rfl (by decide) rfl rfl dX11_set_103 ?_
        refine lv_iload_n (pc := 106) E.1 E.2.1 dX11_set_106 rfl (lv_at hl3 1 rfl) ?_
        refine lv_iload_n (pc := 107) E.1 E.2.1 dX11_set_107 rfl (lv_at hl3 3 rfl) ?_
        refine cl_v (pc := 108) (k1 := 0) (n1 := 0) (wr := [(L, .inr (11, [.ref L_village, .null, .ref L_tape, .ref L_draftLaw, .ref L_draftPaths, .ref L_draftNeeds, .ref L_draftRound, .ref L_thought, .ref L_past, .int L_oldest, .int L_undoable, .null, .ref L_trail])), (L_village_houses, .inr (1, [.ref L_village_houses_place, .ref L_village_houses_people, .ref L_village_houses_bid, .ref L_village_houses_says, .ref L_village_houses_friendSet, .int 0, .ref L_village_houses_mended, .ref L_village_houses_partner, .null]))]) hw4 [1, 3] [0, 2] rfl rfl (by decide) (by decide) (Nat.le_of_ble_eq_true rfl) (Nat.le_of_ble_eq_true rfl) (rn_V (As := [.int 2, .int p3]) (rest := []) E hw4 (c_X10_tellOfAll_2 l D cI cJ _ L_village L_village_now L_village_houses L_village_paths L_village_needs L_village_turns L_village_burning L_village_round L_village_clues L_village_book L_village_flakes L_village_margin L_village_dusk L_village_due L_village_readings L_village_chance L_village_chanceAhead L_village_likely L_village_now_oil L_village_now_owed L_village_now_had L_village_now_last L_village_now_done L_village_now_spoilt L_village_now_lamp L_village_now_night L_village_now_snow L_village_now_draws L_village_now_gone L_village_now_lines p3) (gdV q_682 q_683 q_684 q_152 q_685) hdV_X10_tellOfAll ⟨rfl, rfl⟩ ⟨(Nat.le_of_ble_eq_true rfl), (Nat.le_of_ble_eq_true rfl)⟩ ⟨(Nat.le_of_ble_eq_true rfl), (Nat.le_of_ble_eq_true rfl)⟩ xT_b xT_at 1 10 rfl rfl rfl [1, 3] rfl (by decide) rfl hl3.1 rfl (Nat.le_of_ble_eq_true rfl) dX11_set_108) (fun u_42 H1 locs hp hw43 => ?_)
        generalize H1 = H at hw43 ⊢
        have hw44 : WD D A s.heap [(L, .inr (11, [.ref L_village, .null, .ref L_tape, .ref L_draftLaw, .ref L_draftPaths, .ref L_draftNeeds, .ref L_draftRound, .ref L_thought, .ref L_past, .int L_oldest, .int L_undoable, .null, .ref L_trail])), (L_village_houses, .inr (1, [.ref L_village_houses_place, .ref L_village_houses_people, .ref L_village_houses_bid, .ref L_village_houses_says, .ref L_village_houses_friendSet, .int 0, .ref L_village_houses_mended, .ref L_village_houses_partner, .null]))] H locs := hw43
        refine lv_aload_n (pc := 111) E.1 E.2.1 dX11_set_111 rfl (lv_at hl3 0 rfl) ?_
        refine cl_v (pc := 112) (k1 := 0) (n1 := 0) (wr := [(L_village_houses, .inr (1, [.ref L_village_houses_place, .ref L_village_houses_people, .ref L_village_houses_bid, .ref L_village_houses_says, .ref L_village_houses_friendSet, .int 0, .ref L_village_houses_mended, .ref L_village_houses_partner, .null]))]) hw44 [0] [1] rfl rfl (by decide) (by decide) (Nat.le_of_ble_eq_true rfl) (Nat.le_of_ble_eq_true rfl) (rn_V (As := []) (rest := []) E hw44 (c_X11_forgetNights l D cI cJ _ L L_village L_tape L_draftLaw L_draftPaths L_draftNeeds L_draftRound L_thought L_past L_oldest L_undoable L_trail) (gdV q_650 q_652 q_0 q_151 q_653) hdV_X11_forgetNights ⟨rfl, rfl⟩ ⟨(Nat.le_of_ble_eq_true rfl), (Nat.le_of_ble_eq_true rfl)⟩ ⟨(Nat.le_of_ble_eq_true rfl), (Nat.le_of_ble_eq_true rfl)⟩ xT_b xT_at 0 11 rfl rfl rfl [0] rfl (by decide) rfl hl3.1 rfl (Nat.le_of_ble_eq_true rfl) dX11_set_112) (fun u_45 H1 locs hp hw46 => ?_)
        generalize H1 = H at hw46 ⊢
        have hw47 : WD D A s.heap [(L_village_houses, .inr (1, [.ref L_village_houses_place, .ref L_village_houses_people, .ref L_village_houses_bid, .ref L_village_houses_says, .ref L_village_houses_friendSet, .int 0, .ref L_village_houses_mended, .ref L_village_houses_partner, .null])), (L, .inr (11, [.ref L_village, .null, .ref L_tape, .ref L_draftLaw, .ref L_draftPaths, .ref L_draftNeeds, .ref L_draftRound, .ref L_thought, .ref L_past, .int 0, .int 0, .null, .ref L_trail]))] H locs := hw46
        refine lv_iconst (pc := 115) (v := 1) E.1 E.2.1 dX11_set_115 (by decide +kernel) ?_
        exact nd_z  E hr hlk hw47 () (by first | decide +kernel | (simp [sp_set, c_37, c_38]; done) | exact (sp_set_out (by simp [c_37, c_38])).symm) (by decide +kernel) [] rfl (by decide) (Nat.le_of_ble_eq_true rfl) (Nat.le_of_ble_eq_true rfl) dX11_set_116
      · skip
        refine lv_iconst (pc := 40) (v := 0) E.1 E.2.1 dX11_set_40 (by decide +kernel) ?_
        exact nd_z  E hr hlk hw4 () (by first | decide +kernel | (simp [sp_set, c_37, c_38]; done) | exact (sp_set_out (by simp [c_37, c_38])).symm) (by decide +kernel) [] rfl (by decide) (Nat.le_of_ble_eq_true rfl) (Nat.le_of_ble_eq_true rfl) dX11_set_41
  · skip
    refine lv_iload_n (pc := 0) E.1 E.2.1 dX11_set_0 rfl (lv_at hl3 1 rfl) ?_
    refine lv_if_lt (pc := 1) (tgt := 20) E.1 E.2.1 dX11_set_1 (by decide) (fun c_48 => absurd c_48 (by decide +kernel)) (fun _ => ?_)
    refine lv_iload_n (pc := 4) E.1 E.2.1 dX11_set_4 rfl (lv_at hl3 1 rfl) ?_
    refine x_gets (pc := 5) E hw4 hX.1 q_670 rfl dX11_set_5 ?_
    refine x_tlen (pc := 8) (v := 11) E hw4 hX.2.1 (by decide +kernel) dX11_set_8 ?_
    refine lv_icmp_ge (pc := 9) (tgt := 20) E.1 E.2.1 dX11_set_9 (by decide) (fun c_49 => absurd c_49 (by decide +kernel)) (fun _ => ?_)
    refine lv_iload_n (pc := 12) E.1 E.2.1 dX11_set_12 rfl (lv_at hl3 1 rfl) ?_
    refine x_gets (pc := 13) E hw4 hX.2.2.1 q_672 rfl dX11_set_13 ?_
    refine x_tlen (pc := 16) (v := 11) E hw4 hX.2.2.2 (by decide +kernel) dX11_set_16 ?_
    refine lv_icmp_lt (pc := 17) (tgt := 22) E.1 E.2.1 dX11_set_17 (by decide) (fun _ => ?_) (fun c_50 => absurd (by decide +kernel) c_50)
    refine lv_iload_n (pc := 22) E.1 E.2.1 dX11_set_22 rfl (lv_at hl3 3 rfl) ?_
    refine x_gets (pc := 23) E hw4 hX.1 q_670 rfl dX11_set_23 ?_
    refine lv_iload_n (pc := 26) E.1 E.2.1 dX11_set_26 rfl (lv_at hl3 1 rfl) ?_
    refine x_ti (pc := 27) (v := .int 1) E hw4 hX.2.1 (vp_in_nI (n := 3) (N := 11) (Nat.le_of_ble_eq_true rfl) (Nat.le_of_ble_eq_true rfl)) rfl dX11_set_27 ?_
    refine lv_icmp_lt (pc := 28) (tgt := 40) E.1 E.2.1 dX11_set_28 (by decide) (fun c_51 => ?_) (fun c_51 => ?_)
    · skip
      refine lv_iconst (pc := 40) (v := 0) E.1 E.2.1 dX11_set_40 (by decide +kernel) ?_
      exact nd_z  E hr hlk hw4 () (by first | decide +kernel | (simp [sp_set, c_51]; done) | exact (sp_set_out (by simp [c_51])).symm) (by decide +kernel) [] rfl (by decide) (Nat.le_of_ble_eq_true rfl) (Nat.le_of_ble_eq_true rfl) dX11_set_41
    · skip
      refine lv_iload_n (pc := 31) E.1 E.2.1 dX11_set_31 rfl (lv_at hl3 3 rfl) ?_
      refine x_gets (pc := 32) E hw4 hX.2.2.1 q_672 rfl dX11_set_32 ?_
      refine lv_iload_n (pc := 35) E.1 E.2.1 dX11_set_35 rfl (lv_at hl3 1 rfl) ?_
      refine x_ti (pc := 36) (v := .int 99) E hw4 hX.2.2.2 (vp_in_nI (n := 3) (N := 11) (Nat.le_of_ble_eq_true rfl) (Nat.le_of_ble_eq_true rfl)) rfl dX11_set_36 ?_
      refine lv_icmp_le (pc := 37) (tgt := 42) E.1 E.2.1 dX11_set_37 (by decide) (fun c_52 => ?_) (fun c_52 => ?_)
      · skip
        refine lv_iload_n (pc := 42) E.1 E.2.1 dX11_set_42 rfl (lv_at hl3 1 rfl) ?_
        refine lv_iconst (pc := 43) (v := 5) E.1 E.2.1 dX11_set_43 (by decide +kernel) ?_
        refine lv_icmp_ne (pc := 44) (tgt := 63) E.1 E.2.1 dX11_set_44 (by decide) (fun _ => ?_) (fun c_53 => absurd c_53 (by decide +kernel))
        refine lv_iload_n (pc := 63) E.1 E.2.1 dX11_set_63 rfl (lv_at hl3 1 rfl) ?_
        refine lv_iconst (pc := 64) (v := 5) E.1 E.2.1 dX11_set_64 (by decide +kernel) ?_
        refine lv_icmp_le (pc := 65) (tgt := 84) E.1 E.2.1 dX11_set_65 (by decide) (fun _ => ?_) (fun c_54 => absurd (by decide +kernel) c_54)
        refine lv_iload_n (pc := 84) E.1 E.2.1 dX11_set_84 rfl (lv_at hl3 1 rfl) ?_
        refine lv_iconst (pc := 85) (v := 5) E.1 E.2.1 dX11_set_85 (by decide +kernel) ?_
        refine lv_icmp_le (pc := 86) (tgt := 102) E.1 E.2.1 dX11_set_86 (by decide) (fun _ => ?_) (fun c_55 => absurd (by decide +kernel) c_55)
        refine lv_aload_n (pc := 102) E.1 E.2.1 dX11_set_102 rfl (lv_at hl3 0 rfl) ?_
        refine x_get (pc := 103) (T := TX11) (N := 13) (ci := 11) E hw4 inX11 0 0 q_606 rfl rfl (by decide) rfl rfl dX11_set_103 ?_
        refine lv_iload_n (pc := 106) E.1 E.2.1 dX11_set_106 rfl (lv_at hl3 1 rfl) ?_
        refine lv_iload_n (pc := 107) E.1 E.2.1 dX11_set_107 rfl (lv_at hl3 3 rfl) ?_
        refine cl_v (pc := 108) (k1 := 0) (n1 := 0) (wr := [(L, .inr (11, [.ref L_village, .null, .ref L_tape, .ref L_draftLaw, .ref L_draftPaths, .ref L_draftNeeds, .ref L_draftRound, .ref L_thought, .ref L_past, .int L_oldest, .int L_undoable, .null, .ref L_trail])), (L_village_houses, .inr (1, [.ref L_village_houses_place, .ref L_village_houses_people, .ref L_village_houses_bid, .ref L_village_houses_says, .ref L_village_houses_friendSet, .int 0, .ref L_village_houses_mended, .ref L_village_houses_partner, .null]))]) hw4 [1, 3] [0, 2] rfl rfl (by decide) (by decide) (Nat.le_of_ble_eq_true rfl) (Nat.le_of_ble_eq_true rfl) (rn_V (As := [.int 3, .int p3]) (rest := []) E hw4 (c_X10_tellOfAll_3 l D cI cJ _ L_village L_village_now L_village_houses L_village_paths L_village_needs L_village_turns L_village_burning L_village_round L_village_clues L_village_book L_village_flakes L_village_margin L_village_dusk L_village_due L_village_readings L_village_chance L_village_chanceAhead L_village_likely L_village_now_oil L_village_now_owed L_village_now_had L_village_now_last L_village_now_done L_village_now_spoilt L_village_now_lamp L_village_now_night L_village_now_snow L_village_now_draws L_village_now_gone L_village_now_lines p3) (gdV q_682 q_683 q_684 q_152 q_685) hdV_X10_tellOfAll ⟨rfl, rfl⟩ ⟨(Nat.le_of_ble_eq_true rfl), (Nat.le_of_ble_eq_true rfl)⟩ ⟨(Nat.le_of_ble_eq_true rfl), (Nat.le_of_ble_eq_true rfl)⟩ xT_b xT_at 1 10 rfl rfl rfl [1, 3] rfl (by decide) rfl hl3.1 rfl (Nat.le_of_ble_eq_true rfl) dX11_set_108) (fun u_56 H1 locs hp hw57 => ?_)
        generalize H1 = H at hw57 ⊢
        have hw58 : WD D A s.heap [(L, .inr (11, [.ref L_village, .null, .ref L_tape, .ref L_draftLaw, .ref L_draftPaths, .ref L_draftNeeds, .ref L_draftRound, .ref L_thought, .ref L_past, .int L_oldest, .int L_undoable, .null, .ref L_trail])), (L_village_houses, .inr (1, [.ref L_village_houses_place, .ref L_village_houses_people, .ref L_village_houses_bid, .ref L_village_houses_says, .ref L_village_houses_friendSet, .int 0, .ref L_village_houses_mended, .ref L_village_houses_partner, .null]))] H locs := hw57
        refine lv_aload_n (pc := 111) E.1 E.2.1 dX11_set_111 rfl (lv_at hl3 0 rfl) ?_
        refine cl_v (pc := 112) (k1 := 0) (n1 := 0) (wr := [(L_village_houses, .inr (1, [.ref L_village_houses_place, .ref L_village_houses_people, .ref L_village_houses_bid, .ref L_village_houses_says, .ref L_village_houses_friendSet, .int 0, .ref L_village_houses_mended, .ref L_village_houses_partner, .null]))]) hw58 [0] [1] rfl rfl (by decide) (by decide) (Nat.le_of_ble_eq_true rfl) (Nat.le_of_ble_eq_true rfl) (rn_V (As := []) (rest := []) E hw58 (c_X11_forgetNights l D cI cJ _ L L_village L_tape L_draftLaw L_draftPaths L_draftNeeds L_draftRound L_thought L_past L_oldest L_undoable L_trail) (gdV q_650 q_652 q_0 q_151 q_653) hdV_X11_forgetNights ⟨rfl, rfl⟩ ⟨(Nat.le_of_ble_eq_true rfl), (Nat.le_of_ble_eq_true rfl)⟩ ⟨(Nat.le_of_ble_eq_true rfl), (Nat.le_of_ble_eq_true rfl)⟩ xT_b xT_at 0 11 rfl rfl rfl [0] rfl (by decide) rfl hl3.1 rfl (Nat.le_of_ble_eq_true rfl) dX11_set_112) (fun u_59 H1 locs hp hw60 => ?_)
        generalize H1 = H at hw60 ⊢
        have hw61 : WD D A s.heap [(L_village_houses, .inr (1, [.ref L_village_houses_place, .ref L_village_houses_people, .ref L_village_houses_bid, .ref L_village_houses_says, .ref L_village_houses_friendSet, .int 0, .ref L_village_houses_mended, .ref L_village_houses_partner, .null])), (L, .inr (11, [.ref L_village, .null, .ref L_tape, .ref L_draftLaw, .ref L_draftPaths, .ref L_draftNeeds, .ref L_draftRound, .ref L_thought, .ref L_past, .int 0, .int 0, .null, .ref L_trail]))] H locs := hw60
        refine lv_iconst (pc := 115) (v := 1) E.1 E.2.1 dX11_set_115 (by decide +kernel) ?_
        exact nd_z  E hr hlk hw61 () (by first | decide +kernel | (simp [sp_set, c_51, c_52]; done) | exact (sp_set_out (by simp [c_51, c_52])).symm) (by decide +kernel) [] rfl (by decide) (Nat.le_of_ble_eq_true rfl) (Nat.le_of_ble_eq_true rfl) dX11_set_116
      · skip
        refine lv_iconst (pc := 40) (v := 0) E.1 E.2.1 dX11_set_40 (by decide +kernel) ?_
        exact nd_z  E hr hlk hw4 () (by first | decide +kernel | (simp [sp_set, c_51, c_52]; done) | exact (sp_set_out (by simp [c_51, c_52])).symm) (by decide +kernel) [] rfl (by decide) (Nat.le_of_ble_eq_true rfl) (Nat.le_of_ble_eq_true rfl) dX11_set_41
  · skip
    refine lv_iload_n (pc := 0) E.1 E.2.1 dX11_set_0 rfl (lv_at hl3 1 rfl) ?_
    refine lv_if_lt (pc := 1) (tgt := 20) E.1 E.2.1 dX11_set_1 (by decide) (fun c_62 => absurd c_62 (by decide +kernel)) (fun _ => ?_)
    refine lv_iload_n (pc := 4) E.1 E.2.1 dX11_set_4 rfl (lv_at hl3 1 rfl) ?_
    refine x_gets (pc := 5) E hw4 hX.1 q_670 rfl dX11_set_5 ?_
    refine x_tlen (pc := 8) (v := 11) E hw4 hX.2.1 (by decide +kernel) dX11_set_8 ?_
    refine lv_icmp_ge (pc := 9) (tgt := 20) E.1 E.2.1 dX11_set_9 (by decide) (fun c_63 => absurd c_63 (by decide +kernel)) (fun _ => ?_)
    refine lv_iload_n (pc := 12) E.1 E.2.1 dX11_set_12 rfl (lv_at hl3 1 rfl) ?_
    refine x_gets (pc := 13) E hw4 hX.2.2.1 q_672 rfl dX11_set_13 ?_
    refine x_tlen (pc := 16) (v := 11) E hw4 hX.2.2.2 (by decide +kernel) dX11_set_16 ?_
    refine lv_icmp_lt (pc := 17) (tgt := 22) E.1 E.2.1 dX11_set_17 (by decide) (fun _ => ?_) (fun c_64 => absurd (by decide +kernel) c_64)
    refine lv_iload_n (pc := 22) E.1 E.2.1 dX11_set_22 rfl (lv_at hl3 3 rfl) ?_
    refine x_gets (pc := 23) E hw4 hX.1 q_670 rfl dX11_set_23 ?_
    refine lv_iload_n (pc := 26) E.1 E.2.1 dX11_set_26 rfl (lv_at hl3 1 rfl) ?_
    refine x_ti (pc := 27) (v := .int 1) E hw4 hX.2.1 (vp_in_nI (n := 4) (N := 11) (Nat.le_of_ble_eq_true rfl) (Nat.le_of_ble_eq_true rfl)) rfl dX11_set_27 ?_
    refine lv_icmp_lt (pc := 28) (tgt := 40) E.1 E.2.1 dX11_set_28 (by decide) (fun c_65 => ?_) (fun c_65 => ?_)
    · skip
      refine lv_iconst (pc := 40) (v := 0) E.1 E.2.1 dX11_set_40 (by decide +kernel) ?_
      exact nd_z  E hr hlk hw4 () (by first | decide +kernel | (simp [sp_set, c_65]; done) | exact (sp_set_out (by simp [c_65])).symm) (by decide +kernel) [] rfl (by decide) (Nat.le_of_ble_eq_true rfl) (Nat.le_of_ble_eq_true rfl) dX11_set_41
    · skip
      refine lv_iload_n (pc := 31) E.1 E.2.1 dX11_set_31 rfl (lv_at hl3 3 rfl) ?_
      refine x_gets (pc := 32) E hw4 hX.2.2.1 q_672 rfl dX11_set_32 ?_
      refine lv_iload_n (pc := 35) E.1 E.2.1 dX11_set_35 rfl (lv_at hl3 1 rfl) ?_
      refine x_ti (pc := 36) (v := .int 99) E hw4 hX.2.2.2 (vp_in_nI (n := 4) (N := 11) (Nat.le_of_ble_eq_true rfl) (Nat.le_of_ble_eq_true rfl)) rfl dX11_set_36 ?_
      refine lv_icmp_le (pc := 37) (tgt := 42) E.1 E.2.1 dX11_set_37 (by decide) (fun c_66 => ?_) (fun c_66 => ?_)
      · skip
        refine lv_iload_n (pc := 42) E.1 E.2.1 dX11_set_42 rfl (lv_at hl3 1 rfl) ?_
        refine lv_iconst (pc := 43) (v := 5) E.1 E.2.1 dX11_set_43 (by decide +kernel) ?_
        refine lv_icmp_ne (pc := 44) (tgt := 63) E.1 E.2.1 dX11_set_44 (by decide) (fun _ => ?_) (fun c_67 => absurd c_67 (by decide +kernel))
        refine lv_iload_n (pc := 63) E.1 E.2.1 dX11_set_63 rfl (lv_at hl3 1 rfl) ?_
        refine lv_iconst (pc := 64) (v := 5) E.1 E.2.1 dX11_set_64 (by decide +kernel) ?_
        refine lv_icmp_le (pc := 65) (tgt := 84) E.1 E.2.1 dX11_set_65 (by decide) (fun _ => ?_) (fun c_68 => absurd (by decide +kernel) c_68)
        refine lv_iload_n (pc := 84) E.1 E.2.1 dX11_set_84 rfl (lv_at hl3 1 rfl) ?_
        refine lv_iconst (pc := 85) (v := 5) E.1 E.2.1 dX11_set_85 (by decide +kernel) ?_
        refine lv_icmp_le (pc := 86) (tgt := 102) E.1 E.2.1 dX11_set_86 (by decide) (fun _ => ?_) (fun c_69 => absurd (by decide +kernel) c_69)
        refine lv_aload_n (pc := 102) E.1 E.2.1 dX11_set_102 rfl (lv_at hl3 0 rfl) ?_
        refine x_get (pc := 103) (T := TX11) (N := 13) (ci := 11) E hw4 inX11 0 0 q_606 rfl rfl (by decide) rfl rfl dX11_set_103 ?_
        refine lv_iload_n (pc := 106) E.1 E.2.1 dX11_set_106 rfl (lv_at hl3 1 rfl) ?_
        refine lv_iload_n (pc := 107) E.1 E.2.1 dX11_set_107 rfl (lv_at hl3 3 rfl) ?_
        refine cl_v (pc := 108) (k1 := 0) (n1 := 0) (wr := [(L, .inr (11, [.ref L_village, .null, .ref L_tape, .ref L_draftLaw, .ref L_draftPaths, .ref L_draftNeeds, .ref L_draftRound, .ref L_thought, .ref L_past, .int L_oldest, .int L_undoable, .null, .ref L_trail])), (L_village_houses, .inr (1, [.ref L_village_houses_place, .ref L_village_houses_people, .ref L_village_houses_bid, .ref L_village_houses_says, .ref L_village_houses_friendSet, .int 0, .ref L_village_houses_mended, .ref L_village_houses_partner, .null]))]) hw4 [1, 3] [0, 2] rfl rfl (by decide) (by decide) (Nat.le_of_ble_eq_true rfl) (Nat.le_of_ble_eq_true rfl) (rn_V (As := [.int 4, .int p3]) (rest := []) E hw4 (c_X10_tellOfAll_4 l D cI cJ _ L_village L_village_now L_village_houses L_village_paths L_village_needs L_village_turns L_village_burning L_village_round L_village_clues L_village_book L_village_flakes L_village_margin L_village_dusk L_village_due L_village_readings L_village_chance L_village_chanceAhead L_village_likely L_village_now_oil L_village_now_owed L_village_now_had L_village_now_last L_village_now_done L_village_now_spoilt L_village_now_lamp L_village_now_night L_village_now_snow L_village_now_draws L_village_now_gone L_village_now_lines p3) (gdV q_682 q_683 q_684 q_152 q_685) hdV_X10_tellOfAll ⟨rfl, rfl⟩ ⟨(Nat.le_of_ble_eq_true rfl), (Nat.le_of_ble_eq_true rfl)⟩ ⟨(Nat.le_of_ble_eq_true rfl), (Nat.le_of_ble_eq_true rfl)⟩ xT_b xT_at 1 10 rfl rfl rfl [1, 3] rfl (by decide) rfl hl3.1 rfl (Nat.le_of_ble_eq_true rfl) dX11_set_108) (fun u_70 H1 locs hp hw71 => ?_)
        generalize H1 = H at hw71 ⊢
        have hw72 : WD D A s.heap [(L, .inr (11, [.ref L_village, .null, .ref L_tape, .ref L_draftLaw, .ref L_draftPaths, .ref L_draftNeeds, .ref L_draftRound, .ref L_thought, .ref L_past, .int L_oldest, .int L_undoable, .null, .ref L_trail])), (L_village_houses, .inr (1, [.ref L_village_houses_place, .ref L_village_houses_people, .ref L_village_houses_bid, .ref L_village_houses_says, .ref L_village_houses_friendSet, .int 0, .ref L_village_houses_mended, .ref L_village_houses_partner, .null]))] H locs := hw71
        refine lv_aload_n (pc := 111) E.1 E.2.1 dX11_set_111 rfl (lv_at hl3 0 rfl) ?_
        refine cl_v (pc := 112) (k1 := 0) (n1 := 0) (wr := [(L_village_houses, .inr (1, [.ref L_village_houses_place, .ref L_village_houses_people, .ref L_village_houses_bid, .ref L_village_houses_says, .ref L_village_houses_friendSet, .int 0, .ref L_village_houses_mended, .ref L_village_houses_partner, .null]))]) hw72 [0] [1] rfl rfl (by decide) (by decide) (Nat.le_of_ble_eq_true rfl) (Nat.le_of_ble_eq_true rfl) (rn_V (As := []) (rest := []) E hw72 (c_X11_forgetNights l D cI cJ _ L L_village L_tape L_draftLaw L_draftPaths L_draftNeeds L_draftRound L_thought L_past L_oldest L_undoable L_trail) (gdV q_650 q_652 q_0 q_151 q_653) hdV_X11_forgetNights ⟨rfl, rfl⟩ ⟨(Nat.le_of_ble_eq_true rfl), (Nat.le_of_ble_eq_true rfl)⟩ ⟨(Nat.le_of_ble_eq_true rfl), (Nat.le_of_ble_eq_true rfl)⟩ xT_b xT_at 0 11 rfl rfl rfl [0] rfl (by decide) rfl hl3.1 rfl (Nat.le_of_ble_eq_true rfl) dX11_set_112) (fun u_73 H1 locs hp hw74 => ?_)
        generalize H1 = H at hw74 ⊢
        have hw75 : WD D A s.heap [(L_village_houses, .inr (1, [.ref L_village_houses_place, .ref L_village_houses_people, .ref L_village_houses_bid, .ref L_village_houses_says, .ref L_village_houses_friendSet, .int 0, .ref L_village_houses_mended, .ref L_village_houses_partner, .null])), (L, .inr (11, [.ref L_village, .null, .ref L_tape, .ref L_draftLaw, .ref L_draftPaths, .ref L_draftNeeds, .ref L_draftRound, .ref L_thought, .ref L_past, .int 0, .int 0, .null, .ref L_trail]))] H locs := hw74
        refine lv_iconst (pc := 115) (v := 1) E.1 E.2.1 dX11_set_115 (by decide +kernel) ?_
        exact nd_z  E hr hlk hw75 () (by first | decide +kernel | (simp [sp_set, c_65, c_66]; done) | exact (sp_set_out (by simp [c_65, c_66])).symm) (by decide +kernel) [] rfl (by decide) (Nat.le_of_ble_eq_true rfl) (Nat.le_of_ble_eq_true rfl) dX11_set_116
      · skip
        refine lv_iconst (pc := 40) (v := 0) E.1 E.2.1 dX11_set_40 (by decide +kernel) ?_
        exact nd_z  E hr hlk hw4 () (by first | decide +kernel | (simp [sp_set, c_65, c_66]; done) | exact (sp_set_out (by simp [c_65, c_66])).symm) (by decide +kernel) [] rfl (by decide) (Nat.le_of_ble_eq_true rfl) (Nat.le_of_ble_eq_true rfl) dX11_set_41
  · skip
    refine lv_iload_n (pc := 0) E.1 E.2.1 dX11_set_0 rfl (lv_at hl3 1 rfl) ?_
    refine lv_if_lt (pc := 1) (tgt := 20) E.1 E.2.1 dX11_set_1 (by decide) (fun c_76 => absurd c_76 (by decide +kernel)) (fun _ => ?_)
    refine lv_iload_n (pc := 4) E.1 E.2.1 dX11_set_4 rfl (lv_at hl3 1 rfl) ?_
    refine x_gets (pc := 5) E hw4 hX.1 q_670 rfl dX11_set_5 ?_
    refine x_tlen (pc := 8) (v := 11) E hw4 hX.2.1 (by decide +kernel) dX11_set_8 ?_
    refine lv_icmp_ge (pc := 9) (tgt := 20) E.1 E.2.1 dX11_set_9 (by decide) (fun c_77 => absurd c_77 (by decide +kernel)) (fun _ => ?_)
    refine lv_iload_n (pc := 12) E.1 E.2.1 dX11_set_12 rfl (lv_at hl3 1 rfl) ?_
    refine x_gets (pc := 13) E hw4 hX.2.2.1 q_672 rfl dX11_set_13 ?_
    refine x_tlen (pc := 16) (v := 11) E hw4 hX.2.2.2 (by decide +kernel) dX11_set_16 ?_
    refine lv_icmp_lt (pc := 17) (tgt := 22) E.1 E.2.1 dX11_set_17 (by decide) (fun _ => ?_) (fun c_78 => absurd (by decide +kernel) c_78)
    refine lv_iload_n (pc := 22) E.1 E.2.1 dX11_set_22 rfl (lv_at hl3 3 rfl) ?_
    refine x_gets (pc := 23) E hw4 hX.1 q_670 rfl dX11_set_23 ?_
    refine lv_iload_n (pc := 26) E.1 E.2.1 dX11_set_26 rfl (lv_at hl3 1 rfl) ?_
    refine x_ti (pc := 27) (v := .int 0) E hw4 hX.2.1 (vp_in_nI (n := 5) (N := 11) (Nat.le_of_ble_eq_true rfl) (Nat.le_of_ble_eq_true rfl)) rfl dX11_set_27 ?_
    refine lv_icmp_lt (pc := 28) (tgt := 40) E.1 E.2.1 dX11_set_28 (by decide) (fun c_79 => ?_) (fun c_79 => ?_)
    · skip
      refine lv_iconst (pc := 40) (v := 0) E.1 E.2.1 dX11_set_40 (by decide +kernel) ?_
      exact nd_z  E hr hlk hw4 () (by first | decide +kernel | (simp [sp_set, c_79]; done) | exact (sp_set_out (by simp [c_79])).symm) (by decide +kernel) [] rfl (by decide) (Nat.le_of_ble_eq_true rfl) (Nat.le_of_ble_eq_true rfl) dX11_set_41
    · skip
      refine lv_iload_n (pc := 31) E.1 E.2.1 dX11_set_31 rfl (lv_at hl3 3 rfl) ?_
      refine x_gets (pc := 32) E hw4 hX.2.2.1 q_672 rfl dX11_set_32 ?_
      refine lv_iload_n (pc := 35) E.1 E.2.1 dX11_set_35 rfl (lv_at hl3 1 rfl) ?_
      refine x_ti (pc := 36) (v := .int 9) E hw4 hX.2.2.2 (vp_in_nI (n := 5) (N := 11) (Nat.le_of_ble_eq_true rfl) (Nat.le_of_ble_eq_true rfl)) rfl dX11_set_36 ?_
      refine lv_icmp_le (pc := 37) (tgt := 42) E.1 E.2.1 dX11_set_37 (by decide) (fun c_80 => ?_) (fun c_80 => ?_)
      · skip
        refine lv_iload_n (pc := 42) E.1 E.2.1 dX11_set_42 rfl (lv_at hl3 1 rfl) ?_
        refine lv_iconst (pc := 43) (v := 5) E.1 E.2.1 dX11_set_43 (by decide +kernel) ?_
        refine lv_icmp_ne (pc := 44) (tgt := 63) E.1 E.2.1 dX11_set_44 (by decide) (fun c_81 => absurd (by decide +kernel) c_81) (fun _ => ?_)
        refine lv_aload_n (pc := 47) E.1 E.2.1 dX11_set_47 rfl (lv_at hl3 0 rfl) ?_
        refine x_get (pc := 48) (T := TX11) (N := 13) (ci := 11) E hw4 inX11 0 0 q_606 rfl rfl (by decide) rfl rfl dX11_set_48 ?_
        refine x_get (pc := 51) (T := TX10) (N := 17) (ci := 10) E hw4 inX10 1 1 q_463 rfl rfl (by decide) rfl rfl dX11_set_51 ?_
        refine lv_iload_n (pc := 54) E.1 E.2.1 dX11_set_54 rfl (lv_at hl3 3 rfl) ?_
        refine cl_i (pc := 55) (k1 := 0) (n1 := 0) (wr := [(L, .inr (11, [.ref L_village, .null, .ref L_tape, .ref L_draftLaw, .ref L_draftPaths, .ref L_draftNeeds, .ref L_draftRound, .ref L_thought, .ref L_past, .int L_oldest, .int L_undoable, .null, .ref L_trail])), (L_village, .inr (10, [.ref L_village_now, .ref L_village_houses, .ref L_village_paths, .ref L_village_needs, .ref L_village_turns, .ref L_village_burning, .ref L_village_round, .ref L_village_clues, .ref L_village_book, .int L_village_flakes, .int L_village_margin, .int L_village_dusk, .int L_village_due, .ref L_village_readings, .ref L_village_chance, .ref L_village_chanceAhead, .ref L_village_likely])), (L_village_now, .inr (4, [.ref L_village_now_oil, .ref L_village_now_owed, .ref L_village_now_had, .ref L_village_now_last, .ref L_village_now_done, .int L_village_now_spoilt, .int L_village_now_lamp, .int L_village_now_night, .int L_village_now_snow, .int L_village_now_draws, .int L_village_now_gone, .int L_village_now_lines]))]) hw4 [2] [0, 1, 3] rfl rfl (by decide) (by decide) (Nat.le_of_ble_eq_true rfl) (Nat.le_of_ble_eq_true rfl) (rn_V (As := [.int p3]) (rest := []) E hw4 (c_X1_has l D cI cJ _ L_village_houses L_village_houses_place L_village_houses_people L_village_houses_bid L_village_houses_says L_village_houses_friendSet L_village_houses_mended L_village_houses_partner p3) (gdV q_674 q_675 q_676 q_154 q_677) hdV_X1_has ⟨rfl, rfl⟩ ⟨(Nat.le_of_ble_eq_true rfl), (Nat.le_of_ble_eq_true rfl)⟩ ⟨(Nat.le_of_ble_eq_true rfl), (Nat.le_of_ble_eq_true rfl)⟩ xT_b xT_at 2 1 rfl rfl rfl [2] rfl (by decide) rfl hl3.1 rfl (Nat.le_of_ble_eq_true rfl) dX11_set_55) (fun r_82 u_83 H1 locs hp hw84 => ?_)
        generalize H1 = H at hw84 ⊢
        have hw85 : WD D A s.heap [(L, .inr (11, [.ref L_village, .null, .ref L_tape, .ref L_draftLaw, .ref L_draftPaths, .ref L_draftNeeds, .ref L_draftRound, .ref L_thought, .ref L_past, .int L_oldest, .int L_undoable, .null, .ref L_trail])), (L_village, .inr (10, [.ref L_village_now, .ref L_village_houses, .ref L_village_paths, .ref L_village_needs, .ref L_village_turns, .ref L_village_burning, .ref L_village_round, .ref L_village_clues, .ref L_village_book, .int L_village_flakes, .int L_village_margin, .int L_village_dusk, .int L_village_due, .ref L_village_readings, .ref L_village_chance, .ref L_village_chanceAhead, .ref L_village_likely])), (L_village_now, .inr (4, [.ref L_village_now_oil, .ref L_village_now_owed, .ref L_village_now_had, .ref L_village_now_last, .ref L_village_now_done, .int L_village_now_spoilt, .int L_village_now_lamp, .int L_village_now_night, .int L_village_now_snow, .int L_village_now_draws, .int L_village_now_gone, .int L_village_now_lines])), (L_village_houses, .inr (1, [.ref L_village_houses_place, .ref L_village_houses_people, .ref L_village_houses_bid, .ref L_village_houses_says, .ref L_village_houses_friendSet, .int 0, .ref L_village_houses_mended, .ref L_village_houses_partner, .null]))] H locs := hw84
        obtain rfl : r_82 = 0 := hp
        refine lv_if_ne (pc := 58) (tgt := 63) E.1 E.2.1 dX11_set_58 (by decide) (fun c_86 => absurd (by decide +kernel) c_86) (fun _ => ?_)
        refine lv_iconst (pc := 61) (v := 0) E.1 E.2.1 dX11_set_61 (by decide +kernel) ?_
        exact nd_z  E hr hlk hw85 () (by first | decide +kernel | (simp [sp_set, c_79, c_80]; done) | exact (sp_set_out (by simp [c_79, c_80])).symm) (by decide +kernel) [] rfl (by decide) (Nat.le_of_ble_eq_true rfl) (Nat.le_of_ble_eq_true rfl) dX11_set_62
      · skip
        refine lv_iconst (pc := 40) (v := 0) E.1 E.2.1 dX11_set_40 (by decide +kernel) ?_
        exact nd_z  E hr hlk hw4 () (by first | decide +kernel | (simp [sp_set, c_79, c_80]; done) | exact (sp_set_out (by simp [c_79, c_80])).symm) (by decide +kernel) [] rfl (by decide) (Nat.le_of_ble_eq_true rfl) (Nat.le_of_ble_eq_true rfl) dX11_set_41
  · skip
    refine lv_iload_n (pc := 0) E.1 E.2.1 dX11_set_0 rfl (lv_at hl3 1 rfl) ?_
    refine lv_if_lt (pc := 1) (tgt := 20) E.1 E.2.1 dX11_set_1 (by decide) (fun c_87 => absurd c_87 (by decide +kernel)) (fun _ => ?_)
    refine lv_iload_n (pc := 4) E.1 E.2.1 dX11_set_4 rfl (lv_at hl3 1 rfl) ?_
    refine x_gets (pc := 5) E hw4 hX.1 q_670 rfl dX11_set_5 ?_
    refine x_tlen (pc := 8) (v := 11) E hw4 hX.2.1 (by decide +kernel) dX11_set_8 ?_
    refine lv_icmp_ge (pc := 9) (tgt := 20) E.1 E.2.1 dX11_set_9 (by decide) (fun c_88 => absurd c_88 (by decide +kernel)) (fun _ => ?_)
    refine lv_iload_n (pc := 12) E.1 E.2.1 dX11_set_12 rfl (lv_at hl3 1 rfl) ?_
    refine x_gets (pc := 13) E hw4 hX.2.2.1 q_672 rfl dX11_set_13 ?_
    refine x_tlen (pc := 16) (v := 11) E hw4 hX.2.2.2 (by decide +kernel) dX11_set_16 ?_
    refine lv_icmp_lt (pc := 17) (tgt := 22) E.1 E.2.1 dX11_set_17 (by decide) (fun _ => ?_) (fun c_89 => absurd (by decide +kernel) c_89)
    refine lv_iload_n (pc := 22) E.1 E.2.1 dX11_set_22 rfl (lv_at hl3 3 rfl) ?_
    refine x_gets (pc := 23) E hw4 hX.1 q_670 rfl dX11_set_23 ?_
    refine lv_iload_n (pc := 26) E.1 E.2.1 dX11_set_26 rfl (lv_at hl3 1 rfl) ?_
    refine x_ti (pc := 27) (v := .int 1) E hw4 hX.2.1 (vp_in_nI (n := 6) (N := 11) (Nat.le_of_ble_eq_true rfl) (Nat.le_of_ble_eq_true rfl)) rfl dX11_set_27 ?_
    refine lv_icmp_lt (pc := 28) (tgt := 40) E.1 E.2.1 dX11_set_28 (by decide) (fun c_90 => ?_) (fun c_90 => ?_)
    · skip
      refine lv_iconst (pc := 40) (v := 0) E.1 E.2.1 dX11_set_40 (by decide +kernel) ?_
      exact nd_z  E hr hlk hw4 () (by first | decide +kernel | (simp [sp_set, c_90]; done) | exact (sp_set_out (by simp [c_90])).symm) (by decide +kernel) [] rfl (by decide) (Nat.le_of_ble_eq_true rfl) (Nat.le_of_ble_eq_true rfl) dX11_set_41
    · skip
      refine lv_iload_n (pc := 31) E.1 E.2.1 dX11_set_31 rfl (lv_at hl3 3 rfl) ?_
      refine x_gets (pc := 32) E hw4 hX.2.2.1 q_672 rfl dX11_set_32 ?_
      refine lv_iload_n (pc := 35) E.1 E.2.1 dX11_set_35 rfl (lv_at hl3 1 rfl) ?_
      refine x_ti (pc := 36) (v := .int 20) E hw4 hX.2.2.2 (vp_in_nI (n := 6) (N := 11) (Nat.le_of_ble_eq_true rfl) (Nat.le_of_ble_eq_true rfl)) rfl dX11_set_36 ?_
      refine lv_icmp_le (pc := 37) (tgt := 42) E.1 E.2.1 dX11_set_37 (by decide) (fun c_91 => ?_) (fun c_91 => ?_)
      · skip
        refine lv_iload_n (pc := 42) E.1 E.2.1 dX11_set_42 rfl (lv_at hl3 1 rfl) ?_
        refine lv_iconst (pc := 43) (v := 5) E.1 E.2.1 dX11_set_43 (by decide +kernel) ?_
        refine lv_icmp_ne (pc := 44) (tgt := 63) E.1 E.2.1 dX11_set_44 (by decide) (fun _ => ?_) (fun c_92 => absurd c_92 (by decide +kernel))
        refine lv_iload_n (pc := 63) E.1 E.2.1 dX11_set_63 rfl (lv_at hl3 1 rfl) ?_
        refine lv_iconst (pc := 64) (v := 5) E.1 E.2.1 dX11_set_64 (by decide +kernel) ?_
        refine lv_icmp_le (pc := 65) (tgt := 84) E.1 E.2.1 dX11_set_65 (by decide) (fun c_93 => absurd c_93 (by decide +kernel)) (fun _ => ?_)
        refine lv_aload_n (pc := 68) E.1 E.2.1 dX11_set_68 rfl (lv_at hl3 0 rfl) ?_
        refine x_get (pc := 69) (T := TX11) (N := 13) (ci := 11) E hw4 inX11 0 0 q_606 rfl rfl (by decide) rfl rfl dX11_set_69 ?_
        refine x_get (pc := 72) (T := TX10) (N := 17) (ci := 10) E hw4 inX10 1 1 q_463 rfl rfl (by decide) rfl rfl dX11_set_72 ?_
        refine lv_iload_n (pc := 75) E.1 E.2.1 dX11_set_75 rfl (lv_at hl3 2 rfl) ?_
        refine cl_i (pc := 76) (k1 := 0) (n1 := 0) (wr := [(L, .inr (11, [.ref L_village, .null, .ref L_tape, .ref L_draftLaw, .ref L_draftPaths, .ref L_draftNeeds, .ref L_draftRound, .ref L_thought, .ref L_past, .int L_oldest, .int L_undoable, .null, .ref L_trail])), (L_village, .inr (10, [.ref L_village_now, .ref L_village_houses, .ref L_village_paths, .ref L_village_needs, .ref L_village_turns, .ref L_village_burning, .ref L_village_round, .ref L_village_clues, .ref L_village_book, .int L_village_flakes, .int L_village_margin, .int L_village_dusk, .int L_village_due, .ref L_village_readings, .ref L_village_chance, .ref L_village_chanceAhead, .ref L_village_likely])), (L_village_now, .inr (4, [.ref L_village_now_oil, .ref L_village_now_owed, .ref L_village_now_had, .ref L_village_now_last, .ref L_village_now_done, .int L_village_now_spoilt, .int L_village_now_lamp, .int L_village_now_night, .int L_village_now_snow, .int L_village_now_draws, .int L_village_now_gone, .int L_village_now_lines]))]) hw4 [2] [0, 1, 3] rfl rfl (by decide) (by decide) (Nat.le_of_ble_eq_true rfl) (Nat.le_of_ble_eq_true rfl) (rn_V (As := [.int p2]) (rest := []) E hw4 (c_X1_has l D cI cJ _ L_village_houses L_village_houses_place L_village_houses_people L_village_houses_bid L_village_houses_says L_village_houses_friendSet L_village_houses_mended L_village_houses_partner p2) (gdV q_674 q_675 q_676 q_154 q_677) hdV_X1_has ⟨rfl, rfl⟩ ⟨(Nat.le_of_ble_eq_true rfl), (Nat.le_of_ble_eq_true rfl)⟩ ⟨(Nat.le_of_ble_eq_true rfl), (Nat.le_of_ble_eq_true rfl)⟩ xT_b xT_at 2 1 rfl rfl rfl [2] rfl (by decide) rfl hl3.1 rfl (Nat.le_of_ble_eq_true rfl) dX11_set_76) (fun r_94 u_95 H1 locs hp hw96 => ?_)
        generalize H1 = H at hw96 ⊢
        have hw97 : WD D A s.heap [(L, .inr (11, [.ref L_village, .null, .ref L_tape, .ref L_draftLaw, .ref L_draftPaths, .ref L_draftNeeds, .ref L_draftRound, .ref L_thought, .ref L_past, .int L_oldest, .int L_undoable, .null, .ref L_trail])), (L_village, .inr (10, [.ref L_village_now, .ref L_village_houses, .ref L_village_paths, .ref L_village_needs, .ref L_village_turns, .ref L_village_burning, .ref L_village_round, .ref L_village_clues, .ref L_village_book, .int L_village_flakes, .int L_village_margin, .int L_village_dusk, .int L_village_due, .ref L_village_readings, .ref L_village_chance, .ref L_village_chanceAhead, .ref L_village_likely])), (L_village_now, .inr (4, [.ref L_village_now_oil, .ref L_village_now_owed, .ref L_village_now_had, .ref L_village_now_last, .ref L_village_now_done, .int L_village_now_spoilt, .int L_village_now_lamp, .int L_village_now_night, .int L_village_now_snow, .int L_village_now_draws, .int L_village_now_gone, .int L_village_now_lines])), (L_village_houses, .inr (1, [.ref L_village_houses_place, .ref L_village_houses_people, .ref L_village_houses_bid, .ref L_village_houses_says, .ref L_village_houses_friendSet, .int 0, .ref L_village_houses_mended, .ref L_village_houses_partner, .null]))] H locs := hw96
        obtain rfl : r_94 = 0 := hp
        refine lv_if_ne (pc := 79) (tgt := 84) E.1 E.2.1 dX11_set_79 (by decide) (fun c_98 => absurd (by decide +kernel) c_98) (fun _ => ?_)
        refine lv_iconst (pc := 82) (v := 0) E.1 E.2.1 dX11_set_82 (by decide +kernel) ?_
        exact nd_z  E hr hlk hw97 () (by first | decide +kernel | (simp [sp_set, c_90, c_91]; done) | exact (sp_set_out (by simp [c_90, c_91])).symm) (by decide +kernel) [] rfl (by decide) (Nat.le_of_ble_eq_true rfl) (Nat.le_of_ble_eq_true rfl) dX11_set_83
      · skip
        refine lv_iconst (pc := 40) (v := 0) E.1 E.2.1 dX11_set_40 (by decide +kernel) ?_
        exact nd_z  E hr hlk hw4 () (by first | decide +kernel | (simp [sp_set, c_90, c_91]; done) | exact (sp_set_out (by simp [c_90, c_91])).symm) (by decide +kernel) [] rfl (by decide) (Nat.le_of_ble_eq_true rfl) (Nat.le_of_ble_eq_true rfl) dX11_set_41
  · skip
    refine lv_iload_n (pc := 0) E.1 E.2.1 dX11_set_0 rfl (lv_at hl3 1 rfl) ?_
    refine lv_if_lt (pc := 1) (tgt := 20) E.1 E.2.1 dX11_set_1 (by decide) (fun c_99 => absurd c_99 (by decide +kernel)) (fun _ => ?_)
    refine lv_iload_n (pc := 4) E.1 E.2.1 dX11_set_4 rfl (lv_at hl3 1 rfl) ?_
    refine x_gets (pc := 5) E hw4 hX.1 q_670 rfl dX11_set_5 ?_
    refine x_tlen (pc := 8) (v := 11) E hw4 hX.2.1 (by decide +kernel) dX11_set_8 ?_
    refine lv_icmp_ge (pc := 9) (tgt := 20) E.1 E.2.1 dX11_set_9 (by decide) (fun c_100 => absurd c_100 (by decide +kernel)) (fun _ => ?_)
    refine lv_iload_n (pc := 12) E.1 E.2.1 dX11_set_12 rfl (lv_at hl3 1 rfl) ?_
    refine x_gets (pc := 13) E hw4 hX.2.2.1 q_672 rfl dX11_set_13 ?_
    refine x_tlen (pc := 16) (v := 11) E hw4 hX.2.2.2 (by decide +kernel) dX11_set_16 ?_
    refine lv_icmp_lt (pc := 17) (tgt := 22) E.1 E.2.1 dX11_set_17 (by decide) (fun _ => ?_) (fun c_101 => absurd (by decide +kernel) c_101)
    refine lv_iload_n (pc := 22) E.1 E.2.1 dX11_set_22 rfl (lv_at hl3 3 rfl) ?_
    refine x_gets (pc := 23) E hw4 hX.1 q_670 rfl dX11_set_23 ?_
    refine lv_iload_n (pc := 26) E.1 E.2.1 dX11_set_26 rfl (lv_at hl3 1 rfl) ?_
    refine x_ti (pc := 27) (v := .int 0) E hw4 hX.2.1 (vp_in_nI (n := 7) (N := 11) (Nat.le_of_ble_eq_true rfl) (Nat.le_of_ble_eq_true rfl)) rfl dX11_set_27 ?_
    refine lv_icmp_lt (pc := 28) (tgt := 40) E.1 E.2.1 dX11_set_28 (by decide) (fun c_102 => ?_) (fun c_102 => ?_)
    · skip
      refine lv_iconst (pc := 40) (v := 0) E.1 E.2.1 dX11_set_40 (by decide +kernel) ?_
      exact nd_z  E hr hlk hw4 () (by first | decide +kernel | (simp [sp_set, c_102]; done) | exact (sp_set_out (by simp [c_102])).symm) (by decide +kernel) [] rfl (by decide) (Nat.le_of_ble_eq_true rfl) (Nat.le_of_ble_eq_true rfl) dX11_set_41
    · skip
      refine lv_iload_n (pc := 31) E.1 E.2.1 dX11_set_31 rfl (lv_at hl3 3 rfl) ?_
      refine x_gets (pc := 32) E hw4 hX.2.2.1 q_672 rfl dX11_set_32 ?_
      refine lv_iload_n (pc := 35) E.1 E.2.1 dX11_set_35 rfl (lv_at hl3 1 rfl) ?_
      refine x_ti (pc := 36) (v := .int 999) E hw4 hX.2.2.2 (vp_in_nI (n := 7) (N := 11) (Nat.le_of_ble_eq_true rfl) (Nat.le_of_ble_eq_true rfl)) rfl dX11_set_36 ?_
      refine lv_icmp_le (pc := 37) (tgt := 42) E.1 E.2.1 dX11_set_37 (by decide) (fun c_103 => ?_) (fun c_103 => ?_)
      · skip
        refine lv_iload_n (pc := 42) E.1 E.2.1 dX11_set_42 rfl (lv_at hl3 1 rfl) ?_
        refine lv_iconst (pc := 43) (v := 5) E.1 E.2.1 dX11_set_43 (by decide +kernel) ?_
        refine lv_icmp_ne (pc := 44) (tgt := 63) E.1 E.2.1 dX11_set_44 (by decide) (fun _ => ?_) (fun c_104 => absurd c_104 (by decide +kernel))
        refine lv_iload_n (pc := 63) E.1 E.2.1 dX11_set_63 rfl (lv_at hl3 1 rfl) ?_
        refine lv_iconst (pc := 64) (v := 5) E.1 E.2.1 dX11_set_64 (by decide +kernel) ?_
        refine lv_icmp_le (pc := 65) (tgt := 84) E.1 E.2.1 dX11_set_65 (by decide) (fun c_105 => absurd c_105 (by decide +kernel)) (fun _ => ?_)
        refine lv_aload_n (pc := 68) E.1 E.2.1 dX11_set_68 rfl (lv_at hl3 0 rfl) ?_
        refine x_get (pc := 69) (T := TX11) (N := 13) (ci := 11) E hw4 inX11 0 0 q_606 rfl rfl (by decide) rfl rfl dX11_set_69 ?_
        refine x_get (pc := 72) (T := TX10) (N := 17) (ci := 10) E hw4 inX10 1 1 q_463 rfl rfl (by decide) rfl rfl dX11_set_72 ?_
        refine lv_iload_n (pc := 75) E.1 E.2.1 dX11_set_75 rfl (lv_at hl3 2 rfl) ?_
        refine cl_i (pc := 76) (k1 := 0) (n1 := 0) (wr := [(L, .inr (11, [.ref L_village, .null, .ref L_tape, .ref L_draftLaw, .ref L_draftPaths, .ref L_draftNeeds, .ref L_draftRound, .ref L_thought, .ref L_past, .int L_oldest, .int L_undoable, .null, .ref L_trail])), (L_village, .inr (10, [.ref L_village_now, .ref L_village_houses, .ref L_village_paths, .ref L_village_needs, .ref L_village_turns, .ref L_village_burning, .ref L_village_round, .ref L_village_clues, .ref L_village_book, .int L_village_flakes, .int L_village_margin, .int L_village_dusk, .int L_village_due, .ref L_village_readings, .ref L_village_chance, .ref L_village_chanceAhead, .ref L_village_likely])), (L_village_now, .inr (4, [.ref L_village_now_oil, .ref L_village_now_owed, .ref L_village_now_had, .ref L_village_now_last, .ref L_village_now_done, .int L_village_now_spoilt, .int L_village_now_lamp, .int L_village_now_night, .int L_village_now_snow, .int L_village_now_draws, .int L_village_now_gone, .int L_village_now_lines]))]) hw4 [2] [0, 1, 3] rfl rfl (by decide) (by decide) (Nat.le_of_ble_eq_true rfl) (Nat.le_of_ble_eq_true rfl) (rn_V (As := [.int p2]) (rest := []) E hw4 (c_X1_has l D cI cJ _ L_village_houses L_village_houses_place L_village_houses_people L_village_houses_bid L_village_houses_says L_village_houses_friendSet L_village_houses_mended L_village_houses_partner p2) (gdV q_674 q_675 q_676 q_154 q_677) hdV_X1_has ⟨rfl, rfl⟩ ⟨(Nat.le_of_ble_eq_true rfl), (Nat.le_of_ble_eq_true rfl)⟩ ⟨(Nat.le_of_ble_eq_true rfl), (Nat.le_of_ble_eq_true rfl)⟩ xT_b xT_at 2 1 rfl rfl rfl [2] rfl (by decide) rfl hl3.1 rfl (Nat.le_of_ble_eq_true rfl) dX11_set_76) (fun r_106 u_107 H1 locs hp hw108 => ?_)
        generalize H1 = H at hw108 ⊢
        have hw109 : WD D A s.heap [(L, .inr (11, [.ref L_village, .null, .ref L_tape, .ref L_draftLaw, .ref L_draftPaths, .ref L_draftNeeds, .ref L_draftRound, .ref L_thought, .ref L_past, .int L_oldest, .int L_undoable, .null, .ref L_trail])), (L_village, .inr (10, [.ref L_village_now, .ref L_village_houses, .ref L_village_paths, .ref L_village_needs, .ref L_village_turns, .ref L_village_burning, .ref L_village_round, .ref L_village_clues, .ref L_village_book, .int L_village_flakes, .int L_village_margin, .int L_village_dusk, .int L_village_due, .ref L_village_readings, .ref L_village_chance, .ref L_village_chanceAhead, .ref L_village_likely])), (L_village_now, .inr (4, [.ref L_village_now_oil, .ref L_village_now_owed, .ref L_village_now_had, .ref L_village_now_last, .ref L_village_now_done, .int L_village_now_spoilt, .int L_village_now_lamp, .int L_village_now_night, .int L_village_now_snow, .int L_village_now_draws, .int L_village_now_gone, .int L_village_now_lines])), (L_village_houses, .inr (1, [.ref L_village_houses_place, .ref L_village_houses_people, .ref L_village_houses_bid, .ref L_village_houses_says, .ref L_village_houses_friendSet, .int 0, .ref L_village_houses_mended, .ref L_village_houses_partner, .null]))] H locs := hw108
        obtain rfl : r_106 = 0 := hp
        refine lv_if_ne (pc := 79) (tgt := 84) E.1 E.2.1 dX11_set_79 (by decide) (fun c_110 => absurd (by decide +kernel) c_110) (fun _ => ?_)
        refine lv_iconst (pc := 82) (v := 0) E.1 E.2.1 dX11_set_82 (by decide +kernel) ?_
        exact nd_z  E hr hlk hw109 () (by first | decide +kernel | (simp [sp_set, c_102, c_103]; done) | exact (sp_set_out (by simp [c_102, c_103])).symm) (by decide +kernel) [] rfl (by decide) (Nat.le_of_ble_eq_true rfl) (Nat.le_of_ble_eq_true rfl) dX11_set_83
      · skip
        refine lv_iconst (pc := 40) (v := 0) E.1 E.2.1 dX11_set_40 (by decide +kernel) ?_
        exact nd_z  E hr hlk hw4 () (by first | decide +kernel | (simp [sp_set, c_102, c_103]; done) | exact (sp_set_out (by simp [c_102, c_103])).symm) (by decide +kernel) [] rfl (by decide) (Nat.le_of_ble_eq_true rfl) (Nat.le_of_ble_eq_true rfl) dX11_set_41
  · skip
    refine lv_iload_n (pc := 0) E.1 E.2.1 dX11_set_0 rfl (lv_at hl3 1 rfl) ?_
    refine lv_if_lt (pc := 1) (tgt := 20) E.1 E.2.1 dX11_set_1 (by decide) (fun c_111 => absurd c_111 (by decide +kernel)) (fun _ => ?_)
    refine lv_iload_n (pc := 4) E.1 E.2.1 dX11_set_4 rfl (lv_at hl3 1 rfl) ?_
    refine x_gets (pc := 5) E hw4 hX.1 q_670 rfl dX11_set_5 ?_
    refine x_tlen (pc := 8) (v := 11) E hw4 hX.2.1 (by decide +kernel) dX11_set_8 ?_
    refine lv_icmp_ge (pc := 9) (tgt := 20) E.1 E.2.1 dX11_set_9 (by decide) (fun c_112 => absurd c_112 (by decide +kernel)) (fun _ => ?_)
    refine lv_iload_n (pc := 12) E.1 E.2.1 dX11_set_12 rfl (lv_at hl3 1 rfl) ?_
    refine x_gets (pc := 13) E hw4 hX.2.2.1 q_672 rfl dX11_set_13 ?_
    refine x_tlen (pc := 16) (v := 11) E hw4 hX.2.2.2 (by decide +kernel) dX11_set_16 ?_
    refine lv_icmp_lt (pc := 17) (tgt := 22) E.1 E.2.1 dX11_set_17 (by decide) (fun _ => ?_) (fun c_113 => absurd (by decide +kernel) c_113)
    refine lv_iload_n (pc := 22) E.1 E.2.1 dX11_set_22 rfl (lv_at hl3 3 rfl) ?_
    refine x_gets (pc := 23) E hw4 hX.1 q_670 rfl dX11_set_23 ?_
    refine lv_iload_n (pc := 26) E.1 E.2.1 dX11_set_26 rfl (lv_at hl3 1 rfl) ?_
    refine x_ti (pc := 27) (v := .int 0) E hw4 hX.2.1 (vp_in_nI (n := 8) (N := 11) (Nat.le_of_ble_eq_true rfl) (Nat.le_of_ble_eq_true rfl)) rfl dX11_set_27 ?_
    refine lv_icmp_lt (pc := 28) (tgt := 40) E.1 E.2.1 dX11_set_28 (by decide) (fun c_114 => ?_) (fun c_114 => ?_)
    · skip
      refine lv_iconst (pc := 40) (v := 0) E.1 E.2.1 dX11_set_40 (by decide +kernel) ?_
      exact nd_z  E hr hlk hw4 () (by first | decide +kernel | (simp [sp_set, c_114]; done) | exact (sp_set_out (by simp [c_114])).symm) (by decide +kernel) [] rfl (by decide) (Nat.le_of_ble_eq_true rfl) (Nat.le_of_ble_eq_true rfl) dX11_set_41
    · skip
      refine lv_iload_n (pc := 31) E.1 E.2.1 dX11_set_31 rfl (lv_at hl3 3 rfl) ?_
      refine x_gets (pc := 32) E hw4 hX.2.2.1 q_672 rfl dX11_set_32 ?_
      refine lv_iload_n (pc := 35) E.1 E.2.1 dX11_set_35 rfl (lv_at hl3 1 rfl) ?_
      refine x_ti (pc := 36) (v := .int 99) E hw4 hX.2.2.2 (vp_in_nI (n := 8) (N := 11) (Nat.le_of_ble_eq_true rfl) (Nat.le_of_ble_eq_true rfl)) rfl dX11_set_36 ?_
      refine lv_icmp_le (pc := 37) (tgt := 42) E.1 E.2.1 dX11_set_37 (by decide) (fun c_115 => ?_) (fun c_115 => ?_)
      · skip
        refine lv_iload_n (pc := 42) E.1 E.2.1 dX11_set_42 rfl (lv_at hl3 1 rfl) ?_
        refine lv_iconst (pc := 43) (v := 5) E.1 E.2.1 dX11_set_43 (by decide +kernel) ?_
        refine lv_icmp_ne (pc := 44) (tgt := 63) E.1 E.2.1 dX11_set_44 (by decide) (fun _ => ?_) (fun c_116 => absurd c_116 (by decide +kernel))
        refine lv_iload_n (pc := 63) E.1 E.2.1 dX11_set_63 rfl (lv_at hl3 1 rfl) ?_
        refine lv_iconst (pc := 64) (v := 5) E.1 E.2.1 dX11_set_64 (by decide +kernel) ?_
        refine lv_icmp_le (pc := 65) (tgt := 84) E.1 E.2.1 dX11_set_65 (by decide) (fun c_117 => absurd c_117 (by decide +kernel)) (fun _ => ?_)
        refine lv_aload_n (pc := 68) E.1 E.2.1 dX11_set_68 rfl (lv_at hl3 0 rfl) ?_
        refine x_get (pc := 69) (T := TX11) (N := 13) (ci := 11) E hw4 inX11 0 0 q_606 rfl rfl (by decide) rfl rfl dX11_set_69 ?_
        refine x_get (pc := 72) (T := TX10) (N := 17) (ci := 10) E hw4 inX10 1 1 q_463 rfl rfl (by decide) rfl rfl dX11_set_72 ?_
        refine lv_iload_n (pc := 75) E.1 E.2.1 dX11_set_75 rfl (lv_at hl3 2 rfl) ?_
        refine cl_i (pc := 76) (k1 := 0) (n1 := 0) (wr := [(L, .inr (11, [.ref L_village, .null, .ref L_tape, .ref L_draftLaw, .ref L_draftPaths, .ref L_draftNeeds, .ref L_draftRound, .ref L_thought, .ref L_past, .int L_oldest, .int L_undoable, .null, .ref L_trail])), (L_village, .inr (10, [.ref L_village_now, .ref L_village_houses, .ref L_village_paths, .ref L_village_needs, .ref L_village_turns, .ref L_village_burning, .ref L_village_round, .ref L_village_clues, .ref L_village_book, .int L_village_flakes, .int L_village_margin, .int L_village_dusk, .int L_village_due, .ref L_village_readings, .ref L_village_chance, .ref L_village_chanceAhead, .ref L_village_likely])), (L_village_now, .inr (4, [.ref L_village_now_oil, .ref L_village_now_owed, .ref L_village_now_had, .ref L_village_now_last, .ref L_village_now_done, .int L_village_now_spoilt, .int L_village_now_lamp, .int L_village_now_night, .int L_village_now_snow, .int L_village_now_draws, .int L_village_now_gone, .int L_village_now_lines]))]) hw4 [2] [0, 1, 3] rfl rfl (by decide) (by decide) (Nat.le_of_ble_eq_true rfl) (Nat.le_of_ble_eq_true rfl) (rn_V (As := [.int p2]) (rest := []) E hw4 (c_X1_has l D cI cJ _ L_village_houses L_village_houses_place L_village_houses_people L_village_houses_bid L_village_houses_says L_village_houses_friendSet L_village_houses_mended L_village_houses_partner p2) (gdV q_674 q_675 q_676 q_154 q_677) hdV_X1_has ⟨rfl, rfl⟩ ⟨(Nat.le_of_ble_eq_true rfl), (Nat.le_of_ble_eq_true rfl)⟩ ⟨(Nat.le_of_ble_eq_true rfl), (Nat.le_of_ble_eq_true rfl)⟩ xT_b xT_at 2 1 rfl rfl rfl [2] rfl (by decide) rfl hl3.1 rfl (Nat.le_of_ble_eq_true rfl) dX11_set_76) (fun r_118 u_119 H1 locs hp hw120 => ?_)
        generalize H1 = H at hw120 ⊢
        have hw121 : WD D A s.heap [(L, .inr (11, [.ref L_village, .null, .ref L_tape, .ref L_draftLaw, .ref L_draftPaths, .ref L_draftNeeds, .ref L_draftRound, .ref L_thought, .ref L_past, .int L_oldest, .int L_undoable, .null, .ref L_trail])), (L_village, .inr (10, [.ref L_village_now, .ref L_village_houses, .ref L_village_paths, .ref L_village_needs, .ref L_village_turns, .ref L_village_burning, .ref L_village_round, .ref L_village_clues, .ref L_village_book, .int L_village_flakes, .int L_village_margin, .int L_village_dusk, .int L_village_due, .ref L_village_readings, .ref L_village_chance, .ref L_village_chanceAhead, .ref L_village_likely])), (L_village_now, .inr (4, [.ref L_village_now_oil, .ref L_village_now_owed, .ref L_village_now_had, .ref L_village_now_last, .ref L_village_now_done, .int L_village_now_spoilt, .int L_village_now_lamp, .int L_village_now_night, .int L_village_now_snow, .int L_village_now_draws, .int L_village_now_gone, .int L_village_now_lines])), (L_village_houses, .inr (1, [.ref L_village_houses_place, .ref L_village_houses_people, .ref L_village_houses_bid, .ref L_village_houses_says, .ref L_village_houses_friendSet, .int 0, .ref L_village_houses_mended, .ref L_village_houses_partner, .null]))] H locs := hw120
        obtain rfl : r_118 = 0 := hp
        refine lv_if_ne (pc := 79) (tgt := 84) E.1 E.2.1 dX11_set_79 (by decide) (fun c_122 => absurd (by decide +kernel) c_122) (fun _ => ?_)
        refine lv_iconst (pc := 82) (v := 0) E.1 E.2.1 dX11_set_82 (by decide +kernel) ?_
        exact nd_z  E hr hlk hw121 () (by first | decide +kernel | (simp [sp_set, c_114, c_115]; done) | exact (sp_set_out (by simp [c_114, c_115])).symm) (by decide +kernel) [] rfl (by decide) (Nat.le_of_ble_eq_true rfl) (Nat.le_of_ble_eq_true rfl) dX11_set_83
      · skip
        refine lv_iconst (pc := 40) (v := 0) E.1 E.2.1 dX11_set_40 (by decide +kernel) ?_
        exact nd_z  E hr hlk hw4 () (by first | decide +kernel | (simp [sp_set, c_114, c_115]; done) | exact (sp_set_out (by simp [c_114, c_115])).symm) (by decide +kernel) [] rfl (by decide) (Nat.le_of_ble_eq_true rfl) (Nat.le_of_ble_eq_true rfl) dX11_set_41
  · skip
    refine lv_iload_n (pc := 0) E.1 E.2.1 dX11_set_0 rfl (lv_at hl3 1 rfl) ?_
    refine lv_if_lt (pc := 1) (tgt := 20) E.1 E.2.1 dX11_set_1 (by decide) (fun c_123 => absurd c_123 (by decide +kernel)) (fun _ => ?_)
    refine lv_iload_n (pc := 4) E.1 E.2.1 dX11_set_4 rfl (lv_at hl3 1 rfl) ?_
    refine x_gets (pc := 5) E hw4 hX.1 q_670 rfl dX11_set_5 ?_
    refine x_tlen (pc := 8) (v := 11) E hw4 hX.2.1 (by decide +kernel) dX11_set_8 ?_
    refine lv_icmp_ge (pc := 9) (tgt := 20) E.1 E.2.1 dX11_set_9 (by decide) (fun c_124 => absurd c_124 (by decide +kernel)) (fun _ => ?_)
    refine lv_iload_n (pc := 12) E.1 E.2.1 dX11_set_12 rfl (lv_at hl3 1 rfl) ?_
    refine x_gets (pc := 13) E hw4 hX.2.2.1 q_672 rfl dX11_set_13 ?_
    refine x_tlen (pc := 16) (v := 11) E hw4 hX.2.2.2 (by decide +kernel) dX11_set_16 ?_
    refine lv_icmp_lt (pc := 17) (tgt := 22) E.1 E.2.1 dX11_set_17 (by decide) (fun _ => ?_) (fun c_125 => absurd (by decide +kernel) c_125)
    refine lv_iload_n (pc := 22) E.1 E.2.1 dX11_set_22 rfl (lv_at hl3 3 rfl) ?_
    refine x_gets (pc := 23) E hw4 hX.1 q_670 rfl dX11_set_23 ?_
    refine lv_iload_n (pc := 26) E.1 E.2.1 dX11_set_26 rfl (lv_at hl3 1 rfl) ?_
    refine x_ti (pc := 27) (v := .int 0) E hw4 hX.2.1 (vp_in_nI (n := 9) (N := 11) (Nat.le_of_ble_eq_true rfl) (Nat.le_of_ble_eq_true rfl)) rfl dX11_set_27 ?_
    refine lv_icmp_lt (pc := 28) (tgt := 40) E.1 E.2.1 dX11_set_28 (by decide) (fun c_126 => ?_) (fun c_126 => ?_)
    · skip
      refine lv_iconst (pc := 40) (v := 0) E.1 E.2.1 dX11_set_40 (by decide +kernel) ?_
      exact nd_z  E hr hlk hw4 () (by first | decide +kernel | (simp [sp_set, c_126]; done) | exact (sp_set_out (by simp [c_126])).symm) (by decide +kernel) [] rfl (by decide) (Nat.le_of_ble_eq_true rfl) (Nat.le_of_ble_eq_true rfl) dX11_set_41
    · skip
      refine lv_iload_n (pc := 31) E.1 E.2.1 dX11_set_31 rfl (lv_at hl3 3 rfl) ?_
      refine x_gets (pc := 32) E hw4 hX.2.2.1 q_672 rfl dX11_set_32 ?_
      refine lv_iload_n (pc := 35) E.1 E.2.1 dX11_set_35 rfl (lv_at hl3 1 rfl) ?_
      refine x_ti (pc := 36) (v := .int 99) E hw4 hX.2.2.2 (vp_in_nI (n := 9) (N := 11) (Nat.le_of_ble_eq_true rfl) (Nat.le_of_ble_eq_true rfl)) rfl dX11_set_36 ?_
      refine lv_icmp_le (pc := 37) (tgt := 42) E.1 E.2.1 dX11_set_37 (by decide) (fun c_127 => ?_) (fun c_127 => ?_)
      · skip
        refine lv_iload_n (pc := 42) E.1 E.2.1 dX11_set_42 rfl (lv_at hl3 1 rfl) ?_
        refine lv_iconst (pc := 43) (v := 5) E.1 E.2.1 dX11_set_43 (by decide +kernel) ?_
        refine lv_icmp_ne (pc := 44) (tgt := 63) E.1 E.2.1 dX11_set_44 (by decide) (fun _ => ?_) (fun c_128 => absurd c_128 (by decide +kernel))
        refine lv_iload_n (pc := 63) E.1 E.2.1 dX11_set_63 rfl (lv_at hl3 1 rfl) ?_
        refine lv_iconst (pc := 64) (v := 5) E.1 E.2.1 dX11_set_64 (by decide +kernel) ?_
        refine lv_icmp_le (pc := 65) (tgt := 84) E.1 E.2.1 dX11_set_65 (by decide) (fun c_129 => absurd c_129 (by decide +kernel)) (fun _ => ?_)
        refine lv_aload_n (pc := 68) E.1 E.2.1 dX11_set_68 rfl (lv_at hl3 0 rfl) ?_
        refine x_get (pc := 69) (T := TX11) (N := 13) (ci := 11) E hw4 inX11 0 0 q_606 rfl rfl (by decide) rfl rfl dX11_set_69 ?_
        refine x_get (pc := 72) (T := TX10) (N := 17) (ci := 10) E hw4 inX10 1 1 q_463 rfl rfl (by decide) rfl rfl dX11_set_72 ?_
        refine lv_iload_n (pc := 75) E.1 E.2.1 dX11_set_75 rfl (lv_at hl3 2 rfl) ?_
        refine cl_i (pc := 76) (k1 := 0) (n1 := 0) (wr := [(L, .inr (11, [.ref L_village, .null, .ref L_tape, .ref L_draftLaw, .ref L_draftPaths, .ref L_draftNeeds, .ref L_draftRound, .ref L_thought, .ref L_past, .int L_oldest, .int L_undoable, .null, .ref L_trail])), (L_village, .inr (10, [.ref L_village_now, .ref L_village_houses, .ref L_village_paths, .ref L_village_needs, .ref L_village_turns, .ref L_village_burning, .ref L_village_round, .ref L_village_clues, .ref L_village_book, .int L_village_flakes, .int L_village_margin, .int L_village_dusk, .int L_village_due, .ref L_village_readings, .ref L_village_chance, .ref L_village_chanceAhead, .ref L_village_likely])), (L_village_now, .inr (4, [.ref L_village_now_oil, .ref L_village_now_owed, .ref L_village_now_had, .ref L_village_now_last, .ref L_village_now_done, .int L_village_now_spoilt, .int L_village_now_lamp, .int L_village_now_night, .int L_village_now_snow, .int L_village_now_draws, .int L_village_now_gone, .int L_village_now_lines]))]) hw4 [2] [0, 1, 3] rfl rfl (by decide) (by decide) (Nat.le_of_ble_eq_true rfl) (Nat.le_of_ble_eq_true rfl) (rn_V (As := [.int p2]) (rest := []) E hw4 (c_X1_has l D cI cJ _ L_village_houses L_village_houses_place L_village_houses_people L_village_houses_bid L_village_houses_says L_village_houses_friendSet L_village_houses_mended L_village_houses_partner p2) (gdV q_674 q_675 q_676 q_154 q_677) hdV_X1_has ⟨rfl, rfl⟩ ⟨(Nat.le_of_ble_eq_true rfl), (Nat.le_of_ble_eq_true rfl)⟩ ⟨(Nat.le_of_ble_eq_true rfl), (Nat.le_of_ble_eq_true rfl)⟩ xT_b xT_at 2 1 rfl rfl rfl [2] rfl (by decide) rfl hl3.1 rfl (Nat.le_of_ble_eq_true rfl) dX11_set_76) (fun r_130 u_131 H1 locs hp hw132 => ?_)
        generalize H1 = H at hw132 ⊢
        have hw133 : WD D A s.heap [(L, .inr (11, [.ref L_village, .null, .ref L_tape, .ref L_draftLaw, .ref L_draftPaths, .ref L_draftNeeds, .ref L_draftRound, .ref L_thought, .ref L_past, .int L_oldest, .int L_undoable, .null, .ref L_trail])), (L_village, .inr (10, [.ref L_village_now, .ref L_village_houses, .ref L_village_paths, .ref L_village_needs, .ref L_village_turns, .ref L_village_burning, .ref L_village_round, .ref L_village_clues, .ref L_village_book, .int L_village_flakes, .int L_village_margin, .int L_village_dusk, .int L_village_due, .ref L_village_readings, .ref L_village_chance, .ref L_village_chanceAhead, .ref L_village_likely])), (L_village_now, .inr (4, [.ref L_village_now_oil, .ref L_village_now_owed, .ref L_village_now_had, .ref L_village_now_last, .ref L_village_now_done, .int L_village_now_spoilt, .int L_village_now_lamp, .int L_village_now_night, .int L_village_now_snow, .int L_village_now_draws, .int L_village_now_gone, .int L_village_now_lines])), (L_village_houses, .inr (1, [.ref L_village_houses_place, .ref L_village_houses_people, .ref L_village_houses_bid, .ref L_village_houses_says, .ref L_village_houses_friendSet, .int 0, .ref L_village_houses_mended, .ref L_village_houses_partner, .null]))] H locs := hw132
        obtain rfl : r_130 = 0 := hp
        refine lv_if_ne (pc := 79) (tgt := 84) E.1 E.2.1 dX11_set_79 (by decide) (fun c_134 => absurd (by decide +kernel) c_134) (fun _ => ?_)
        refine lv_iconst (pc := 82) (v := 0) E.1 E.2.1 dX11_set_82 (by decide +kernel) ?_
        exact nd_z  E hr hlk hw133 () (by first | decide +kernel | (simp [sp_set, c_126, c_127]; done) | exact (sp_set_out (by simp [c_126, c_127])).symm) (by decide +kernel) [] rfl (by decide) (Nat.le_of_ble_eq_true rfl) (Nat.le_of_ble_eq_true rfl) dX11_set_83
      · skip
        refine lv_iconst (pc := 40) (v := 0) E.1 E.2.1 dX11_set_40 (by decide +kernel) ?_
        exact nd_z  E hr hlk hw4 () (by first | decide +kernel | (simp [sp_set, c_126, c_127]; done) | exact (sp_set_out (by simp [c_126, c_127])).symm) (by decide +kernel) [] rfl (by decide) (Nat.le_of_ble_eq_true rfl) (Nat.le_of_ble_eq_true rfl) dX11_set_41
  · skip
    refine lv_iload_n (pc := 0) E.1 E.2.1 dX11_set_0 rfl (lv_at hl3 1 rfl) ?_
    refine lv_if_lt (pc := 1) (tgt := 20) E.1 E.2.1 dX11_set_1 (by decide) (fun c_135 => absurd c_135 (by decide +kernel)) (fun _ => ?_)
    refine lv_iload_n (pc := 4) E.1 E.2.1 dX11_set_4 rfl (lv_at hl3 1 rfl) ?_
    refine x_gets (pc := 5) E hw4 hX.1 q_670 rfl dX11_set_5 ?_
    refine x_tlen (pc := 8) (v := 11) E hw4 hX.2.1 (by decide +kernel) dX11_set_8 ?_
    refine lv_icmp_ge (pc := 9) (tgt := 20) E.1 E.2.1 dX11_set_9 (by decide) (fun c_136 => absurd c_136 (by decide +kernel)) (fun _ => ?_)
    refine lv_iload_n (pc := 12) E.1 E.2.1 dX11_set_12 rfl (lv_at hl3 1 rfl) ?_
    refine x_gets (pc := 13) E hw4 hX.2.2.1 q_672 rfl dX11_set_13 ?_
    refine x_tlen (pc := 16) (v := 11) E hw4 hX.2.2.2 (by decide +kernel) dX11_set_16 ?_
    refine lv_icmp_lt (pc := 17) (tgt := 22) E.1 E.2.1 dX11_set_17 (by decide) (fun _ => ?_) (fun c_137 => absurd (by decide +kernel) c_137)
    refine lv_iload_n (pc := 22) E.1 E.2.1 dX11_set_22 rfl (lv_at hl3 3 rfl) ?_
    refine x_gets (pc := 23) E hw4 hX.1 q_670 rfl dX11_set_23 ?_
    refine lv_iload_n (pc := 26) E.1 E.2.1 dX11_set_26 rfl (lv_at hl3 1 rfl) ?_
    refine x_ti (pc := 27) (v := .int 0) E hw4 hX.2.1 (vp_in_nI (n := 10) (N := 11) (Nat.le_of_ble_eq_true rfl) (Nat.le_of_ble_eq_true rfl)) rfl dX11_set_27 ?_
    refine lv_icmp_lt (pc := 28) (tgt := 40) E.1 E.2.1 dX11_set_28 (by decide) (fun c_138 => ?_) (fun c_138 => ?_)
    · skip
      refine lv_iconst (pc := 40) (v := 0) E.1 E.2.1 dX11_set_40 (by decide +kernel) ?_
      exact nd_z  E hr hlk hw4 () (by first | decide +kernel | (simp [sp_set, c_138]; done) | exact (sp_set_out (by simp [c_138])).symm) (by decide +kernel) [] rfl (by decide) (Nat.le_of_ble_eq_true rfl) (Nat.le_of_ble_eq_true rfl) dX11_set_41
    · skip
      refine lv_iload_n (pc := 31) E.1 E.2.1 dX11_set_31 rfl (lv_at hl3 3 rfl) ?_
      refine x_gets (pc := 32) E hw4 hX.2.2.1 q_672 rfl dX11_set_32 ?_
      refine lv_iload_n (pc := 35) E.1 E.2.1 dX11_set_35 rfl (lv_at hl3 1 rfl) ?_
      refine x_ti (pc := 36) (v := .int 9999) E hw4 hX.2.2.2 (vp_in_nI (n := 10) (N := 11) (Nat.le_of_ble_eq_true rfl) (Nat.le_of_ble_eq_true rfl)) rfl dX11_set_36 ?_
      refine lv_icmp_le (pc := 37) (tgt := 42) E.1 E.2.1 dX11_set_37 (by decide) (fun c_139 => ?_) (fun c_139 => ?_)
      · skip
        refine lv_iload_n (pc := 42) E.1 E.2.1 dX11_set_42 rfl (lv_at hl3 1 rfl) ?_
        refine lv_iconst (pc := 43) (v := 5) E.1 E.2.1 dX11_set_43 (by decide +kernel) ?_
        refine lv_icmp_ne (pc := 44) (tgt := 63) E.1 E.2.1 dX11_set_44 (by decide) (fun _ => ?_) (fun c_140 => absurd c_140 (by decide +kernel))
        refine lv_iload_n (pc := 63) E.1 E.2.1 dX11_set_63 rfl (lv_at hl3 1 rfl) ?_
        refine lv_iconst (pc := 64) (v := 5) E.1 E.2.1 dX11_set_64 (by decide +kernel) ?_
        refine lv_icmp_le (pc := 65) (tgt := 84) E.1 E.2.1 dX11_set_65 (by decide) (fun c_141 => absurd c_141 (by decide +kernel)) (fun _ => ?_)
        refine lv_aload_n (pc := 68) E.1 E.2.1 dX11_set_68 rfl (lv_at hl3 0 rfl) ?_
        refine x_get (pc := 69) (T := TX11) (N := 13) (ci := 11) E hw4 inX11 0 0 q_606 rfl rfl (by decide) rfl rfl dX11_set_69 ?_
        refine x_get (pc := 72) (T := TX10) (N := 17) (ci := 10) E hw4 inX10 1 1 q_463 rfl rfl (by decide) rfl rfl dX11_set_72 ?_
        refine lv_iload_n (pc := 75) E.1 E.2.1 dX11_set_75 rfl (lv_at hl3 2 rfl) ?_
        refine cl_i (pc := 76) (k1 := 0) (n1 := 0) (wr := [(L, .inr (11, [.ref L_village, .null, .ref L_tape, .ref L_draftLaw, .ref L_draftPaths, .ref L_draftNeeds, .ref L_draftRound, .ref L_thought, .ref L_past, .int L_oldest, .int L_undoable, .null, .ref L_trail])), (L_village, .inr (10, [.ref L_village_now, .ref L_village_houses, .ref L_village_paths, .ref L_village_needs, .ref L_village_turns, .ref L_village_burning, .ref L_village_round, .ref L_village_clues, .ref L_village_book, .int L_village_flakes, .int L_village_margin, .int L_village_dusk, .int L_village_due, .ref L_village_readings, .ref L_village_chance, .ref L_village_chanceAhead, .ref L_village_likely])), (L_village_now, .inr (4, [.ref L_village_now_oil, .ref L_village_now_owed, .ref L_village_now_had, .ref L_village_now_last, .ref L_village_now_done, .int L_village_now_spoilt, .int L_village_now_lamp, .int L_village_now_night, .int L_village_now_snow, .int L_village_now_draws, .int L_village_now_gone, .int L_village_now_lines]))]) hw4 [2] [0, 1, 3] rfl rfl (by decide) (by decide) (Nat.le_of_ble_eq_true rfl) (Nat.le_of_ble_eq_true rfl) (rn_V (As := [.int p2]) (rest := []) E hw4 (c_X1_has l D cI cJ _ L_village_houses L_village_houses_place L_village_houses_people L_village_houses_bid L_village_houses_says L_village_houses_friendSet L_village_houses_mended L_village_houses_partner p2) (gdV q_674 q_675 q_676 q_154 q_677) hdV_X1_has ⟨rfl, rfl⟩ ⟨(Nat.le_of_ble_eq_true rfl), (Nat.le_of_ble_eq_true rfl)⟩ ⟨(Nat.le_of_ble_eq_true rfl), (Nat.le_of_ble_eq_true rfl)⟩ xT_b xT_at 2 1 rfl rfl rfl [2] rfl (by decide) rfl hl3.1 rfl (Nat.le_of_ble_eq_true rfl) dX11_set_76) (fun r_142 u_143 H1 locs hp hw144 => ?_)
        generalize H1 = H at hw144 ⊢
        have hw145 : WD D A s.heap [(L, .inr (11, [.ref L_village, .null, .ref L_tape, .ref L_draftLaw, .ref L_draftPaths, .ref L_draftNeeds, .ref L_draftRound, .ref L_thought, .ref L_past, .int L_oldest, .int L_undoable, .null, .ref L_trail])), (L_village, .inr (10, [.ref L_village_now, .ref L_village_houses, .ref L_village_paths, .ref L_village_needs, .ref L_village_turns, .ref L_village_burning, .ref L_village_round, .ref L_village_clues, .ref L_village_book, .int L_village_flakes, .int L_village_margin, .int L_village_dusk, .int L_village_due, .ref L_village_readings, .ref L_village_chance, .ref L_village_chanceAhead, .ref L_village_likely])), (L_village_now, .inr (4, [.ref L_village_now_oil, .ref L_village_now_owed, .ref L_village_now_had, .ref L_village_now_last, .ref L_village_now_done, .int L_village_now_spoilt, .int L_village_now_lamp, .int L_village_now_night, .int L_village_now_snow, .int L_village_now_draws, .int L_village_now_gone, .int L_village_now_lines])), (L_village_houses, .inr (1, [.ref L_village_houses_place, .ref L_village_houses_people, .ref L_village_houses_bid, .ref L_village_houses_says, .ref L_village_houses_friendSet, .int 0, .ref L_village_houses_mended, .ref L_village_houses_partner, .null]))] H locs := hw144
        obtain rfl : r_142 = 0 := hp
        refine lv_if_ne (pc := 79) (tgt := 84) E.1 E.2.1 dX11_set_79 (by decide) (fun c_146 => absurd (by decide +kernel) c_146) (fun _ => ?_)
        refine lv_iconst (pc := 82) (v := 0) E.1 E.2.1 dX11_set_82 (by decide +kernel) ?_
        exact nd_z  E hr hlk hw145 () (by first | decide +kernel | (simp [sp_set, c_138, c_139]; done) | exact (sp_set_out (by simp [c_138, c_139])).symm) (by decide +kernel) [] rfl (by decide) (Nat.le_of_ble_eq_true rfl) (Nat.le_of_ble_eq_true rfl) dX11_set_83
      · skip
        refine lv_iconst (pc := 40) (v := 0) E.1 E.2.1 dX11_set_40 (by decide +kernel) ?_
        exact nd_z  E hr hlk hw4 () (by first | decide +kernel | (simp [sp_set, c_138, c_139]; done) | exact (sp_set_out (by simp [c_138, c_139])).symm) (by decide +kernel) [] rfl (by decide) (Nat.le_of_ble_eq_true rfl) (Nat.le_of_ble_eq_true rfl) dX11_set_41
  · skip
    refine lv_iload_n (pc := 0) E.1 E.2.1 dX11_set_0 rfl (lv_at hl3 1 rfl) ?_
    refine lv_if_lt (pc := 1) (tgt := 20) E.1 E.2.1 dX11_set_1 (by decide) (fun _ => ?_) (fun c_147 => absurd c_5 c_147)
    refine lv_iconst (pc := 20) (v := 0) E.1 E.2.1 dX11_set_20 (by decide +kernel) ?_
    exact nd_z  E hr hlk hw4 () (by first | decide +kernel | (simp [sp_set, c_5]; done) | exact (sp_set_out (by simp [c_5])).symm) (by decide +kernel) [] rfl (by decide) (Nat.le_of_ble_eq_true rfl) (Nat.le_of_ble_eq_true rfl) dX11_set_21
  · skip
    refine lv_iload_n (pc := 0) E.1 E.2.1 dX11_set_0 rfl (lv_at hl3 1 rfl) ?_
    refine lv_if_lt (pc := 1) (tgt := 20) E.1 E.2.1 dX11_set_1 (by decide) (fun c_148 => absurd c_148 (b_nlt (by have z0 := f_lt c_5; have k0 : (0 : Int32).toInt = 0 := (by decide +kernel); have k1 : (10 : Int32).toInt = 10 := (by decide +kernel); omega))) (fun _ => ?_)
    refine lv_iload_n (pc := 4) E.1 E.2.1 dX11_set_4 rfl (lv_at hl3 1 rfl) ?_
    refine x_gets (pc := 5) E hw4 hX.1 q_670 rfl dX11_set_5 ?_
    refine x_tlen (pc := 8) (v := 11) E hw4 hX.2.1 (by decide +kernel) dX11_set_8 ?_
    refine lv_icmp_ge (pc := 9) (tgt := 20) E.1 E.2.1 dX11_set_9 (by decide) (fun _ => ?_) (fun c_149 => absurd (b_le (by have z0 := f_lt c_5; have k0 : (10 : Int32).toInt = 10 := (by decide +kernel); have k1 : (11 : Int32).toInt = 11 := (by decide +kernel); omega)) c_149)
    refine lv_iconst (pc := 20) (v := 0) E.1 E.2.1 dX11_set_20 (by decide +kernel) ?_
    exact nd_z  E hr hlk hw4 () (by first | decide +kernel | (simp [sp_set, c_5]; done) | exact (sp_set_out (by simp [c_5])).symm) (by decide +kernel) [] rfl (by decide) (Nat.le_of_ble_eq_true rfl) (Nat.le_of_ble_eq_true rfl) dX11_set_21
