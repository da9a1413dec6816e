set_option maxHeartbeats 4000000 in
set_option maxRecDepth 100000 in
theorem t_draw_D2 (l : Launch) (D : va_G) (cI cJ : ClassId) (sz : Nat) (mr : Nat → Nat) (mi : Nat → Int32) (mf : Nat → Nat → Int32) (mg : Nat → Nat → Int64) (z_m : Int32)  : Met l yX4_draw (Cond.code yX4_draw cX4_draw 2 (some .int) :: GW) ({ frames := 1, cells := 0, slots := 0, locals := 40 } : Room) (va_Pc [.ref (mr 0), .int z_m] (PW D cI cJ sz (WZ_Now cI cJ mr mi mf mg) xT)) (va_Qi (fun (r : Int32) (u : Int32) => (u = LCG (mi 10))) (fun u => QW D cI cJ (va_A (WZ_Now cI cJ mr mi mf mg) sz) ((fun (u : Int32) => (WZ_Now cI cJ mr (upd mi 10 u) mf mg)) u)) (va_A (WZ_Now cI cJ mr mi mf mg) sz)) 0 0 (va_A (WZ_Now cI cJ mr mi mf mg) sz) := by
  refine mk_met (y := yX4_draw) (bytes := cX4_draw) (maxL := 2) (avs := [.ref (mr 0), .int z_m]) (WS := (WZ_Now cI cJ mr mi mf mg)) (Qf := fun A => va_Qi (fun (r : Int32) (u : Int32) => (u = LCG (mi 10))) (fun u => QW D cI cJ A ((fun (u : Int32) => (WZ_Now cI cJ mr (upd mi 10 u) mf mg)) u)) A) (by decide) (Nat.le_of_ble_eq_true rfl) ?_
  intro p e s m below meth c A ls E hr hlk hnm hX hw1 hl2
  have hl3 : lv_has ls 2 [(0, .ref (mr 0)), (1, .int z_m)] := hl2
  refine lv_aload_n (pc := 0) E.1 E.2.1 dX4_draw_0 rfl (lv_at hl3 0 rfl) ?_
  refine lv_ldc (pc := 1) (v := 1664525) E.1 E.2.1 E.2.2.2.1 (E.2.2.2.2.1 _ q_1098) dX4_draw_1 ?_
  refine lv_aload_n (pc := 3) E.1 E.2.1 dX4_draw_3 rfl (lv_at hl3 0 rfl) ?_
  refine x_get (pc := 4) (T := TX4) (N := 12) (ci := 4) (v := .int (mi 10)) E hw1 inX4 0 9 q_227 rfl rfl (by decide) rfl rfl dX4_draw_4 ?_
  refine lv_imul (pc := 7) E.1 E.2.1 dX4_draw_7 ?_
  refine lv_topi (fun v_4 ev_4 => ?_)
  refine lv_ldc (pc := 8) (v := 1013904223) E.1 E.2.1 E.2.2.2.1 (E.2.2.2.2.1 _ q_1099) dX4_draw_8 ?_
  refine lv_iadd (pc := 10) E.1 E.2.1 dX4_draw_10 ?_
  refine lv_topi (fun v_5 ev_5 => ?_)
  refine x_put (pc := 11) (T := TX4) (N := 12) (ci := 4) (ws' := (WZ_Now cI cJ mr (upd mi 10 v_5) mf mg)) E hw1 inX4 tyX4_ok nmX4 0 9 q_227 rfl rfl (by decide) rfl rfl rfl rfl (Nat.le_of_ble_eq_true rfl) rfl dX4_draw_11 (fun H locs hw6 => ?_)
  refine lv_iload_n (pc := 14) E.1 E.2.1 dX4_draw_14 rfl (lv_at hl3 1 rfl) ?_
  refine lv_if_le (pc := 15) (tgt := 30) E.1 E.2.1 dX4_draw_15 (by decide) (fun c_7 => ?_) (fun c_7 => ?_)
  · skip
    have hc_7 := leE (a := z_m.toInt) (b := 0) rfl (by decide +kernel) c_7
    refine lv_iconst (pc := 30) (v := 0) E.1 E.2.1 dX4_draw_30 (by decide +kernel) ?_
    exact em_i (w1 := (fun (u : Int32) => (WZ_Now cI cJ mr (upd mi 10 u) mf mg))) E hr hlk v_5 hw6 (show v_5 = LCG (mi 10) from (LCG_of ev_4 ev_5 rfl)) (Nat.le_of_ble_eq_true rfl) (Nat.le_of_ble_eq_true rfl) dX4_draw_31
  · skip
    have hc_7 := nleE (a := z_m.toInt) (b := 0) rfl (by decide +kernel) c_7
    refine lv_aload_n (pc := 18) E.1 E.2.1 dX4_draw_18 rfl (lv_at hl3 0 rfl) ?_
    refine x_get (pc := 19) (T := TX4) (N := 12) (ci := 4) (v := .int v_5) E hw6 inX4 0 9 q_227 rfl rfl (by decide) rfl rfl dX4_draw_19 ?_
    refine lv_bipush (pc := 22) (v := 8) E.1 E.2.1 dX4_draw_22 (by decide +kernel) ?_
    refine lv_iushr (pc := 24) E.1 E.2.1 dX4_draw_24 rfl ?_
    refine lv_topi (fun v_8 ev_8 => ?_)
    refine lv_iload_n (pc := 25) E.1 E.2.1 dX4_draw_25 rfl (lv_at hl3 1 rfl) ?_
    refine lv_irem (pc := 26) E.1 E.2.1 dX4_draw_26 (mneE (a := z_m.toInt) (b := 0) rfl (by decide +kernel) (by omega)) ?_
    refine lv_topi (fun v_9 ev_9 => ?_)
    refine lv_goto (pc := 27) (tgt := 31) E.1 E.2.1 dX4_draw_27 (by decide) ?_
    exact em_i (w1 := (fun (u : Int32) => (WZ_Now cI cJ mr (upd mi 10 u) mf mg))) E hr hlk v_5 hw6 (show v_5 = LCG (mi 10) from (LCG_of ev_4 ev_5 rfl)) (Nat.le_of_ble_eq_true rfl) (Nat.le_of_ble_eq_true rfl) dX4_draw_31
