def ws_c_X0_init (cI cJ : ClassId) (h0 : Nat) : va_W := [(h0, .inr (0, [.null, .null, .int 0]))]
def w1_c_X0_init (cI cJ : ClassId) (h0 : Nat) : Nat × Nat → va_W := fun u => [(h0, .inr (0, [.ref u.1, .ref u.2, .int 0])), (u.1, .inl (cI, 8, .inl (fun _ => 0))), (u.2, .inl (cI, 8, .inl (fun _ => 0)))]
set_option maxHeartbeats 4000000 in
set_option maxRecDepth 100000 in
theorem c_X0_init (l : Launch) (D : va_G) (cI cJ : ClassId) (sz : Nat) (h0 : Nat)  : Met l yX0_init (Cond.code yX0_init cX0_init 1 none :: GW) ({ frames := 1, cells := 2, slots := 16, locals := 40 } : Room) (va_Pc [.ref h0] (PW D cI cJ sz (ws_c_X0_init cI cJ h0) xT)) (va_Qv (fun (u : Nat × Nat) => True) (fun u => QW D cI cJ (va_A (ws_c_X0_init cI cJ h0) sz) ((w1_c_X0_init cI cJ h0) u)) (va_A (ws_c_X0_init cI cJ h0) sz)) 2 16 (va_A (ws_c_X0_init cI cJ h0) sz) := by
  refine mk_met (y := yX0_init) (bytes := cX0_init) (maxL := 1) (avs := [.ref h0]) (WS := (ws_c_X0_init cI cJ h0)) (Qf := fun A => va_Qv (fun (u : Nat × Nat) => True) (fun u => QW D cI cJ A ((w1_c_X0_init cI cJ h0) u)) A) (by decide) (Nat.le_of_ble_eq_true rfl) ?_
  intro p e s m below meth c A ls E hr hlk hnm hX hw1 hl2
  have hl3 : lv_has ls 1 [(0, .ref h0)] := hl2
  have hw4 : WD D A s.heap [(h0, .inr (0, [.null, .null, .int 0]))] s.heap [] := hw1
  refine lv_aload_n (pc := 0) E.1 E.2.1 dX0_init_0 rfl (lv_at hl3 0 rfl) ?_
  refine x_obj (pc := 1) E q_443 q_177 q_178 hl3.1 (Nat.le_of_ble_eq_true rfl) (Nat.le_of_ble_eq_true rfl) dX0_init_1 ?_
  refine lv_aload_n (pc := 4) E.1 E.2.1 dX0_init_4 rfl (lv_at hl3 0 rfl) ?_
  refine lv_bipush (pc := 5) (v := 8) E.1 E.2.1 dX0_init_5 (by decide +kernel) ?_
  refine x_newI (pc := 7) (N' := 8) (k1 := 1) (n1 := 8) E hw4 q_259 (by decide +kernel) (by decide +kernel) (Nat.le_of_ble_eq_true rfl) (Nat.le_of_ble_eq_true rfl) (Nat.le_of_ble_eq_true rfl) (Nat.le_of_ble_eq_true rfl) (Nat.le_of_ble_eq_true rfl) dX0_init_7 (fun q_5 H hw6 => ?_)
  have hw7 : WD D A s.heap [(h0, .inr (0, [.null, .null, .int 0])), (q_5, .inl (cI, 8, .inl (fun _ => 0)))] H _ := hw6
  refine x_putF (pc := 9) (T := TX0) (N := 3) (ci := 0) (ws' := [(h0, .inr (0, [.ref q_5, .null, .int 0])), (q_5, .inl (cI, 8, .inl (fun _ => 0)))]) E hw7 hnm inX0 tyX0_ok nmX0 0 0 q_444 rfl rfl (by decide) rfl rfl rfl rfl rfl (Nat.le_of_ble_eq_true rfl) rfl dX0_init_9 (fun H locs hw8 => ?_)
  refine lv_aload_n (pc := 12) E.1 E.2.1 dX0_init_12 rfl (lv_at hl3 0 rfl) ?_
  refine lv_bipush (pc := 13) (v := 8) E.1 E.2.1 dX0_init_13 (by decide +kernel) ?_
  refine x_newI (pc := 15) (N' := 8) (k1 := 2) (n1 := 16) E hw8 q_259 (by decide +kernel) (by decide +kernel) (Nat.le_of_ble_eq_true rfl) (Nat.le_of_ble_eq_true rfl) (Nat.le_of_ble_eq_true rfl) (Nat.le_of_ble_eq_true rfl) (Nat.le_of_ble_eq_true rfl) dX0_init_15 (fun q_9 H hw10 => ?_)
  have hw11 : WD D A s.heap [(h0, .inr (0, [.ref q_5, .null, .int 0])), (q_5, .inl (cI, 8, .inl (fun _ => 0))), (q_9, .inl (cI, 8, .inl (fun _ => 0)))] H _ := hw10
  refine x_putF (pc := 17) (T := TX0) (N := 3) (ci := 0) (ws' := [(h0, .inr (0, [.ref q_5, .ref q_9, .int 0])), (q_5, .inl (cI, 8, .inl (fun _ => 0))), (q_9, .inl (cI, 8, .inl (fun _ => 0)))]) E hw11 hnm inX0 tyX0_ok nmX0 0 1 q_446 rfl rfl (by decide) rfl rfl rfl rfl rfl (Nat.le_of_ble_eq_true rfl) rfl dX0_init_17 (fun H locs hw12 => ?_)
  exact nd_v  E hr hlk hw12 (q_5, q_9) trivial [0, 1, 2] rfl (by decide) (Nat.le_of_ble_eq_true rfl) (Nat.le_of_ble_eq_true rfl) dX0_init_20
def ws_c_X1_init (cI cJ : ClassId) (h0 : Nat) : va_W := [(h0, .inr (1, [.null, .null, .null, .null, .null, .int 0, .null, .null, .null]))]
def w1_c_X1_init (cI cJ : ClassId) (h0 : Nat) : (Nat → Nat) × (Nat → Nat → Int32) → va_W := fun u => [(h0, .inr (1, [.ref (u.1 0), .ref (u.1 1), .ref (u.1 2), .ref (u.1 3), .ref (u.1 4), .int 0, .ref (u.1 5), .ref (u.1 6), .null])), ((u.1 0), .inl (cI, 10, .inl (fun _ => 0))), ((u.1 1), .inl (cI, 10, .inl (fun _ => 0))), ((u.1 2), .inl (cI, 10, .inl (fun _ => 0))), ((u.1 3), .inl (cI, 10, .inl (fun _ => 0))), ((u.1 4), .inl (cI, 10, .inl (fun _ => 0))), ((u.1 5), .inl (cI, 10, .inl (fun _ => 0))), ((u.1 6), .inl (cI, 10, .inl (fun _ => 0)))]
set_option maxHeartbeats 4000000 in
set_option maxRecDepth 100000 in
theorem c_X1_init (l : Launch) (D : va_G) (cI cJ : ClassId) (sz : Nat) (h0 : Nat)  : Met l yX1_init (Cond.code yX1_init cX1_init 1 none :: GW) ({ frames := 1, cells := 7, slots := 70, locals := 40 } : Room) (va_Pc [.ref h0] (PW D cI cJ sz (ws_c_X1_init cI cJ h0) xT)) (va_Qv (fun (u : (Nat → Nat) × (Nat → Nat → Int32)) => True) (fun u => QW D cI cJ (va_A (ws_c_X1_init cI cJ h0) sz) ((w1_c_X1_init cI cJ h0) u)) (va_A (ws_c_X1_init cI cJ h0) sz)) 7 70 (va_A (ws_c_X1_init cI cJ h0) sz) := by
  refine mk_met (y := yX1_init) (bytes := cX1_init) (maxL := 1) (avs := [.ref h0]) (WS := (ws_c_X1_init cI cJ h0)) (Qf := fun A => va_Qv (fun (u : (Nat → Nat) × (Nat → Nat → Int32)) => True) (fun u => QW D cI cJ A ((w1_c_X1_init cI cJ h0) u)) A) (by decide) (Nat.le_of_ble_eq_true rfl) ?_
  intro p e s m below meth c A ls E hr hlk hnm hX hw1 hl2
  have hl3 : lv_has ls 1 [(0, .ref h0)] := hl2
  have hw4 : WD D A s.heap [(h0, .inr (1, [.null, .null, .null, .null, .null, .int 0, .null, .null, .null]))] s.heap [] := hw1
  refine lv_aload_n (pc := 0) E.1 E.2.1 dX1_init_0 rfl (lv_at hl3 0 rfl) ?_
  refine x_obj (pc := 1) E q_265 q_177 q_178 hl3.1 (Nat.le_of_ble_eq_true rfl) (Nat.le_of_ble_eq_true rfl) dX1_init_1 ?_
  refine lv_aload_n (pc := 4) E.1 E.2.1 dX1_init_4 rfl (lv_at hl3 0 rfl) ?_
  refine lv_bipush (pc := 5) (v := 10) E.1 E.2.1 dX1_init_5 (by decide +kernel) ?_
  refine x_newI (pc := 7) (N' := 10) (k1 := 1) (n1 := 10) E hw4 q_259 (by decide +kernel) (by decide +kernel) (Nat.le_of_ble_eq_true rfl) (Nat.le_of_ble_eq_true rfl) (Nat.le_of_ble_eq_true rfl) (Nat.le_of_ble_eq_true rfl) (Nat.le_of_ble_eq_true rfl) dX1_init_7 (fun q_5 H hw6 => ?_)
  have hw7 : WD D A s.heap [(h0, .inr (1, [.null, .null, .null, .null, .null, .int 0, .null, .null, .null])), (q_5, .inl (cI, 10, .inl (fun _ => 0)))] H _ := hw6
  refine x_putF (pc := 9) (T := TX1) (N := 9) (ci := 1) (ws' := [(h0, .inr (1, [.ref q_5, .null, .null, .null, .null, .int 0, .null, .null, .null])), (q_5, .inl (cI, 10, .inl (fun _ => 0)))]) E hw7 hnm inX1 tyX1_ok nmX1 0 0 q_266 rfl rfl (by decide) rfl rfl rfl rfl rfl (Nat.le_of_ble_eq_true rfl) rfl dX1_init_9 (fun H locs hw8 => ?_)
  refine lv_aload_n (pc := 12) E.1 E.2.1 dX1_init_12 rfl (lv_at hl3 0 rfl) ?_
  refine lv_bipush (pc := 13) (v := 10) E.1 E.2.1 dX1_init_13 (by decide +kernel) ?_
  refine x_newI (pc := 15) (N' := 10) (k1 := 2) (n1 := 20) E hw8 q_259 (by decide +kernel) (by decide +kernel) (Nat.le_of_ble_eq_true rfl) (Nat.le_of_ble_eq_true rfl) (Nat.le_of_ble_eq_true rfl) (Nat.le_of_ble_eq_true rfl) (Nat.le_of_ble_eq_true rfl) dX1_init_15 (fun q_9 H hw10 => ?_)
  have hw11 : WD D A s.heap [(h0, .inr (1, [.ref q_5, .null, .null, .null, .null, .int 0, .null, .null, .null])), (q_5, .inl (cI, 10, .inl (fun _ => 0))), (q_9, .inl (cI, 10, .inl (fun _ => 0)))] H _ := hw10
  refine x_putF (pc := 17) (T := TX1) (N := 9) (ci := 1) (ws' := [(h0, .inr (1, [.ref q_5, .ref q_9, .null, .null, .null, .int 0, .null, .null, .null])), (q_5, .inl (cI, 10, .inl (fun _ => 0))), (q_9, .inl (cI, 10, .inl (fun _ => 0)))]) E hw11 hnm inX1 tyX1_ok nmX1 0 1 q_268 rfl rfl (by decide) rfl rfl rfl rfl rfl (Nat.le_of_ble_eq_true rfl) rfl dX1_init_17 (fun H locs hw12 => ?_)
  refine lv_aload_n (pc := 20) E.1 E.2.1 dX1_init_20 rfl (lv_at hl3 0 rfl) ?_
  refine lv_bipush (pc := 21) (v := 10) E.1 E.2.1 dX1_init_21 (by decide +kernel) ?_
  refine x_newI (pc := 23) (N' := 10) (k1 := 3) (n1 := 30) E hw12 q_259 (by decide +kernel) (by decide +kernel) (Nat.le_of_ble_eq_true rfl) (Nat.le_of_ble_eq_true rfl) (Nat.le_of_ble_eq_true rfl) (Nat.le_of_ble_eq_true rfl) (Nat.le_of_ble_eq_true rfl) dX1_init_23 (fun q_13 H hw14 => ?_)
  have hw15 : WD D A s.heap [(h0, .inr (1, [.ref q_5, .ref q_9, .null, .null, .null, .int 0, .null, .null, .null])), (q_5, .inl (cI, 10, .inl (fun _ => 0))), (q_9, .inl (cI, 10, .inl (fun _ => 0))), (q_13, .inl (cI, 10, .inl (fun _ => 0)))] H _ := hw14
  refine x_putF (pc := 25) (T := TX1) (N := 9) (ci := 1) (ws' := [(h0, .inr (1, [.ref q_5, .ref q_9, .ref q_13, .null, .null, .int 0, .null, .null, .null])), (q_5, .inl (cI, 10, .inl (fun _ => 0))), (q_9, .inl (cI, 10, .inl (fun _ => 0))), (q_13, .inl (cI, 10, .inl (fun _ => 0)))]) E hw15 hnm inX1 tyX1_ok nmX1 0 2 q_271 rfl rfl (by decide) rfl rfl rfl rfl rfl (Nat.le_of_ble_eq_true rfl) rfl dX1_init_25 (fun H locs hw16 => ?_)
  refine lv_aload_n (pc := 28) E.1 E.2.1 dX1_init_28 rfl (lv_at hl3 0 rfl) ?_
  refine lv_bipush (pc := 29) (v := 10) E.1 E.2.1 dX1_init_29 (by decide +kernel) ?_
  refine x_newI (pc := 31) (N' := 10) (k1 := 4) (n1 := 40) E hw16 q_259 (by decide +kernel) (by decide +kernel) (Nat.le_of_ble_eq_true rfl) (Nat.le_of_ble_eq_true rfl) (Nat.le_of_ble_eq_true rfl) (Nat.le_of_ble_eq_true rfl) (Nat.le_of_ble_eq_true rfl) dX1_init_31 (fun q_17 H hw18 => ?_)
  have hw19 : WD D A s.heap [(h0, .inr (1, [.ref q_5, .ref q_9, .ref q_13, .null, .null, .int 0, .null, .null, .null])), (q_5, .inl (cI, 10, .inl (fun _ => 0))), (q_9, .inl (cI, 10, .inl (fun _ => 0))), (q_13, .inl (cI, 10, .inl (fun _ => 0))), (q_17, .inl (cI, 10, .inl (fun _ => 0)))] H _ := hw18
  refine x_putF (pc := 33) (T := TX1) (N := 9) (ci := 1) (ws' := [(h0, .inr (1, [.ref q_5, .ref q_9, .ref q_13, .ref q_17, .null, .int 0, .null, .null, .null])), (q_5, .inl (cI, 10, .inl (fun _ => 0))), (q_9, .inl (cI, 10, .inl (fun _ => 0))), (q_13, .inl (cI, 10, .inl (fun _ => 0))), (q_17, .inl (cI, 10, .inl (fun _ => 0)))]) E hw19 hnm inX1 tyX1_ok nmX1 0 3 q_274 rfl rfl (by decide) rfl rfl rfl rfl rfl (Nat.le_of_ble_eq_true rfl) rfl dX1_init_33 (fun H locs hw20 => ?_)
  refine lv_aload_n (pc := 36) E.1 E.2.1 dX1_init_36 rfl (lv_at hl3 0 rfl) ?_
  refine lv_bipush (pc := 37) (v := 10) E.1 E.2.1 dX1_init_37 (by decide +kernel) ?_
  refine x_newI (pc := 39) (N' := 10) (k1 := 5) (n1 := 50) E hw20 q_259 (by decide +kernel) (by decide +kernel) (Nat.le_of_ble_eq_true rfl) (Nat.le_of_ble_eq_true rfl) (Nat.le_of_ble_eq_true rfl) (Nat.le_of_ble_eq_true rfl) (Nat.le_of_ble_eq_true rfl) dX1_init_39 (fun q_21 H hw22 => ?_)
  have hw23 : WD D A s.heap [(h0, .inr (1, [.ref q_5, .ref q_9, .ref q_13, .ref q_17, .null, .int 0, .null, .null, .null])), (q_5, .inl (cI, 10, .inl (fun _ => 0))), (q_9, .inl (cI, 10, .inl (fun _ => 0))), (q_13, .inl (cI, 10, .inl (fun _ => 0))), (q_17, .inl (cI, 10, .inl (fun _ => 0))), (q_21, .inl (cI, 10, .inl (fun _ => 0)))] H _ := hw22
  refine x_putF (pc := 41) (T := TX1) (N := 9) (ci := 1) (ws' := [(h0, .inr (1, [.ref q_5, .ref q_9, .ref q_13, .ref q_17, .ref q_21, .int 0, .null, .null, .null])), (q_5, .inl (cI, 10, .inl (fun _ => 0))), (q_9, .inl (cI, 10, .inl (fun _ => 0))), (q_13, .inl (cI, 10, .inl (fun _ => 0))), (q_17, .inl (cI, 10, .inl (fun _ => 0))), (q_21, .inl (cI, 10, .inl (fun _ => 0)))]) E hw23 hnm inX1 tyX1_ok nmX1 0 4 q_277 rfl rfl (by decide) rfl rfl rfl rfl rfl (Nat.le_of_ble_eq_true rfl) rfl dX1_init_41 (fun H locs hw24 => ?_)
  refine lv_aload_n (pc := 44) E.1 E.2.1 dX1_init_44 rfl (lv_at hl3 0 rfl) ?_
  refine lv_bipush (pc := 45) (v := 10) E.1 E.2.1 dX1_init_45 (by decide +kernel) ?_
  refine x_newI (pc := 47) (N' := 10) (k1 := 6) (n1 := 60) E hw24 q_259 (by decide +kernel) (by decide +kernel) (Nat.le_of_ble_eq_true rfl) (Nat.le_of_ble_eq_true rfl) (Nat.le_of_ble_eq_true rfl) (Nat.le_of_ble_eq_true rfl) (Nat.le_of_ble_eq_true rfl) dX1_init_47 (fun q_25 H hw26 => ?_)
  have hw27 : WD D A s.heap [(h0, .inr (1, [.ref q_5, .ref q_9, .ref q_13, .ref q_17, .ref q_21, .int 0, .null, .null, .null])), (q_5, .inl (cI, 10, .inl (fun _ => 0))), (q_9, .inl (cI, 10, .inl (fun _ => 0))), (q_13, .inl (cI, 10, .inl (fun _ => 0))), (q_17, .inl (cI, 10, .inl (fun _ => 0))), (q_21, .inl (cI, 10, .inl (fun _ => 0))), (q_25, .inl (cI, 10, .inl (fun _ => 0)))] H _ := hw26
  refine x_putF (pc := 49) (T := TX1) (N := 9) (ci := 1) (ws' := [(h0, .inr (1, [.ref q_5, .ref q_9, .ref q_13, .ref q_17, .ref q_21, .int 0, .ref q_25, .null, .null])), (q_5, .inl (cI, 10, .inl (fun _ => 0))), (q_9, .inl (cI, 10, .inl (fun _ => 0))), (q_13, .inl (cI, 10, .inl (fun _ => 0))), (q_17, .inl (cI, 10, .inl (fun _ => 0))), (q_21, .inl (cI, 10, .inl (fun _ => 0))), (q_25, .inl (cI, 10, .inl (fun _ => 0)))]) E hw27 hnm inX1 tyX1_ok nmX1 0 6 q_284 rfl rfl (by decide) rfl rfl rfl rfl rfl (Nat.le_of_ble_eq_true rfl) rfl dX1_init_49 (fun H locs hw28 => ?_)
  refine lv_aload_n (pc := 52) E.1 E.2.1 dX1_init_52 rfl (lv_at hl3 0 rfl) ?_
  refine lv_bipush (pc := 53) (v := 10) E.1 E.2.1 dX1_init_53 (by decide +kernel) ?_
  refine x_newI (pc := 55) (N' := 10) (k1 := 7) (n1 := 70) E hw28 q_259 (by decide +kernel) (by decide +kernel) (Nat.le_of_ble_eq_true rfl) (Nat.le_of_ble_eq_true rfl) (Nat.le_of_ble_eq_true rfl) (Nat.le_of_ble_eq_true rfl) (Nat.le_of_ble_eq_true rfl) dX1_init_55 (fun q_29 H hw30 => ?_)
  have hw31 : WD D A s.heap [(h0, .inr (1, [.ref q_5, .ref q_9, .ref q_13, .ref q_17, .ref q_21, .int 0, .ref q_25, .null, .null])), (q_5, .inl (cI, 10, .inl (fun _ => 0))), (q_9, .inl (cI, 10, .inl (fun _ => 0))), (q_13, .inl (cI, 10, .inl (fun _ => 0))), (q_17, .inl (cI, 10, .inl (fun _ => 0))), (q_21, .inl (cI, 10, .inl (fun _ => 0))), (q_25, .inl (cI, 10, .inl (fun _ => 0))), (q_29, .inl (cI, 10, .inl (fun _ => 0)))] H _ := hw30
  refine x_putF (pc := 57) (T := TX1) (N := 9) (ci := 1) (ws' := [(h0, .inr (1, [.ref q_5, .ref q_9, .ref q_13, .ref q_17, .ref q_21, .int 0, .ref q_25, .ref q_29, .null])), (q_5, .inl (cI, 10, .inl (fun _ => 0))), (q_9, .inl (cI, 10, .inl (fun _ => 0))), (q_13, .inl (cI, 10, .inl (fun _ => 0))), (q_17, .inl (cI, 10, .inl (fun _ => 0))), (q_21, .inl (cI, 10, .inl (fun _ => 0))), (q_25, .inl (cI, 10, .inl (fun _ => 0))), (q_29, .inl (cI, 10, .inl (fun _ => 0)))]) E hw31 hnm inX1 tyX1_ok nmX1 0 7 q_286 rfl rfl (by decide) rfl rfl rfl rfl rfl (Nat.le_of_ble_eq_true rfl) rfl dX1_init_57 (fun H locs hw32 => ?_)
  exact nd_v  E hr hlk hw32 ((fun k => [q_5, q_9, q_13, q_17, q_21, q_25, q_29].getD k 0), (fun k => ([] : List (Nat → Int32)).getD k (fun _ => 0))) trivial [0, 1, 2, 3, 4, 5, 6, 7] rfl (by decide) (Nat.le_of_ble_eq_true rfl) (Nat.le_of_ble_eq_true rfl) dX1_init_60
def ws_c_X2_init (cI cJ : ClassId) (h0 : Nat) : va_W := [(h0, .inr (2, [.null, .int 0, .null, .int 0, .null, .null, .int 0, .int 0, .int 0]))]
def w1_c_X2_init (cI cJ : ClassId) (h0 : Nat) : Nat × Nat × Nat × Nat → va_W := fun u => [(h0, .inr (2, [.ref u.1, .int 0, .ref u.2.1, .int 0, .ref u.2.2.1, .ref u.2.2.2, .int 0, .int 0, .int 0])), (u.1, .inl (cI, 400, .inl (fun _ => 0))), (u.2.1, .inl (cI, 33, .inl (fun _ => 0))), (u.2.2.1, .inl (cI, 64, .inl (fun _ => 0))), (u.2.2.2, .inl (cI, 64, .inl (fun _ => 0)))]
set_option maxHeartbeats 4000000 in
set_option maxRecDepth 100000 in
theorem c_X2_init (l : Launch) (D : va_G) (cI cJ : ClassId) (sz : Nat) (h0 : Nat)  : Met l yX2_init (Cond.code yX2_init cX2_init 1 none :: GW) ({ frames := 1, cells := 4, slots := 561, locals := 40 } : Room) (va_Pc [.ref h0] (PW D cI cJ sz (ws_c_X2_init cI cJ h0) xT)) (va_Qv (fun (u : Nat × Nat × Nat × Nat) => True) (fun u => QW D cI cJ (va_A (ws_c_X2_init cI cJ h0) sz) ((w1_c_X2_init cI cJ h0) u)) (va_A (ws_c_X2_init cI cJ h0) sz)) 4 561 (va_A (ws_c_X2_init cI cJ h0) sz) := by
  refine mk_met (y := yX2_init) (bytes := cX2_init) (maxL := 1) (avs := [.ref h0]) (WS := (ws_c_X2_init cI cJ h0)) (Qf := fun A => va_Qv (fun (u : Nat × Nat × Nat × Nat) => True) (fun u => QW D cI cJ A ((w1_c_X2_init cI cJ h0) u)) A) (by decide) (Nat.le_of_ble_eq_true rfl) ?_
  intro p e s m below meth c A ls E hr hlk hnm hX hw1 hl2
  have hl3 : lv_has ls 1 [(0, .ref h0)] := hl2
  have hw4 : WD D A s.heap [(h0, .inr (2, [.null, .int 0, .null, .int 0, .null, .null, .int 0, .int 0, .int 0]))] s.heap [] := hw1
  refine lv_aload_n (pc := 0) E.1 E.2.1 dX2_init_0 rfl (lv_at hl3 0 rfl) ?_
  refine x_obj (pc := 1) E q_383 q_177 q_178 hl3.1 (Nat.le_of_ble_eq_true rfl) (Nat.le_of_ble_eq_true rfl) dX2_init_1 ?_
  refine lv_aload_n (pc := 4) E.1 E.2.1 dX2_init_4 rfl (lv_at hl3 0 rfl) ?_
  refine lv_sipush (pc := 5) (v := 400) E.1 E.2.1 dX2_init_5 (by decide +kernel) ?_
  refine x_newI (pc := 8) (N' := 400) (k1 := 1) (n1 := 400) E hw4 q_259 (by decide +kernel) (by decide +kernel) (Nat.le_of_ble_eq_true rfl) (Nat.le_of_ble_eq_true rfl) (Nat.le_of_ble_eq_true rfl) (Nat.le_of_ble_eq_true rfl) (Nat.le_of_ble_eq_true rfl) dX2_init_8 (fun q_5 H hw6 => ?_)
  have hw7 : WD D A s.heap [(h0, .inr (2, [.null, .int 0, .null, .int 0, .null, .null, .int 0, .int 0, .int 0])), (q_5, .inl (cI, 400, .inl (fun _ => 0)))] H _ := hw6
  refine x_putF (pc := 10) (T := TX2) (N := 9) (ci := 2) (ws' := [(h0, .inr (2, [.ref q_5, .int 0, .null, .int 0, .null, .null, .int 0, .int 0, .int 0])), (q_5, .inl (cI, 400, .inl (fun _ => 0)))]) E hw7 hnm inX2 tyX2_ok nmX2 0 0 q_384 rfl rfl (by decide) rfl rfl rfl rfl rfl (Nat.le_of_ble_eq_true rfl) rfl dX2_init_10 (fun H locs hw8 => ?_)
  refine lv_aload_n (pc := 13) E.1 E.2.1 dX2_init_13 rfl (lv_at hl3 0 rfl) ?_
  refine lv_bipush (pc := 14) (v := 33) E.1 E.2.1 dX2_init_14 (by decide +kernel) ?_
  refine x_newI (pc := 16) (N' := 33) (k1 := 2) (n1 := 433) E hw8 q_259 (by decide +kernel) (by decide +kernel) (Nat.le_of_ble_eq_true rfl) (Nat.le_of_ble_eq_true rfl) (Nat.le_of_ble_eq_true rfl) (Nat.le_of_ble_eq_true rfl) (Nat.le_of_ble_eq_true rfl) dX2_init_16 (fun q_9 H hw10 => ?_)
  have hw11 : WD D A s.heap [(h0, .inr (2, [.ref q_5, .int 0, .null, .int 0, .null, .null, .int 0, .int 0, .int 0])), (q_5, .inl (cI, 400, .inl (fun _ => 0))), (q_9, .inl (cI, 33, .inl (fun _ => 0)))] H _ := hw10
  refine x_putF (pc := 18) (T := TX2) (N := 9) (ci := 2) (ws' := [(h0, .inr (2, [.ref q_5, .int 0, .ref q_9, .int 0, .null, .null, .int 0, .int 0, .int 0])), (q_5, .inl (cI, 400, .inl (fun _ => 0))), (q_9, .inl (cI, 33, .inl (fun _ => 0)))]) E hw11 hnm inX2 tyX2_ok nmX2 0 2 q_386 rfl rfl (by decide) rfl rfl rfl rfl rfl (Nat.le_of_ble_eq_true rfl) rfl dX2_init_18 (fun H locs hw12 => ?_)
  refine lv_aload_n (pc := 21) E.1 E.2.1 dX2_init_21 rfl (lv_at hl3 0 rfl) ?_
  refine lv_bipush (pc := 22) (v := 64) E.1 E.2.1 dX2_init_22 (by decide +kernel) ?_
  refine x_newI (pc := 24) (N' := 64) (k1 := 3) (n1 := 497) E hw12 q_259 (by decide +kernel) (by decide +kernel) (Nat.le_of_ble_eq_true rfl) (Nat.le_of_ble_eq_true rfl) (Nat.le_of_ble_eq_true rfl) (Nat.le_of_ble_eq_true rfl) (Nat.le_of_ble_eq_true rfl) dX2_init_24 (fun q_13 H hw14 => ?_)
  have hw15 : WD D A s.heap [(h0, .inr (2, [.ref q_5, .int 0, .ref q_9, .int 0, .null, .null, .int 0, .int 0, .int 0])), (q_5, .inl (cI, 400, .inl (fun _ => 0))), (q_9, .inl (cI, 33, .inl (fun _ => 0))), (q_13, .inl (cI, 64, .inl (fun _ => 0)))] H _ := hw14
  refine x_putF (pc := 26) (T := TX2) (N := 9) (ci := 2) (ws' := [(h0, .inr (2, [.ref q_5, .int 0, .ref q_9, .int 0, .ref q_13, .null, .int 0, .int 0, .int 0])), (q_5, .inl (cI, 400, .inl (fun _ => 0))), (q_9, .inl (cI, 33, .inl (fun _ => 0))), (q_13, .inl (cI, 64, .inl (fun _ => 0)))]) E hw15 hnm inX2 tyX2_ok nmX2 0 4 q_389 rfl rfl (by decide) rfl rfl rfl rfl rfl (Nat.le_of_ble_eq_true rfl) rfl dX2_init_26 (fun H locs hw16 => ?_)
  refine lv_aload_n (pc := 29) E.1 E.2.1 dX2_init_29 rfl (lv_at hl3 0 rfl) ?_
  refine lv_bipush (pc := 30) (v := 64) E.1 E.2.1 dX2_init_30 (by decide +kernel) ?_
  refine x_newI (pc := 32) (N' := 64) (k1 := 4) (n1 := 561) E hw16 q_259 (by decide +kernel) (by decide +kernel) (Nat.le_of_ble_eq_true rfl) (Nat.le_of_ble_eq_true rfl) (Nat.le_of_ble_eq_true rfl) (Nat.le_of_ble_eq_true rfl) (Nat.le_of_ble_eq_true rfl) dX2_init_32 (fun q_17 H hw18 => ?_)
  have hw19 : WD D A s.heap [(h0, .inr (2, [.ref q_5, .int 0, .ref q_9, .int 0, .ref q_13, .null, .int 0, .int 0, .int 0])), (q_5, .inl (cI, 400, .inl (fun _ => 0))), (q_9, .inl (cI, 33, .inl (fun _ => 0))), (q_13, .inl (cI, 64, .inl (fun _ => 0))), (q_17, .inl (cI, 64, .inl (fun _ => 0)))] H _ := hw18
  refine x_putF (pc := 34) (T := TX2) (N := 9) (ci := 2) (ws' := [(h0, .inr (2, [.ref q_5, .int 0, .ref q_9, .int 0, .ref q_13, .ref q_17, .int 0, .int 0, .int 0])), (q_5, .inl (cI, 400, .inl (fun _ => 0))), (q_9, .inl (cI, 33, .inl (fun _ => 0))), (q_13, .inl (cI, 64, .inl (fun _ => 0))), (q_17, .inl (cI, 64, .inl (fun _ => 0)))]) E hw19 hnm inX2 tyX2_ok nmX2 0 5 q_390 rfl rfl (by decide) rfl rfl rfl rfl rfl (Nat.le_of_ble_eq_true rfl) rfl dX2_init_34 (fun H locs hw20 => ?_)
  exact nd_v  E hr hlk hw20 (q_5, q_9, q_13, q_17) trivial [0, 1, 2, 3, 4] rfl (by decide) (Nat.le_of_ble_eq_true rfl) (Nat.le_of_ble_eq_true rfl) dX2_init_37
def ws_c_X3_init (cI cJ : ClassId) (h0 : Nat) : va_W := [(h0, .inr (3, [.null, .null, .null, .null, .null, .int 0]))]
def w1_c_X3_init (cI cJ : ClassId) (h0 : Nat) : Nat × Nat × Nat × Nat × Nat → va_W := fun u => [(h0, .inr (3, [.ref u.1, .ref u.2.1, .ref u.2.2.1, .ref u.2.2.2.1, .ref u.2.2.2.2, .int 0])), (u.1, .inl (cI, 10, .inl (fun _ => 0))), (u.2.1, .inl (cI, 10, .inl (fun _ => 0))), (u.2.2.1, .inl (cI, 10, .inl (fun _ => 0))), (u.2.2.2.1, .inl (cI, 10, .inl (fun _ => 0))), (u.2.2.2.2, .inl (cI, 10, .inl (fun _ => 0)))]
set_option maxHeartbeats 4000000 in
set_option maxRecDepth 100000 in
theorem c_X3_init (l : Launch) (D : va_G) (cI cJ : ClassId) (sz : Nat) (h0 : Nat)  : Met l yX3_init (Cond.code yX3_init cX3_init 1 none :: GW) ({ frames := 1, cells := 5, slots := 50, locals := 40 } : Room) (va_Pc [.ref h0] (PW D cI cJ sz (ws_c_X3_init cI cJ h0) xT)) (va_Qv (fun (u : Nat × Nat × Nat × Nat × Nat) => True) (fun u => QW D cI cJ (va_A (ws_c_X3_init cI cJ h0) sz) ((w1_c_X3_init cI cJ h0) u)) (va_A (ws_c_X3_init cI cJ h0) sz)) 5 50 (va_A (ws_c_X3_init cI cJ h0) sz) := by
  refine mk_met (y := yX3_init) (bytes := cX3_init) (maxL := 1) (avs := [.ref h0]) (WS := (ws_c_X3_init cI cJ h0)) (Qf := fun A => va_Qv (fun (u : Nat × Nat × Nat × Nat × Nat) => True) (fun u => QW D cI cJ A ((w1_c_X3_init cI cJ h0) u)) A) (by decide) (Nat.le_of_ble_eq_true rfl) ?_
  intro p e s m below meth c A ls E hr hlk hnm hX hw1 hl2
  have hl3 : lv_has ls 1 [(0, .ref h0)] := hl2
  have hw4 : WD D A s.heap [(h0, .inr (3, [.null, .null, .null, .null, .null, .int 0]))] s.heap [] := hw1
  refine lv_aload_n (pc := 0) E.1 E.2.1 dX3_init_0 rfl (lv_at hl3 0 rfl) ?_
  refine x_obj (pc := 1) E q_342 q_177 q_178 hl3.1 (Nat.le_of_ble_eq_true rfl) (Nat.le_of_ble_eq_true rfl) dX3_init_1 ?_
  refine lv_aload_n (pc := 4) E.1 E.2.1 dX3_init_4 rfl (lv_at hl3 0 rfl) ?_
  refine lv_bipush (pc := 5) (v := 10) E.1 E.2.1 dX3_init_5 (by decide +kernel) ?_
  refine x_newI (pc := 7) (N' := 10) (k1 := 1) (n1 := 10) E hw4 q_259 (by decide +kernel) (by decide +kernel) (Nat.le_of_ble_eq_true rfl) (Nat.le_of_ble_eq_true rfl) (Nat.le_of_ble_eq_true rfl) (Nat.le_of_ble_eq_true rfl) (Nat.le_of_ble_eq_true rfl) dX3_init_7 (fun q_5 H hw6 => ?_)
  have hw7 : WD D A s.heap [(h0, .inr (3, [.null, .null, .null, .null, .null, .int 0])), (q_5, .inl (cI, 10, .inl (fun _ => 0)))] H _ := hw6
  refine x_putF (pc := 9) (T := TX3) (N := 6) (ci := 3) (ws' := [(h0, .inr (3, [.ref q_5, .null, .null, .null, .null, .int 0])), (q_5, .inl (cI, 10, .inl (fun _ => 0)))]) E hw7 hnm inX3 tyX3_ok nmX3 0 0 q_343 rfl rfl (by decide) rfl rfl rfl rfl rfl (Nat.le_of_ble_eq_true rfl) rfl dX3_init_9 (fun H locs hw8 => ?_)
  refine lv_aload_n (pc := 12) E.1 E.2.1 dX3_init_12 rfl (lv_at hl3 0 rfl) ?_
  refine lv_bipush (pc := 13) (v := 10) E.1 E.2.1 dX3_init_13 (by decide +kernel) ?_
  refine x_newI (pc := 15) (N' := 10) (k1 := 2) (n1 := 20) E hw8 q_259 (by decide +kernel) (by decide +kernel) (Nat.le_of_ble_eq_true rfl) (Nat.le_of_ble_eq_true rfl) (Nat.le_of_ble_eq_true rfl) (Nat.le_of_ble_eq_true rfl) (Nat.le_of_ble_eq_true rfl) dX3_init_15 (fun q_9 H hw10 => ?_)
  have hw11 : WD D A s.heap [(h0, .inr (3, [.ref q_5, .null, .null, .null, .null, .int 0])), (q_5, .inl (cI, 10, .inl (fun _ => 0))), (q_9, .inl (cI, 10, .inl (fun _ => 0)))] H _ := hw10
  refine x_putF (pc := 17) (T := TX3) (N := 6) (ci := 3) (ws' := [(h0, .inr (3, [.ref q_5, .ref q_9, .null, .null, .null, .int 0])), (q_5, .inl (cI, 10, .inl (fun _ => 0))), (q_9, .inl (cI, 10, .inl (fun _ => 0)))]) E hw11 hnm inX3 tyX3_ok nmX3 0 1 q_347 rfl rfl (by decide) rfl rfl rfl rfl rfl (Nat.le_of_ble_eq_true rfl) rfl dX3_init_17 (fun H locs hw12 => ?_)
  refine lv_aload_n (pc := 20) E.1 E.2.1 dX3_init_20 rfl (lv_at hl3 0 rfl) ?_
  refine lv_bipush (pc := 21) (v := 10) E.1 E.2.1 dX3_init_21 (by decide +kernel) ?_
  refine x_newI (pc := 23) (N' := 10) (k1 := 3) (n1 := 30) E hw12 q_259 (by decide +kernel) (by decide +kernel) (Nat.le_of_ble_eq_true rfl) (Nat.le_of_ble_eq_true rfl) (Nat.le_of_ble_eq_true rfl) (Nat.le_of_ble_eq_true rfl) (Nat.le_of_ble_eq_true rfl) dX3_init_23 (fun q_13 H hw14 => ?_)
  have hw15 : WD D A s.heap [(h0, .inr (3, [.ref q_5, .ref q_9, .null, .null, .null, .int 0])), (q_5, .inl (cI, 10, .inl (fun _ => 0))), (q_9, .inl (cI, 10, .inl (fun _ => 0))), (q_13, .inl (cI, 10, .inl (fun _ => 0)))] H _ := hw14
  refine x_putF (pc := 25) (T := TX3) (N := 6) (ci := 3) (ws' := [(h0, .inr (3, [.ref q_5, .ref q_9, .ref q_13, .null, .null, .int 0])), (q_5, .inl (cI, 10, .inl (fun _ => 0))), (q_9, .inl (cI, 10, .inl (fun _ => 0))), (q_13, .inl (cI, 10, .inl (fun _ => 0)))]) E hw15 hnm inX3 tyX3_ok nmX3 0 2 q_351 rfl rfl (by decide) rfl rfl rfl rfl rfl (Nat.le_of_ble_eq_true rfl) rfl dX3_init_25 (fun H locs hw16 => ?_)
  refine lv_aload_n (pc := 28) E.1 E.2.1 dX3_init_28 rfl (lv_at hl3 0 rfl) ?_
  refine lv_bipush (pc := 29) (v := 10) E.1 E.2.1 dX3_init_29 (by decide +kernel) ?_
  refine x_newI (pc := 31) (N' := 10) (k1 := 4) (n1 := 40) E hw16 q_259 (by decide +kernel) (by decide +kernel) (Nat.le_of_ble_eq_true rfl) (Nat.le_of_ble_eq_true rfl) (Nat.le_of_ble_eq_true rfl) (Nat.le_of_ble_eq_true rfl) (Nat.le_of_ble_eq_true rfl) dX3_init_31 (fun q_17 H hw18 => ?_)
  have hw19 : WD D A s.heap [(h0, .inr (3, [.ref q_5, .ref q_9, .ref q_13, .null, .null, .int 0])), (q_5, .inl (cI, 10, .inl (fun _ => 0))), (q_9, .inl (cI, 10, .inl (fun _ => 0))), (q_13, .inl (cI, 10, .inl (fun _ => 0))), (q_17, .inl (cI, 10, .inl (fun _ => 0)))] H _ := hw18
  refine x_putF (pc := 33) (T := TX3) (N := 6) (ci := 3) (ws' := [(h0, .inr (3, [.ref q_5, .ref q_9, .ref q_13, .ref q_17, .null, .int 0])), (q_5, .inl (cI, 10, .inl (fun _ => 0))), (q_9, .inl (cI, 10, .inl (fun _ => 0))), (q_13, .inl (cI, 10, .inl (fun _ => 0))), (q_17, .inl (cI, 10, .inl (fun _ => 0)))]) E hw19 hnm inX3 tyX3_ok nmX3 0 3 q_354 rfl rfl (by decide) rfl rfl rfl rfl rfl (Nat.le_of_ble_eq_true rfl) rfl dX3_init_33 (fun H locs hw20 => ?_)
  refine lv_aload_n (pc := 36) E.1 E.2.1 dX3_init_36 rfl (lv_at hl3 0 rfl) ?_
  refine lv_bipush (pc := 37) (v := 10) E.1 E.2.1 dX3_init_37 (by decide +kernel) ?_
  refine x_newI (pc := 39) (N' := 10) (k1 := 5) (n1 := 50) E hw20 q_259 (by decide +kernel) (by decide +kernel) (Nat.le_of_ble_eq_true rfl) (Nat.le_of_ble_eq_true rfl) (Nat.le_of_ble_eq_true rfl) (Nat.le_of_ble_eq_true rfl) (Nat.le_of_ble_eq_true rfl) dX3_init_39 (fun q_21 H hw22 => ?_)
  have hw23 : WD D A s.heap [(h0, .inr (3, [.ref q_5, .ref q_9, .ref q_13, .ref q_17, .null, .int 0])), (q_5, .inl (cI, 10, .inl (fun _ => 0))), (q_9, .inl (cI, 10, .inl (fun _ => 0))), (q_13, .inl (cI, 10, .inl (fun _ => 0))), (q_17, .inl (cI, 10, .inl (fun _ => 0))), (q_21, .inl (cI, 10, .inl (fun _ => 0)))] H _ := hw22
  refine x_putF (pc := 41) (T := TX3) (N := 6) (ci := 3) (ws' := [(h0, .inr (3, [.ref q_5, .ref q_9, .ref q_13, .ref q_17, .ref q_21, .int 0])), (q_5, .inl (cI, 10, .inl (fun _ => 0))), (q_9, .inl (cI, 10, .inl (fun _ => 0))), (q_13, .inl (cI, 10, .inl (fun _ => 0))), (q_17, .inl (cI, 10, .inl (fun _ => 0))), (q_21, .inl (cI, 10, .inl (fun _ => 0)))]) E hw23 hnm inX3 tyX3_ok nmX3 0 4 q_358 rfl rfl (by decide) rfl rfl rfl rfl rfl (Nat.le_of_ble_eq_true rfl) rfl dX3_init_41 (fun H locs hw24 => ?_)
  exact nd_v  E hr hlk hw24 (q_5, q_9, q_13, q_17, q_21) trivial [0, 1, 2, 3, 4, 5] rfl (by decide) (Nat.le_of_ble_eq_true rfl) (Nat.le_of_ble_eq_true rfl) dX3_init_44
def ws_c_X4_init (cI cJ : ClassId) (h0 : Nat) : va_W := [(h0, .inr (4, [.null, .null, .null, .null, .null, .int 0, .int 0, .int 0, .int 0, .int 0, .int 0, .int 0]))]
def w1_c_X4_init (cI cJ : ClassId) (h0 : Nat) : (Nat → Nat) × (Nat → Nat → Int32) → va_W := fun u => [(h0, .inr (4, [.ref (u.1 0), .ref (u.1 1), .ref (u.1 2), .ref (u.1 3), .ref (u.1 4), .int 0, .int (-1), .int 0, .int 0, .int 0, .int 0, .int 0])), ((u.1 0), .inl (cI, 10, .inl (fun _ => 0))), ((u.1 1), .inl (cI, 10, .inl (fun _ => 0))), ((u.1 2), .inl (cI, 10, .inl (fun _ => 0))), ((u.1 3), .inl (cI, 10, .inl (u.2 0))), ((u.1 4), .inl (cI, 10, .inl (u.2 1)))]
set_option maxHeartbeats 4000000 in
set_option maxRecDepth 100000 in
theorem c_X4_init (l : Launch) (D : va_G) (cI cJ : ClassId) (sz : Nat) (h0 : Nat)  : Met l yX4_init (Cond.code yX4_init cX4_init 2 none :: GW) ({ frames := 1, cells := 5, slots := 50, locals := 40 } : Room) (va_Pc [.ref h0] (PW D cI cJ sz (ws_c_X4_init cI cJ h0) xT)) (va_Qv (fun (u : (Nat → Nat) × (Nat → Nat → Int32)) => True) (fun u => QW D cI cJ (va_A (ws_c_X4_init cI cJ h0) sz) ((w1_c_X4_init cI cJ h0) u)) (va_A (ws_c_X4_init cI cJ h0) sz)) 5 50 (va_A (ws_c_X4_init cI cJ h0) sz) := by
  refine mk_met (y := yX4_init) (bytes := cX4_init) (maxL := 2) (avs := [.ref h0]) (WS := (ws_c_X4_init cI cJ h0)) (Qf := fun A => va_Qv (fun (u : (Nat → Nat) × (Nat → Nat → Int32)) => True) (fun u => QW D cI cJ A ((w1_c_X4_init cI cJ h0) u)) A) (by decide) (Nat.le_of_ble_eq_true rfl) ?_
  intro p e s m below meth c A ls E hr hlk hnm hX hw1 hl2
  have hl3 : lv_has ls 2 [(0, .ref h0)] := hl2
  have hw4 : WD D A s.heap [(h0, .inr (4, [.null, .null, .null, .null, .null, .int 0, .int 0, .int 0, .int 0, .int 0, .int 0, .int 0]))] s.heap [] := hw1
  refine lv_aload_n (pc := 0) E.1 E.2.1 dX4_init_0 rfl (lv_at hl3 0 rfl) ?_
  refine x_obj (pc := 1) E q_190 q_177 q_178 hl3.1 (Nat.le_of_ble_eq_true rfl) (Nat.le_of_ble_eq_true rfl) dX4_init_1 ?_
  refine lv_aload_n (pc := 4) E.1 E.2.1 dX4_init_4 rfl (lv_at hl3 0 rfl) ?_
  refine lv_bipush (pc := 5) (v := 10) E.1 E.2.1 dX4_init_5 (by decide +kernel) ?_
  refine x_newI (pc := 7) (N' := 10) (k1 := 1) (n1 := 10) E hw4 q_259 (by decide +kernel) (by decide +kernel) (Nat.le_of_ble_eq_true rfl) (Nat.le_of_ble_eq_true rfl) (Nat.le_of_ble_eq_true rfl) (Nat.le_of_ble_eq_true rfl) (Nat.le_of_ble_eq_true rfl) dX4_init_7 (fun q_5 H hw6 => ?_)
  have hw7 : WD D A s.heap [(h0, .inr (4, [.null, .null, .null, .null, .null, .int 0, .int 0, .int 0, .int 0, .int 0, .int 0, .int 0])), (q_5, .inl (cI, 10, .inl (fun _ => 0)))] H _ := hw6
  refine x_putF (pc := 9) (T := TX4) (N := 12) (ci := 4) (ws' := [(h0, .inr (4, [.ref q_5, .null, .null, .null, .null, .int 0, .int 0, .int 0, .int 0, .int 0, .int 0, .int 0])), (q_5, .inl (cI, 10, .inl (fun _ => 0)))]) E hw7 hnm inX4 tyX4_ok nmX4 0 0 q_191 rfl rfl (by decide) rfl rfl rfl rfl rfl (Nat.le_of_ble_eq_true rfl) rfl dX4_init_9 (fun H locs hw8 => ?_)
  refine lv_aload_n (pc := 12) E.1 E.2.1 dX4_init_12 rfl (lv_at hl3 0 rfl) ?_
  refine lv_bipush (pc := 13) (v := 10) E.1 E.2.1 dX4_init_13 (by decide +kernel) ?_
  refine x_newI (pc := 15) (N' := 10) (k1 := 2) (n1 := 20) E hw8 q_259 (by decide +kernel) (by decide +kernel) (Nat.le_of_ble_eq_true rfl) (Nat.le_of_ble_eq_true rfl) (Nat.le_of_ble_eq_true rfl) (Nat.le_of_ble_eq_true rfl) (Nat.le_of_ble_eq_true rfl) dX4_init_15 (fun q_9 H hw10 => ?_)
  have hw11 : WD D A s.heap [(h0, .inr (4, [.ref q_5, .null, .null, .null, .null, .int 0, .int 0, .int 0, .int 0, .int 0, .int 0, .int 0])), (q_5, .inl (cI, 10, .inl (fun _ => 0))), (q_9, .inl (cI, 10, .inl (fun _ => 0)))] H _ := hw10
  refine x_putF (pc := 17) (T := TX4) (N := 12) (ci := 4) (ws' := [(h0, .inr (4, [.ref q_5, .ref q_9, .null, .null, .null, .int 0, .int 0, .int 0, .int 0, .int 0, .int 0, .int 0])), (q_5, .inl (cI, 10, .inl (fun _ => 0))), (q_9, .inl (cI, 10, .inl (fun _ => 0)))]) E hw11 hnm inX4 tyX4_ok nmX4 0 1 q_194 rfl rfl (by decide) rfl rfl rfl rfl rfl (Nat.le_of_ble_eq_true rfl) rfl dX4_init_17 (fun H locs hw12 => ?_)
  refine lv_aload_n (pc := 20) E.1 E.2.1 dX4_init_20 rfl (lv_at hl3 0 rfl) ?_
  refine lv_bipush (pc := 21) (v := 10) E.1 E.2.1 dX4_init_21 (by decide +kernel) ?_
  refine x_newI (pc := 23) (N' := 10) (k1 := 3) (n1 := 30) E hw12 q_259 (by decide +kernel) (by decide +kernel) (Nat.le_of_ble_eq_true rfl) (Nat.le_of_ble_eq_true rfl) (Nat.le_of_ble_eq_true rfl) (Nat.le_of_ble_eq_true rfl) (Nat.le_of_ble_eq_true rfl) dX4_init_23 (fun q_13 H hw14 => ?_)
  have hw15 : WD D A s.heap [(h0, .inr (4, [.ref q_5, .ref q_9, .null, .null, .null, .int 0, .int 0, .int 0, .int 0, .int 0, .int 0, .int 0])), (q_5, .inl (cI, 10, .inl (fun _ => 0))), (q_9, .inl (cI, 10, .inl (fun _ => 0))), (q_13, .inl (cI, 10, .inl (fun _ => 0)))] H _ := hw14
  refine x_putF (pc := 25) (T := TX4) (N := 12) (ci := 4) (ws' := [(h0, .inr (4, [.ref q_5, .ref q_9, .ref q_13, .null, .null, .int 0, .int 0, .int 0, .int 0, .int 0, .int 0, .int 0])), (q_5, .inl (cI, 10, .inl (fun _ => 0))), (q_9, .inl (cI, 10, .inl (fun _ => 0))), (q_13, .inl (cI, 10, .inl (fun _ => 0)))]) E hw15 hnm inX4 tyX4_ok nmX4 0 2 q_197 rfl rfl (by decide) rfl rfl rfl rfl rfl (Nat.le_of_ble_eq_true rfl) rfl dX4_init_25 (fun H locs hw16 => ?_)
  refine lv_aload_n (pc := 28) E.1 E.2.1 dX4_init_28 rfl (lv_at hl3 0 rfl) ?_
  refine lv_bipush (pc := 29) (v := 10) E.1 E.2.1 dX4_init_29 (by decide +kernel) ?_
  refine x_newI (pc := 31) (N' := 10) (k1 := 4) (n1 := 40) E hw16 q_259 (by decide +kernel) (by decide +kernel) (Nat.le_of_ble_eq_true rfl) (Nat.le_of_ble_eq_true rfl) (Nat.le_of_ble_eq_true rfl) (Nat.le_of_ble_eq_true rfl) (Nat.le_of_ble_eq_true rfl) dX4_init_31 (fun q_17 H hw18 => ?_)
  have hw19 : WD D A s.heap [(h0, .inr (4, [.ref q_5, .ref q_9, .ref q_13, .null, .null, .int 0, .int 0, .int 0, .int 0, .int 0, .int 0, .int 0])), (q_5, .inl (cI, 10, .inl (fun _ => 0))), (q_9, .inl (cI, 10, .inl (fun _ => 0))), (q_13, .inl (cI, 10, .inl (fun _ => 0))), (q_17, .inl (cI, 10, .inl (fun _ => 0)))] H _ := hw18
  refine x_putF (pc := 33) (T := TX4) (N := 12) (ci := 4) (ws' := [(h0, .inr (4, [.ref q_5, .ref q_9, .ref q_13, .ref q_17, .null, .int 0, .int 0, .int 0, .int 0, .int 0, .int 0, .int 0])), (q_5, .inl (cI, 10, .inl (fun _ => 0))), (q_9, .inl (cI, 10, .inl (fun _ => 0))), (q_13, .inl (cI, 10, .inl (fun _ => 0))), (q_17, .inl (cI, 10, .inl (fun _ => 0)))]) E hw19 hnm inX4 tyX4_ok nmX4 0 3 q_200 rfl rfl (by decide) rfl rfl rfl rfl rfl (Nat.le_of_ble_eq_true rfl) rfl dX4_init_33 (fun H locs hw20 => ?_)
  refine lv_aload_n (pc := 36) E.1 E.2.1 dX4_init_36 rfl (lv_at hl3 0 rfl) ?_
  refine lv_bipush (pc := 37) (v := 10) E.1 E.2.1 dX4_init_37 (by decide +kernel) ?_
  refine x_newI (pc := 39) (N' := 10) (k1 := 5) (n1 := 50) E hw20 q_259 (by decide +kernel) (by decide +kernel) (Nat.le_of_ble_eq_true rfl) (Nat.le_of_ble_eq_true rfl) (Nat.le_of_ble_eq_true rfl) (Nat.le_of_ble_eq_true rfl) (Nat.le_of_ble_eq_true rfl) dX4_init_39 (fun q_21 H hw22 => ?_)
  have hw23 : WD D A s.heap [(h0, .inr (4, [.ref q_5, .ref q_9, .ref q_13, .ref q_17, .null, .int 0, .int 0, .int 0, .int 0, .int 0, .int 0, .int 0])), (q_5, .inl (cI, 10, .inl (fun _ => 0))), (q_9, .inl (cI, 10, .inl (fun _ => 0))), (q_13, .inl (cI, 10, .inl (fun _ => 0))), (q_17, .inl (cI, 10, .inl (fun _ => 0))), (q_21, .inl (cI, 10, .inl (fun _ => 0)))] H _ := hw22
  refine x_putF (pc := 41) (T := TX4) (N := 12) (ci := 4) (ws' := [(h0, .inr (4, [.ref q_5, .ref q_9, .ref q_13, .ref q_17, .ref q_21, .int 0, .int 0, .int 0, .int 0, .int 0, .int 0, .int 0])), (q_5, .inl (cI, 10, .inl (fun _ => 0))), (q_9, .inl (cI, 10, .inl (fun _ => 0))), (q_13, .inl (cI, 10, .inl (fun _ => 0))), (q_17, .inl (cI, 10, .inl (fun _ => 0))), (q_21, .inl (cI, 10, .inl (fun _ => 0)))]) E hw23 hnm inX4 tyX4_ok nmX4 0 4 q_203 rfl rfl (by decide) rfl rfl rfl rfl rfl (Nat.le_of_ble_eq_true rfl) rfl dX4_init_41 (fun H locs hw24 => ?_)
  refine lv_aload_n (pc := 44) E.1 E.2.1 dX4_init_44 rfl (lv_at hl3 0 rfl) ?_
  refine lv_iconst (pc := 45) (v := (-1)) E.1 E.2.1 dX4_init_45 (by decide +kernel) ?_
  refine x_put (pc := 46) (T := TX4) (N := 12) (ci := 4) (ws' := [(h0, .inr (4, [.ref q_5, .ref q_9, .ref q_13, .ref q_17, .ref q_21, .int 0, .int (-1), .int 0, .int 0, .int 0, .int 0, .int 0])), (q_5, .inl (cI, 10, .inl (fun _ => 0))), (q_9, .inl (cI, 10, .inl (fun _ => 0))), (q_13, .inl (cI, 10, .inl (fun _ => 0))), (q_17, .inl (cI, 10, .inl (fun _ => 0))), (q_21, .inl (cI, 10, .inl (fun _ => 0)))]) E hw24 inX4 tyX4_ok nmX4 0 6 q_213 rfl rfl (by decide) rfl rfl rfl rfl (Nat.le_of_ble_eq_true rfl) rfl dX4_init_46 (fun H locs hw25 => ?_)
  refine lv_iconst (pc := 49) (v := 0) E.1 E.2.1 dX4_init_49 (by decide +kernel) ?_
  refine lv_istore_n (pc := 50) (lv' := [(1, .int 0), (0, .ref h0)]) E.1 E.2.1 dX4_init_50 rfl hl3 (by decide) rfl (fun ls hl26 => ?_)
  have loop_28 : ∀ (k i40 : Nat) (g_27 : Nat → Int32) (H : Heap) (locs : List Loc) (ls : Array Slot), 0 ≤ i40 ∧ i40 + k = 10 → WD D A s.heap [(h0, .inr (4, [.ref q_5, .ref q_9, .ref q_13, .ref q_17, .ref q_21, .int 0, .int (-1), .int 0, .int 0, .int 0, .int 0, .int 0])), (q_5, .inl (cI, 10, .inl (fun _ => 0))), (q_9, .inl (cI, 10, .inl (fun _ => 0))), (q_13, .inl (cI, 10, .inl (fun _ => 0))), (q_17, .inl (cI, 10, .inl g_27)), (q_21, .inl (cI, 10, .inl (fun _ => 0)))] H locs → lv_has ls 2 [(1, .int (nI i40)), (0, .ref h0)] → W p l e ({ frames := 1, cells := 5, slots := 50, locals := 40 } : Room) s m ([.ref h0] : List Value).toArray below meth c H locs 5 50 (MQ below (va_Qv (fun (u : (Nat → Nat) × (Nat → Nat → Int32)) => True) (fun u => QW D cI cJ A ((w1_c_X4_init cI cJ h0) u)) A) ([.ref h0] : List Value).toArray s 5 50 A) (F0 m 51 ls []) := by
    intro k
    induction k with
    | zero =>
      intro i40 g_27 H locs ls hi hw29 hl30
      obtain rfl : i40 = 10 := by omega
      refine lv_iload_n (pc := 51) E.1 E.2.1 dX4_init_51 rfl (lv_at hl30 0 rfl) ?_
      refine lv_bipush (pc := 52) (v := 10) E.1 E.2.1 dX4_init_52 (by decide +kernel) ?_
      refine lv_icmp_ge (pc := 54) (tgt := 70) E.1 E.2.1 dX4_init_54 (by decide) (fun _ => ?_) (fun c_31 => absurd (by decide +kernel) c_31)
      refine lv_iconst (pc := 70) (v := 0) E.1 E.2.1 dX4_init_70 (by decide +kernel) ?_
      refine lv_istore_n (pc := 71) (lv' := [(1, .int 0), (0, .ref h0)]) E.1 E.2.1 dX4_init_71 rfl hl30 (by decide) rfl (fun ls hl32 => ?_)
      have loop_34 : ∀ (k i51 : Nat) (g_33 : Nat → Int32) (H : Heap) (locs : List Loc) (ls : Array Slot), 0 ≤ i51 ∧ i51 + k = 10 → WD D A s.heap [(h0, .inr (4, [.ref q_5, .ref q_9, .ref q_13, .ref q_17, .ref q_21, .int 0, .int (-1), .int 0, .int 0, .int 0, .int 0, .int 0])), (q_5, .inl (cI, 10, .inl (fun _ => 0))), (q_9, .inl (cI, 10, .inl (fun _ => 0))), (q_13, .inl (cI, 10, .inl (fun _ => 0))), (q_17, .inl (cI, 10, .inl g_27)), (q_21, .inl (cI, 10, .inl g_33))] H locs → lv_has ls 2 [(1, .int (nI i51)), (0, .ref h0)] → W p l e ({ frames := 1, cells := 5, slots := 50, locals := 40 } : Room) s m ([.ref h0] : List Value).toArray below meth c H locs 5 50 (MQ below (va_Qv (fun (u : (Nat → Nat) × (Nat → Nat → Int32)) => True) (fun u => QW D cI cJ A ((w1_c_X4_init cI cJ h0) u)) A) ([.ref h0] : List Value).toArray s 5 50 A) (F0 m 72 ls []) := by
        intro k
        induction k with
        | zero =>
          intro i51 g_33 H locs ls hi hw35 hl36
          obtain rfl : i51 = 10 := by omega
          refine lv_iload_n (pc := 72) E.1 E.2.1 dX4_init_72 rfl (lv_at hl36 0 rfl) ?_
          refine lv_bipush (pc := 73) (v := 10) E.1 E.2.1 dX4_init_73 (by decide +kernel) ?_
          refine lv_icmp_ge (pc := 75) (tgt := 91) E.1 E.2.1 dX4_init_75 (by decide) (fun _ => ?_) (fun c_37 => absurd (by decide +kernel) c_37)
          exact nd_v  E hr hlk hw35 ((fun k => [q_5, q_9, q_13, q_17, q_21].getD k 0), (fun k => ([g_27, g_33] : List (Nat → Int32)).getD k (fun _ => 0))) trivial [0, 1, 2, 3, 4, 5] rfl (by decide) (Nat.le_of_ble_eq_true rfl) (Nat.le_of_ble_eq_true rfl) dX4_init_91
        | succ k ih =>
          intro i51 g_33 H locs ls hi hw38 hl39
          have hlt : i51 < 10 := by omega
          refine lv_iload_n (pc := 72) E.1 E.2.1 dX4_init_72 rfl (lv_at hl39 0 rfl) ?_
          refine lv_bipush (pc := 73) (v := 10) E.1 E.2.1 dX4_init_73 (by decide +kernel) ?_
          refine lv_icmp_ge (pc := 75) (tgt := 91) E.1 E.2.1 dX4_init_75 (by decide) (fun c_40 => absurd c_40 (nI_ge (a := i51) (b := 10) (by omega) (by omega))) (fun _ => ?_)
          refine lv_aload_n (pc := 78) E.1 E.2.1 dX4_init_78 rfl (lv_at hl39 1 rfl) ?_
          refine x_get (pc := 79) (T := TX4) (N := 12) (ci := 4) E hw38 inX4 0 4 q_203 rfl rfl (by decide) rfl rfl dX4_init_79 ?_
          refine lv_iload_n (pc := 82) E.1 E.2.1 dX4_init_82 rfl (lv_at hl39 0 rfl) ?_
          refine lv_iconst (pc := 83) (v := (-1)) E.1 E.2.1 dX4_init_83 (by decide +kernel) ?_
          refine x_iastO (pc := 84) (wf := fun g => [(h0, .inr (4, [.ref q_5, .ref q_9, .ref q_13, .ref q_17, .ref q_21, .int 0, .int (-1), .int 0, .int 0, .int 0, .int 0, .int 0])), (q_5, .inl (cI, 10, .inl (fun _ => 0))), (q_9, .inl (cI, 10, .inl (fun _ => 0))), (q_13, .inl (cI, 10, .inl (fun _ => 0))), (q_17, .inl (cI, 10, .inl g_27)), (q_21, .inl (cI, 10, .inl g))]) E hw38 5 rfl (vp_in_nI (n := i51) (N := 10) (by omega) (by omega)) (fun _ => rfl) dX4_init_84 (fun f_41 H locs hw42 => ?_)
          refine lv_iinc (pc := 85) (v := (nI (i51 + 1))) (lv' := [(1, .int (nI (i51 + 1))), (0, .ref h0)]) E.1 E.2.1 dX4_init_85 hl39 (k := 0) rfl (show nI i51 + 1 = nI (i51 + 1) from nI_1 i51) (by decide) rfl (fun ls hl43 => ?_)
          refine lv_goto (pc := 88) (tgt := 72) E.1 E.2.1 dX4_init_88 (by decide) ?_
          exact ih (i51 + 1) f_41 _ _ _ (by omega) hw42 (lv_sub hl43 [0, 1] rfl)
      exact loop_34 (10 - 0) 0 (fun _ => 0) _ _ _ (by omega) hw29 (lv_sub hl32 [0, 1] rfl)
    | succ k ih =>
      intro i40 g_27 H locs ls hi hw44 hl45
      have hlt : i40 < 10 := by omega
      refine lv_iload_n (pc := 51) E.1 E.2.1 dX4_init_51 rfl (lv_at hl45 0 rfl) ?_
      refine lv_bipush (pc := 52) (v := 10) E.1 E.2.1 dX4_init_52 (by decide +kernel) ?_
      refine lv_icmp_ge (pc := 54) (tgt := 70) E.1 E.2.1 dX4_init_54 (by decide) (fun c_46 => absurd c_46 (nI_ge (a := i40) (b := 10) (by omega) (by omega))) (fun _ => ?_)
      refine lv_aload_n (pc := 57) E.1 E.2.1 dX4_init_57 rfl (lv_at hl45 1 rfl) ?_
      refine x_get (pc := 58) (T := TX4) (N := 12) (ci := 4) E hw44 inX4 0 3 q_200 rfl rfl (by decide) rfl rfl dX4_init_58 ?_
      refine lv_iload_n (pc := 61) E.1 E.2.1 dX4_init_61 rfl (lv_at hl45 0 rfl) ?_
      refine lv_iconst (pc := 62) (v := (-1)) E.1 E.2.1 dX4_init_62 (by decide +kernel) ?_
      refine x_iastO (pc := 63) (wf := fun g => [(h0, .inr (4, [.ref q_5, .ref q_9, .ref q_13, .ref q_17, .ref q_21, .int 0, .int (-1), .int 0, .int 0, .int 0, .int 0, .int 0])), (q_5, .inl (cI, 10, .inl (fun _ => 0))), (q_9, .inl (cI, 10, .inl (fun _ => 0))), (q_13, .inl (cI, 10, .inl (fun _ => 0))), (q_17, .inl (cI, 10, .inl g)), (q_21, .inl (cI, 10, .inl (fun _ => 0)))]) E hw44 4 rfl (vp_in_nI (n := i40) (N := 10) (by omega) (by omega)) (fun _ => rfl) dX4_init_63 (fun f_47 H locs hw48 => ?_)
      refine lv_iinc (pc := 64) (v := (nI (i40 + 1))) (lv' := [(1, .int (nI (i40 + 1))), (0, .ref h0)]) E.1 E.2.1 dX4_init_64 hl45 (k := 0) rfl (show nI i40 + 1 = nI (i40 + 1) from nI_1 i40) (by decide) rfl (fun ls hl49 => ?_)
      refine lv_goto (pc := 67) (tgt := 51) E.1 E.2.1 dX4_init_67 (by decide) ?_
      exact ih (i40 + 1) f_47 _ _ _ (by omega) hw48 (lv_sub hl49 [0, 1] rfl)
  exact loop_28 (10 - 0) 0 (fun _ => 0) _ _ _ (by omega) hw25 (lv_sub hl26 [0, 1] rfl)
def ws_c_X5_init (cI cJ : ClassId) (h0 : Nat) : va_W := [(h0, .inr (5, [.null, .null, .null, .null, .int 0, .null, .null]))]
def w1_c_X5_init (cI cJ : ClassId) (h0 : Nat) : (Nat → Nat) × (Nat → Nat → Int32) → va_W := fun u => [(h0, .inr (5, [.ref (u.1 0), .ref (u.1 1), .ref (u.1 2), .ref (u.1 3), .int 0, .ref (u.1 4), .ref (u.1 5)])), ((u.1 0), .inl (cI, 40, .inl (fun _ => 0))), ((u.1 1), .inl (cI, 40, .inl (fun _ => 0))), ((u.1 2), .inl (cI, 40, .inl (fun _ => 0))), ((u.1 3), .inl (cI, 40, .inl (fun _ => 0))), ((u.1 4), .inl (cI, 100, .inl (fun _ => 0))), ((u.1 5), .inl (cI, 10, .inl (u.2 0)))]
set_option maxHeartbeats 4000000 in
set_option maxRecDepth 100000 in
theorem c_X5_init (l : Launch) (D : va_G) (cI cJ : ClassId) (sz : Nat) (h0 : Nat)  : Met l yX5_init (Cond.code yX5_init cX5_init 2 none :: GW) ({ frames := 1, cells := 6, slots := 270, locals := 40 } : Room) (va_Pc [.ref h0] (PW D cI cJ sz (ws_c_X5_init cI cJ h0) xT)) (va_Qv (fun (u : (Nat → Nat) × (Nat → Nat → Int32)) => True) (fun u => QW D cI cJ (va_A (ws_c_X5_init cI cJ h0) sz) ((w1_c_X5_init cI cJ h0) u)) (va_A (ws_c_X5_init cI cJ h0) sz)) 6 270 (va_A (ws_c_X5_init cI cJ h0) sz) := by
  refine mk_met (y := yX5_init) (bytes := cX5_init) (maxL := 2) (avs := [.ref h0]) (WS := (ws_c_X5_init cI cJ h0)) (Qf := fun A => va_Qv (fun (u : (Nat → Nat) × (Nat → Nat → Int32)) => True) (fun u => QW D cI cJ A ((w1_c_X5_init cI cJ h0) u)) A) (by decide) (Nat.le_of_ble_eq_true rfl) ?_
  intro p e s m below meth c A ls E hr hlk hnm hX hw1 hl2
  have hl3 : lv_has ls 2 [(0, .ref h0)] := hl2
  have hw4 : WD D A s.heap [(h0, .inr (5, [.null, .null, .null, .null, .int 0, .null, .null]))] s.heap [] := hw1
  refine lv_aload_n (pc := 0) E.1 E.2.1 dX5_init_0 rfl (lv_at hl3 0 rfl) ?_
  refine x_obj (pc := 1) E q_313 q_177 q_178 hl3.1 (Nat.le_of_ble_eq_true rfl) (Nat.le_of_ble_eq_true rfl) dX5_init_1 ?_
  refine lv_aload_n (pc := 4) E.1 E.2.1 dX5_init_4 rfl (lv_at hl3 0 rfl) ?_
  refine lv_bipush (pc := 5) (v := 40) E.1 E.2.1 dX5_init_5 (by decide +kernel) ?_
  refine x_newI (pc := 7) (N' := 40) (k1 := 1) (n1 := 40) E hw4 q_259 (by decide +kernel) (by decide +kernel) (Nat.le_of_ble_eq_true rfl) (Nat.le_of_ble_eq_true rfl) (Nat.le_of_ble_eq_true rfl) (Nat.le_of_ble_eq_true rfl) (Nat.le_of_ble_eq_true rfl) dX5_init_7 (fun q_5 H hw6 => ?_)
  have hw7 : WD D A s.heap [(h0, .inr (5, [.null, .null, .null, .null, .int 0, .null, .null])), (q_5, .inl (cI, 40, .inl (fun _ => 0)))] H _ := hw6
  refine x_putF (pc := 9) (T := TX5) (N := 7) (ci := 5) (ws' := [(h0, .inr (5, [.ref q_5, .null, .null, .null, .int 0, .null, .null])), (q_5, .inl (cI, 40, .inl (fun _ => 0)))]) E hw7 hnm inX5 tyX5_ok nmX5 0 0 q_314 rfl rfl (by decide) rfl rfl rfl rfl rfl (Nat.le_of_ble_eq_true rfl) rfl dX5_init_9 (fun H locs hw8 => ?_)
  refine lv_aload_n (pc := 12) E.1 E.2.1 dX5_init_12 rfl (lv_at hl3 0 rfl) ?_
  refine lv_bipush (pc := 13) (v := 40) E.1 E.2.1 dX5_init_13 (by decide +kernel) ?_
  refine x_newI (pc := 15) (N' := 40) (k1 := 2) (n1 := 80) E hw8 q_259 (by decide +kernel) (by decide +kernel) (Nat.le_of_ble_eq_true rfl) (Nat.le_of_ble_eq_true rfl) (Nat.le_of_ble_eq_true rfl) (Nat.le_of_ble_eq_true rfl) (Nat.le_of_ble_eq_true rfl) dX5_init_15 (fun q_9 H hw10 => ?_)
  have hw11 : WD D A s.heap [(h0, .inr (5, [.ref q_5, .null, .null, .null, .int 0, .null, .null])), (q_5, .inl (cI, 40, .inl (fun _ => 0))), (q_9, .inl (cI, 40, .inl (fun _ => 0)))] H _ := hw10
  refine x_putF (pc := 17) (T := TX5) (N := 7) (ci := 5) (ws' := [(h0, .inr (5, [.ref q_5, .ref q_9, .null, .null, .int 0, .null, .null])), (q_5, .inl (cI, 40, .inl (fun _ => 0))), (q_9, .inl (cI, 40, .inl (fun _ => 0)))]) E hw11 hnm inX5 tyX5_ok nmX5 0 1 q_315 rfl rfl (by decide) rfl rfl rfl rfl rfl (Nat.le_of_ble_eq_true rfl) rfl dX5_init_17 (fun H locs hw12 => ?_)
  refine lv_aload_n (pc := 20) E.1 E.2.1 dX5_init_20 rfl (lv_at hl3 0 rfl) ?_
  refine lv_bipush (pc := 21) (v := 40) E.1 E.2.1 dX5_init_21 (by decide +kernel) ?_
  refine x_newI (pc := 23) (N' := 40) (k1 := 3) (n1 := 120) E hw12 q_259 (by decide +kernel) (by decide +kernel) (Nat.le_of_ble_eq_true rfl) (Nat.le_of_ble_eq_true rfl) (Nat.le_of_ble_eq_true rfl) (Nat.le_of_ble_eq_true rfl) (Nat.le_of_ble_eq_true rfl) dX5_init_23 (fun q_13 H hw14 => ?_)
  have hw15 : WD D A s.heap [(h0, .inr (5, [.ref q_5, .ref q_9, .null, .null, .int 0, .null, .null])), (q_5, .inl (cI, 40, .inl (fun _ => 0))), (q_9, .inl (cI, 40, .inl (fun _ => 0))), (q_13, .inl (cI, 40, .inl (fun _ => 0)))] H _ := hw14
  refine x_putF (pc := 25) (T := TX5) (N := 7) (ci := 5) (ws' := [(h0, .inr (5, [.ref q_5, .ref q_9, .ref q_13, .null, .int 0, .null, .null])), (q_5, .inl (cI, 40, .inl (fun _ => 0))), (q_9, .inl (cI, 40, .inl (fun _ => 0))), (q_13, .inl (cI, 40, .inl (fun _ => 0)))]) E hw15 hnm inX5 tyX5_ok nmX5 0 2 q_316 rfl rfl (by decide) rfl rfl rfl rfl rfl (Nat.le_of_ble_eq_true rfl) rfl dX5_init_25 (fun H locs hw16 => ?_)
  refine lv_aload_n (pc := 28) E.1 E.2.1 dX5_init_28 rfl (lv_at hl3 0 rfl) ?_
  refine lv_bipush (pc := 29) (v := 40) E.1 E.2.1 dX5_init_29 (by decide +kernel) ?_
  refine x_newI (pc := 31) (N' := 40) (k1 := 4) (n1 := 160) E hw16 q_259 (by decide +kernel) (by decide +kernel) (Nat.le_of_ble_eq_true rfl) (Nat.le_of_ble_eq_true rfl) (Nat.le_of_ble_eq_true rfl) (Nat.le_of_ble_eq_true rfl) (Nat.le_of_ble_eq_true rfl) dX5_init_31 (fun q_17 H hw18 => ?_)
  have hw19 : WD D A s.heap [(h0, .inr (5, [.ref q_5, .ref q_9, .ref q_13, .null, .int 0, .null, .null])), (q_5, .inl (cI, 40, .inl (fun _ => 0))), (q_9, .inl (cI, 40, .inl (fun _ => 0))), (q_13, .inl (cI, 40, .inl (fun _ => 0))), (q_17, .inl (cI, 40, .inl (fun _ => 0)))] H _ := hw18
  refine x_putF (pc := 33) (T := TX5) (N := 7) (ci := 5) (ws' := [(h0, .inr (5, [.ref q_5, .ref q_9, .ref q_13, .ref q_17, .int 0, .null, .null])), (q_5, .inl (cI, 40, .inl (fun _ => 0))), (q_9, .inl (cI, 40, .inl (fun _ => 0))), (q_13, .inl (cI, 40, .inl (fun _ => 0))), (q_17, .inl (cI, 40, .inl (fun _ => 0)))]) E hw19 hnm inX5 tyX5_ok nmX5 0 3 q_317 rfl rfl (by decide) rfl rfl rfl rfl rfl (Nat.le_of_ble_eq_true rfl) rfl dX5_init_33 (fun H locs hw20 => ?_)
  refine lv_aload_n (pc := 36) E.1 E.2.1 dX5_init_36 rfl (lv_at hl3 0 rfl) ?_
  refine lv_bipush (pc := 37) (v := 100) E.1 E.2.1 dX5_init_37 (by decide +kernel) ?_
  refine x_newI (pc := 39) (N' := 100) (k1 := 5) (n1 := 260) E hw20 q_259 (by decide +kernel) (by decide +kernel) (Nat.le_of_ble_eq_true rfl) (Nat.le_of_ble_eq_true rfl) (Nat.le_of_ble_eq_true rfl) (Nat.le_of_ble_eq_true rfl) (Nat.le_of_ble_eq_true rfl) dX5_init_39 (fun q_21 H hw22 => ?_)
  have hw23 : WD D A s.heap [(h0, .inr (5, [.ref q_5, .ref q_9, .ref q_13, .ref q_17, .int 0, .null, .null])), (q_5, .inl (cI, 40, .inl (fun _ => 0))), (q_9, .inl (cI, 40, .inl (fun _ => 0))), (q_13, .inl (cI, 40, .inl (fun _ => 0))), (q_17, .inl (cI, 40, .inl (fun _ => 0))), (q_21, .inl (cI, 100, .inl (fun _ => 0)))] H _ := hw22
  refine x_putF (pc := 41) (T := TX5) (N := 7) (ci := 5) (ws' := [(h0, .inr (5, [.ref q_5, .ref q_9, .ref q_13, .ref q_17, .int 0, .ref q_21, .null])), (q_5, .inl (cI, 40, .inl (fun _ => 0))), (q_9, .inl (cI, 40, .inl (fun _ => 0))), (q_13, .inl (cI, 40, .inl (fun _ => 0))), (q_17, .inl (cI, 40, .inl (fun _ => 0))), (q_21, .inl (cI, 100, .inl (fun _ => 0)))]) E hw23 hnm inX5 tyX5_ok nmX5 0 5 q_320 rfl rfl (by decide) rfl rfl rfl rfl rfl (Nat.le_of_ble_eq_true rfl) rfl dX5_init_41 (fun H locs hw24 => ?_)
  refine lv_aload_n (pc := 44) E.1 E.2.1 dX5_init_44 rfl (lv_at hl3 0 rfl) ?_
  refine lv_bipush (pc := 45) (v := 10) E.1 E.2.1 dX5_init_45 (by decide +kernel) ?_
  refine x_newI (pc := 47) (N' := 10) (k1 := 6) (n1 := 270) E hw24 q_259 (by decide +kernel) (by decide +kernel) (Nat.le_of_ble_eq_true rfl) (Nat.le_of_ble_eq_true rfl) (Nat.le_of_ble_eq_true rfl) (Nat.le_of_ble_eq_true rfl) (Nat.le_of_ble_eq_true rfl) dX5_init_47 (fun q_25 H hw26 => ?_)
  have hw27 : WD D A s.heap [(h0, .inr (5, [.ref q_5, .ref q_9, .ref q_13, .ref q_17, .int 0, .ref q_21, .null])), (q_5, .inl (cI, 40, .inl (fun _ => 0))), (q_9, .inl (cI, 40, .inl (fun _ => 0))), (q_13, .inl (cI, 40, .inl (fun _ => 0))), (q_17, .inl (cI, 40, .inl (fun _ => 0))), (q_21, .inl (cI, 100, .inl (fun _ => 0))), (q_25, .inl (cI, 10, .inl (fun _ => 0)))] H _ := hw26
  refine x_putF (pc := 49) (T := TX5) (N := 7) (ci := 5) (ws' := [(h0, .inr (5, [.ref q_5, .ref q_9, .ref q_13, .ref q_17, .int 0, .ref q_21, .ref q_25])), (q_5, .inl (cI, 40, .inl (fun _ => 0))), (q_9, .inl (cI, 40, .inl (fun _ => 0))), (q_13, .inl (cI, 40, .inl (fun _ => 0))), (q_17, .inl (cI, 40, .inl (fun _ => 0))), (q_21, .inl (cI, 100, .inl (fun _ => 0))), (q_25, .inl (cI, 10, .inl (fun _ => 0)))]) E hw27 hnm inX5 tyX5_ok nmX5 0 6 q_321 rfl rfl (by decide) rfl rfl rfl rfl rfl (Nat.le_of_ble_eq_true rfl) rfl dX5_init_49 (fun H locs hw28 => ?_)
  refine lv_iconst (pc := 52) (v := 0) E.1 E.2.1 dX5_init_52 (by decide +kernel) ?_
  refine lv_istore_n (pc := 53) (lv' := [(1, .int 0), (0, .ref h0)]) E.1 E.2.1 dX5_init_53 rfl hl3 (by decide) rfl (fun ls hl29 => ?_)
  have loop_31 : ∀ (k i42 : Nat) (g_30 : Nat → Int32) (H : Heap) (locs : List Loc) (ls : Array Slot), 0 ≤ i42 ∧ i42 + k = 10 → WD D A s.heap [(h0, .inr (5, [.ref q_5, .ref q_9, .ref q_13, .ref q_17, .int 0, .ref q_21, .ref q_25])), (q_5, .inl (cI, 40, .inl (fun _ => 0))), (q_9, .inl (cI, 40, .inl (fun _ => 0))), (q_13, .inl (cI, 40, .inl (fun _ => 0))), (q_17, .inl (cI, 40, .inl (fun _ => 0))), (q_21, .inl (cI, 100, .inl (fun _ => 0))), (q_25, .inl (cI, 10, .inl g_30))] H locs → lv_has ls 2 [(1, .int (nI i42)), (0, .ref h0)] → W p l e ({ frames := 1, cells := 6, slots := 270, locals := 40 } : Room) s m ([.ref h0] : List Value).toArray below meth c H locs 6 270 (MQ below (va_Qv (fun (u : (Nat → Nat) × (Nat → Nat → Int32)) => True) (fun u => QW D cI cJ A ((w1_c_X5_init cI cJ h0) u)) A) ([.ref h0] : List Value).toArray s 6 270 A) (F0 m 54 ls []) := by
    intro k
    induction k with
    | zero =>
      intro i42 g_30 H locs ls hi hw32 hl33
      obtain rfl : i42 = 10 := by omega
      refine lv_iload_n (pc := 54) E.1 E.2.1 dX5_init_54 rfl (lv_at hl33 0 rfl) ?_
      refine lv_bipush (pc := 55) (v := 10) E.1 E.2.1 dX5_init_55 (by decide +kernel) ?_
      refine lv_icmp_ge (pc := 57) (tgt := 73) E.1 E.2.1 dX5_init_57 (by decide) (fun _ => ?_) (fun c_34 => absurd (by decide +kernel) c_34)
      exact nd_v  E hr hlk hw32 ((fun k => [q_5, q_9, q_13, q_17, q_21, q_25].getD k 0), (fun k => ([g_30] : List (Nat → Int32)).getD k (fun _ => 0))) trivial [0, 1, 2, 3, 4, 5, 6] rfl (by decide) (Nat.le_of_ble_eq_true rfl) (Nat.le_of_ble_eq_true rfl) dX5_init_73
    | succ k ih =>
      intro i42 g_30 H locs ls hi hw35 hl36
      have hlt : i42 < 10 := by omega
      refine lv_iload_n (pc := 54) E.1 E.2.1 dX5_init_54 rfl (lv_at hl36 0 rfl) ?_
      refine lv_bipush (pc := 55) (v := 10) E.1 E.2.1 dX5_init_55 (by decide +kernel) ?_
      refine lv_icmp_ge (pc := 57) (tgt := 73) E.1 E.2.1 dX5_init_57 (by decide) (fun c_37 => absurd c_37 (nI_ge (a := i42) (b := 10) (by omega) (by omega))) (fun _ => ?_)
      refine lv_aload_n (pc := 60) E.1 E.2.1 dX5_init_60 rfl (lv_at hl36 1 rfl) ?_
      refine x_get (pc := 61) (T := TX5) (N := 7) (ci := 5) E hw35 inX5 0 6 q_321 rfl rfl (by decide) rfl rfl dX5_init_61 ?_
      refine lv_iload_n (pc := 64) E.1 E.2.1 dX5_init_64 rfl (lv_at hl36 0 rfl) ?_
      refine lv_iconst (pc := 65) (v := (-1)) E.1 E.2.1 dX5_init_65 (by decide +kernel) ?_
      refine x_iastO (pc := 66) (wf := fun g => [(h0, .inr (5, [.ref q_5, .ref q_9, .ref q_13, .ref q_17, .int 0, .ref q_21, .ref q_25])), (q_5, .inl (cI, 40, .inl (fun _ => 0))), (q_9, .inl (cI, 40, .inl (fun _ => 0))), (q_13, .inl (cI, 40, .inl (fun _ => 0))), (q_17, .inl (cI, 40, .inl (fun _ => 0))), (q_21, .inl (cI, 100, .inl (fun _ => 0))), (q_25, .inl (cI, 10, .inl g))]) E hw35 6 rfl (vp_in_nI (n := i42) (N := 10) (by omega) (by omega)) (fun _ => rfl) dX5_init_66 (fun f_38 H locs hw39 => ?_)
      refine lv_iinc (pc := 67) (v := (nI (i42 + 1))) (lv' := [(1, .int (nI (i42 + 1))), (0, .ref h0)]) E.1 E.2.1 dX5_init_67 hl36 (k := 0) rfl (show nI i42 + 1 = nI (i42 + 1) from nI_1 i42) (by decide) rfl (fun ls hl40 => ?_)
      refine lv_goto (pc := 70) (tgt := 54) E.1 E.2.1 dX5_init_70 (by decide) ?_
      exact ih (i42 + 1) f_38 _ _ _ (by omega) hw39 (lv_sub hl40 [0, 1] rfl)
  exact loop_31 (10 - 0) 0 (fun _ => 0) _ _ _ (by omega) hw28 (lv_sub hl29 [0, 1] rfl)
def ws_c_X7_init (cI cJ : ClassId) (h0 : Nat) : va_W := [(h0, .inr (7, [.null, .int 0, .null, .null, .int 0]))]
def w1_c_X7_init (cI cJ : ClassId) (h0 : Nat) : Nat × Nat × Nat → va_W := fun u => [(h0, .inr (7, [.ref u.1, .int 0, .ref u.2.1, .ref u.2.2, .int 0])), (u.1, .inl (cI, 200, .inl (fun _ => 0))), (u.2.1, .inl (cI, 4, .inl (fun _ => 0))), (u.2.2, .inl (cI, 4, .inl (fun _ => 0)))]
set_option maxHeartbeats 4000000 in
set_option maxRecDepth 100000 in
theorem c_X7_init (l : Launch) (D : va_G) (cI cJ : ClassId) (sz : Nat) (h0 : Nat)  : Met l yX7_init (Cond.code yX7_init cX7_init 1 none :: GW) ({ frames := 1, cells := 3, slots := 208, locals := 40 } : Room) (va_Pc [.ref h0] (PW D cI cJ sz (ws_c_X7_init cI cJ h0) xT)) (va_Qv (fun (u : Nat × Nat × Nat) => True) (fun u => QW D cI cJ (va_A (ws_c_X7_init cI cJ h0) sz) ((w1_c_X7_init cI cJ h0) u)) (va_A (ws_c_X7_init cI cJ h0) sz)) 3 208 (va_A (ws_c_X7_init cI cJ h0) sz) := by
  refine mk_met (y := yX7_init) (bytes := cX7_init) (maxL := 1) (avs := [.ref h0]) (WS := (ws_c_X7_init cI cJ h0)) (Qf := fun A => va_Qv (fun (u : Nat × Nat × Nat) => True) (fun u => QW D cI cJ A ((w1_c_X7_init cI cJ h0) u)) A) (by decide) (Nat.le_of_ble_eq_true rfl) ?_
  intro p e s m below meth c A ls E hr hlk hnm hX hw1 hl2
  have hl3 : lv_has ls 1 [(0, .ref h0)] := hl2
  have hw4 : WD D A s.heap [(h0, .inr (7, [.null, .int 0, .null, .null, .int 0]))] s.heap [] := hw1
  refine lv_aload_n (pc := 0) E.1 E.2.1 dX7_init_0 rfl (lv_at hl3 0 rfl) ?_
  refine x_obj (pc := 1) E q_418 q_177 q_178 hl3.1 (Nat.le_of_ble_eq_true rfl) (Nat.le_of_ble_eq_true rfl) dX7_init_1 ?_
  refine lv_aload_n (pc := 4) E.1 E.2.1 dX7_init_4 rfl (lv_at hl3 0 rfl) ?_
  refine lv_sipush (pc := 5) (v := 200) E.1 E.2.1 dX7_init_5 (by decide +kernel) ?_
  refine x_newI (pc := 8) (N' := 200) (k1 := 1) (n1 := 200) E hw4 q_259 (by decide +kernel) (by decide +kernel) (Nat.le_of_ble_eq_true rfl) (Nat.le_of_ble_eq_true rfl) (Nat.le_of_ble_eq_true rfl) (Nat.le_of_ble_eq_true rfl) (Nat.le_of_ble_eq_true rfl) dX7_init_8 (fun q_5 H hw6 => ?_)
  have hw7 : WD D A s.heap [(h0, .inr (7, [.null, .int 0, .null, .null, .int 0])), (q_5, .inl (cI, 200, .inl (fun _ => 0)))] H _ := hw6
  refine x_putF (pc := 10) (T := TX7) (N := 5) (ci := 7) (ws' := [(h0, .inr (7, [.ref q_5, .int 0, .null, .null, .int 0])), (q_5, .inl (cI, 200, .inl (fun _ => 0)))]) E hw7 hnm inX7 tyX7_ok nmX7 0 0 q_419 rfl rfl (by decide) rfl rfl rfl rfl rfl (Nat.le_of_ble_eq_true rfl) rfl dX7_init_10 (fun H locs hw8 => ?_)
  refine lv_aload_n (pc := 13) E.1 E.2.1 dX7_init_13 rfl (lv_at hl3 0 rfl) ?_
  refine lv_iconst (pc := 14) (v := 4) E.1 E.2.1 dX7_init_14 (by decide +kernel) ?_
  refine x_newI (pc := 15) (N' := 4) (k1 := 2) (n1 := 204) E hw8 q_259 (by decide +kernel) (by decide +kernel) (Nat.le_of_ble_eq_true rfl) (Nat.le_of_ble_eq_true rfl) (Nat.le_of_ble_eq_true rfl) (Nat.le_of_ble_eq_true rfl) (Nat.le_of_ble_eq_true rfl) dX7_init_15 (fun q_9 H hw10 => ?_)
  have hw11 : WD D A s.heap [(h0, .inr (7, [.ref q_5, .int 0, .null, .null, .int 0])), (q_5, .inl (cI, 200, .inl (fun _ => 0))), (q_9, .inl (cI, 4, .inl (fun _ => 0)))] H _ := hw10
  refine x_putF (pc := 17) (T := TX7) (N := 5) (ci := 7) (ws' := [(h0, .inr (7, [.ref q_5, .int 0, .ref q_9, .null, .int 0])), (q_5, .inl (cI, 200, .inl (fun _ => 0))), (q_9, .inl (cI, 4, .inl (fun _ => 0)))]) E hw11 hnm inX7 tyX7_ok nmX7 0 2 q_424 rfl rfl (by decide) rfl rfl rfl rfl rfl (Nat.le_of_ble_eq_true rfl) rfl dX7_init_17 (fun H locs hw12 => ?_)
  refine lv_aload_n (pc := 20) E.1 E.2.1 dX7_init_20 rfl (lv_at hl3 0 rfl) ?_
  refine lv_iconst (pc := 21) (v := 4) E.1 E.2.1 dX7_init_21 (by decide +kernel) ?_
  refine x_newI (pc := 22) (N' := 4) (k1 := 3) (n1 := 208) E hw12 q_259 (by decide +kernel) (by decide +kernel) (Nat.le_of_ble_eq_true rfl) (Nat.le_of_ble_eq_true rfl) (Nat.le_of_ble_eq_true rfl) (Nat.le_of_ble_eq_true rfl) (Nat.le_of_ble_eq_true rfl) dX7_init_22 (fun q_13 H hw14 => ?_)
  have hw15 : WD D A s.heap [(h0, .inr (7, [.ref q_5, .int 0, .ref q_9, .null, .int 0])), (q_5, .inl (cI, 200, .inl (fun _ => 0))), (q_9, .inl (cI, 4, .inl (fun _ => 0))), (q_13, .inl (cI, 4, .inl (fun _ => 0)))] H _ := hw14
  refine x_putF (pc := 24) (T := TX7) (N := 5) (ci := 7) (ws' := [(h0, .inr (7, [.ref q_5, .int 0, .ref q_9, .ref q_13, .int 0])), (q_5, .inl (cI, 200, .inl (fun _ => 0))), (q_9, .inl (cI, 4, .inl (fun _ => 0))), (q_13, .inl (cI, 4, .inl (fun _ => 0)))]) E hw15 hnm inX7 tyX7_ok nmX7 0 3 q_425 rfl rfl (by decide) rfl rfl rfl rfl rfl (Nat.le_of_ble_eq_true rfl) rfl dX7_init_24 (fun H locs hw16 => ?_)
  exact nd_v  E hr hlk hw16 (q_5, q_9, q_13) trivial [0, 1, 2, 3] rfl (by decide) (Nat.le_of_ble_eq_true rfl) (Nat.le_of_ble_eq_true rfl) dX7_init_27
def ws_c_X8_init (cI cJ : ClassId) (h0 : Nat) (qs : Nat → Nat) : va_W := [(h0, .inr (8, [.null, .int 0, .null, .int 0, .int 0, .int 0, .int 0, .int 0, .int 0]))]
def w1_c_X8_init (cI cJ : ClassId) (h0 : Nat) (qs : Nat → Nat) : Nat → va_W := fun u => [(h0, .inr (8, [.ref u, .int 0, .ref (qs 5), .int 0, .int 0, .int 0, .int 0, .int 0, .int (-1)])), (u, .inl (cI, 400, .inl (fun _ => 0)))]
set_option maxHeartbeats 4000000 in
set_option maxRecDepth 100000 in
theorem c_X8_init (l : Launch) (D : va_G) (cI cJ : ClassId) (sz : Nat) (h0 : Nat) (qs : Nat → Nat)  : Met l yX8_init (Cond.code yX8_init cX8_init 1 none :: GW) ({ frames := 1, cells := 1, slots := 400, locals := 40 } : Room) (va_Pc [.ref h0] (PW D cI cJ sz (ws_c_X8_init cI cJ h0 qs) (xW qs))) (va_Qv (fun (u : Nat) => True) (fun u => QW D cI cJ (va_A (ws_c_X8_init cI cJ h0 qs) sz) ((w1_c_X8_init cI cJ h0 qs) u)) (va_A (ws_c_X8_init cI cJ h0 qs) sz)) 1 400 (va_A (ws_c_X8_init cI cJ h0 qs) sz) := by
  refine mk_met (y := yX8_init) (bytes := cX8_init) (maxL := 1) (avs := [.ref h0]) (WS := (ws_c_X8_init cI cJ h0 qs)) (Qf := fun A => va_Qv (fun (u : Nat) => True) (fun u => QW D cI cJ A ((w1_c_X8_init cI cJ h0 qs) u)) A) (by decide) (Nat.le_of_ble_eq_true rfl) ?_
  intro p e s m below meth c A ls E hr hlk hnm hX hw1 hl2
  have hl3 : lv_has ls 1 [(0, .ref h0)] := hl2
  have hw4 : WD D A s.heap [(h0, .inr (8, [.null, .int 0, .null, .int 0, .int 0, .int 0, .int 0, .int 0, .int 0]))] s.heap [] := hw1
  refine lv_aload_n (pc := 0) E.1 E.2.1 dX8_init_0 rfl (lv_at hl3 0 rfl) ?_
  refine x_obj (pc := 1) E q_535 q_177 q_178 hl3.1 (Nat.le_of_ble_eq_true rfl) (Nat.le_of_ble_eq_true rfl) dX8_init_1 ?_
  refine lv_aload_n (pc := 4) E.1 E.2.1 dX8_init_4 rfl (lv_at hl3 0 rfl) ?_
  refine lv_sipush (pc := 5) (v := 400) E.1 E.2.1 dX8_init_5 (by decide +kernel) ?_
  refine x_newI (pc := 8) (N' := 400) (k1 := 1) (n1 := 400) E hw4 q_259 (by decide +kernel) (by decide +kernel) (Nat.le_of_ble_eq_true rfl) (Nat.le_of_ble_eq_true rfl) (Nat.le_of_ble_eq_true rfl) (Nat.le_of_ble_eq_true rfl) (Nat.le_of_ble_eq_true rfl) dX8_init_8 (fun q_5 H hw6 => ?_)
  have hw7 : WD D A s.heap [(h0, .inr (8, [.null, .int 0, .null, .int 0, .int 0, .int 0, .int 0, .int 0, .int 0])), (q_5, .inl (cI, 400, .inl (fun _ => 0)))] H _ := hw6
  refine x_putF (pc := 10) (T := TX8) (N := 9) (ci := 8) (ws' := [(h0, .inr (8, [.ref q_5, .int 0, .null, .int 0, .int 0, .int 0, .int 0, .int 0, .int 0])), (q_5, .inl (cI, 400, .inl (fun _ => 0)))]) E hw7 hnm inX8 tyX8_ok nmX8 0 0 q_537 rfl rfl (by decide) rfl rfl rfl rfl rfl (Nat.le_of_ble_eq_true rfl) rfl dX8_init_10 (fun H locs hw8 => ?_)
  refine lv_aload_n (pc := 13) E.1 E.2.1 dX8_init_13 rfl (lv_at hl3 0 rfl) ?_
  refine va_ldcS (pc := 14) E.1 E.2.1 E.2.2.2.1 (xW_5 hX) dX8_init_14 ?_
  refine x_put (pc := 16) (T := TX8) (N := 9) (ci := 8) (ws' := [(h0, .inr (8, [.ref q_5, .int 0, .ref (qs 5), .int 0, .int 0, .int 0, .int 0, .int 0, .int 0])), (q_5, .inl (cI, 400, .inl (fun _ => 0)))]) E hw8 inX8 tyX8_ok nmX8 0 2 q_540 rfl rfl (by decide) rfl rfl rfl rfl (Nat.le_of_ble_eq_true rfl) rfl dX8_init_16 (fun H locs hw9 => ?_)
  refine lv_aload_n (pc := 19) E.1 E.2.1 dX8_init_19 rfl (lv_at hl3 0 rfl) ?_
  refine lv_iconst (pc := 20) (v := (-1)) E.1 E.2.1 dX8_init_20 (by decide +kernel) ?_
  refine x_put (pc := 21) (T := TX8) (N := 9) (ci := 8) (ws' := [(h0, .inr (8, [.ref q_5, .int 0, .ref (qs 5), .int 0, .int 0, .int 0, .int 0, .int 0, .int (-1)])), (q_5, .inl (cI, 400, .inl (fun _ => 0)))]) E hw9 inX8 tyX8_ok nmX8 0 8 q_556 rfl rfl (by decide) rfl rfl rfl rfl (Nat.le_of_ble_eq_true rfl) rfl dX8_init_21 (fun H locs hw10 => ?_)
  exact nd_v  E hr hlk hw10 q_5 trivial [0, 1] rfl (by decide) (Nat.le_of_ble_eq_true rfl) (Nat.le_of_ble_eq_true rfl) dX8_init_24
def ws_c_X9_init (cI cJ : ClassId) (h0 : Nat) : va_W := [(h0, .inr (9, [.null, .null, .null]))]
def w1_c_X9_init (cI cJ : ClassId) (h0 : Nat) : Nat × Nat × Nat → va_W := fun u => [(h0, .inr (9, [.ref u.1, .ref u.2.1, .ref u.2.2])), (u.1, .inl (cJ, 100, .inr (.inl (fun _ => 0)))), (u.2.1, .inl (cJ, 100, .inr (.inl (fun _ => 0)))), (u.2.2, .inl (cI, 10, .inl (fun _ => 0)))]
set_option maxHeartbeats 4000000 in
set_option maxRecDepth 100000 in
theorem c_X9_init (l : Launch) (D : va_G) (cI cJ : ClassId) (sz : Nat) (h0 : Nat)  : Met l yX9_init (Cond.code yX9_init cX9_init 1 none :: GW) ({ frames := 1, cells := 3, slots := 210, locals := 40 } : Room) (va_Pc [.ref h0] (PW D cI cJ sz (ws_c_X9_init cI cJ h0) xT)) (va_Qv (fun (u : Nat × Nat × Nat) => True) (fun u => QW D cI cJ (va_A (ws_c_X9_init cI cJ h0) sz) ((w1_c_X9_init cI cJ h0) u)) (va_A (ws_c_X9_init cI cJ h0) sz)) 3 210 (va_A (ws_c_X9_init cI cJ h0) sz) := by
  refine mk_met (y := yX9_init) (bytes := cX9_init) (maxL := 1) (avs := [.ref h0]) (WS := (ws_c_X9_init cI cJ h0)) (Qf := fun A => va_Qv (fun (u : Nat × Nat × Nat) => True) (fun u => QW D cI cJ A ((w1_c_X9_init cI cJ h0) u)) A) (by decide) (Nat.le_of_ble_eq_true rfl) ?_
  intro p e s m below meth c A ls E hr hlk hnm hX hw1 hl2
  have hl3 : lv_has ls 1 [(0, .ref h0)] := hl2
  have hw4 : WD D A s.heap [(h0, .inr (9, [.null, .null, .null]))] s.heap [] := hw1
  refine lv_aload_n (pc := 0) E.1 E.2.1 dX9_init_0 rfl (lv_at hl3 0 rfl) ?_
  refine x_obj (pc := 1) E q_593 q_177 q_178 hl3.1 (Nat.le_of_ble_eq_true rfl) (Nat.le_of_ble_eq_true rfl) dX9_init_1 ?_
  refine lv_aload_n (pc := 4) E.1 E.2.1 dX9_init_4 rfl (lv_at hl3 0 rfl) ?_
  refine lv_bipush (pc := 5) (v := 100) E.1 E.2.1 dX9_init_5 (by decide +kernel) ?_
  refine x_newJ (pc := 7) (N' := 100) (k1 := 1) (n1 := 100) E hw4 q_604 (by decide +kernel) (by decide +kernel) (Nat.le_of_ble_eq_true rfl) (Nat.le_of_ble_eq_true rfl) (Nat.le_of_ble_eq_true rfl) (Nat.le_of_ble_eq_true rfl) (Nat.le_of_ble_eq_true rfl) dX9_init_7 (fun q_5 H hw6 => ?_)
  have hw7 : WD D A s.heap [(h0, .inr (9, [.null, .null, .null])), (q_5, .inl (cJ, 100, .inr (.inl (fun _ => 0))))] H _ := hw6
  refine x_putF (pc := 9) (T := TX9) (N := 3) (ci := 9) (ws' := [(h0, .inr (9, [.ref q_5, .null, .null])), (q_5, .inl (cJ, 100, .inr (.inl (fun _ => 0))))]) E hw7 hnm inX9 tyX9_ok nmX9 0 0 q_594 rfl rfl (by decide) rfl rfl rfl rfl rfl (Nat.le_of_ble_eq_true rfl) rfl dX9_init_9 (fun H locs hw8 => ?_)
  refine lv_aload_n (pc := 12) E.1 E.2.1 dX9_init_12 rfl (lv_at hl3 0 rfl) ?_
  refine lv_bipush (pc := 13) (v := 100) E.1 E.2.1 dX9_init_13 (by decide +kernel) ?_
  refine x_newJ (pc := 15) (N' := 100) (k1 := 2) (n1 := 200) E hw8 q_604 (by decide +kernel) (by decide +kernel) (Nat.le_of_ble_eq_true rfl) (Nat.le_of_ble_eq_true rfl) (Nat.le_of_ble_eq_true rfl) (Nat.le_of_ble_eq_true rfl) (Nat.le_of_ble_eq_true rfl) dX9_init_15 (fun q_9 H hw10 => ?_)
  have hw11 : WD D A s.heap [(h0, .inr (9, [.ref q_5, .null, .null])), (q_5, .inl (cJ, 100, .inr (.inl (fun _ => 0)))), (q_9, .inl (cJ, 100, .inr (.inl (fun _ => 0))))] H _ := hw10
  refine x_putF (pc := 17) (T := TX9) (N := 3) (ci := 9) (ws' := [(h0, .inr (9, [.ref q_5, .ref q_9, .null])), (q_5, .inl (cJ, 100, .inr (.inl (fun _ => 0)))), (q_9, .inl (cJ, 100, .inr (.inl (fun _ => 0))))]) E hw11 hnm inX9 tyX9_ok nmX9 0 1 q_595 rfl rfl (by decide) rfl rfl rfl rfl rfl (Nat.le_of_ble_eq_true rfl) rfl dX9_init_17 (fun H locs hw12 => ?_)
  refine lv_aload_n (pc := 20) E.1 E.2.1 dX9_init_20 rfl (lv_at hl3 0 rfl) ?_
  refine lv_bipush (pc := 21) (v := 10) E.1 E.2.1 dX9_init_21 (by decide +kernel) ?_
  refine x_newI (pc := 23) (N' := 10) (k1 := 3) (n1 := 210) E hw12 q_259 (by decide +kernel) (by decide +kernel) (Nat.le_of_ble_eq_true rfl) (Nat.le_of_ble_eq_true rfl) (Nat.le_of_ble_eq_true rfl) (Nat.le_of_ble_eq_true rfl) (Nat.le_of_ble_eq_true rfl) dX9_init_23 (fun q_13 H hw14 => ?_)
  have hw15 : WD D A s.heap [(h0, .inr (9, [.ref q_5, .ref q_9, .null])), (q_5, .inl (cJ, 100, .inr (.inl (fun _ => 0)))), (q_9, .inl (cJ, 100, .inr (.inl (fun _ => 0)))), (q_13, .inl (cI, 10, .inl (fun _ => 0)))] H _ := hw14
  refine x_putF (pc := 25) (T := TX9) (N := 3) (ci := 9) (ws' := [(h0, .inr (9, [.ref q_5, .ref q_9, .ref q_13])), (q_5, .inl (cJ, 100, .inr (.inl (fun _ => 0)))), (q_9, .inl (cJ, 100, .inr (.inl (fun _ => 0)))), (q_13, .inl (cI, 10, .inl (fun _ => 0)))]) E hw15 hnm inX9 tyX9_ok nmX9 0 2 q_596 rfl rfl (by decide) rfl rfl rfl rfl rfl (Nat.le_of_ble_eq_true rfl) rfl dX9_init_25 (fun H locs hw16 => ?_)
  exact nd_v  E hr hlk hw16 (q_5, q_9, q_13) trivial [0, 1, 2, 3] rfl (by decide) (Nat.le_of_ble_eq_true rfl) (Nat.le_of_ble_eq_true rfl) dX9_init_28
def ws_c_X6_init (cI cJ : ClassId) (h0 : Nat) : va_W := [(h0, .inr (6, [.int 0, .int 0, .long 0, .null, .null, .null, .null, .int 0, .null, .null]))]
def w1_c_X6_init (cI cJ : ClassId) (h0 : Nat) : Nat × Nat × Nat × Nat × Nat × Nat → va_W := fun u => [(h0, .inr (6, [.int 0, .int 0, .long 0, .ref u.1, .ref u.2.1, .ref u.2.2.1, .ref u.2.2.2.1, .int 0, .ref u.2.2.2.2.1, .ref u.2.2.2.2.2])), (u.1, .inl (cJ, 10240, .inr (.inl (fun _ => 0)))), (u.2.1, .inl (cJ, 10, .inr (.inl (fun _ => 0)))), (u.2.2.1, .inl (cI, 100, .inl (fun _ => 0))), (u.2.2.2.1, .inl (cI, 10, .inl (fun _ => 0))), (u.2.2.2.2.1, .inl (cI, 10, .inl (fun _ => 0))), (u.2.2.2.2.2, .inl (cI, 10, .inl (fun _ => 0)))]
set_option maxHeartbeats 4000000 in
set_option maxRecDepth 100000 in
theorem c_X6_init (l : Launch) (D : va_G) (cI cJ : ClassId) (sz : Nat) (h0 : Nat)  : Met l yX6_init (Cond.code yX6_init cX6_init 1 none :: GW) ({ frames := 1, cells := 6, slots := 10380, locals := 40 } : Room) (va_Pc [.ref h0] (PW D cI cJ sz (ws_c_X6_init cI cJ h0) xT)) (va_Qv (fun (u : Nat × Nat × Nat × Nat × Nat × Nat) => True) (fun u => QW D cI cJ (va_A (ws_c_X6_init cI cJ h0) sz) ((w1_c_X6_init cI cJ h0) u)) (va_A (ws_c_X6_init cI cJ h0) sz)) 6 10380 (va_A (ws_c_X6_init cI cJ h0) sz) := by
  refine mk_met (y := yX6_init) (bytes := cX6_init) (maxL := 1) (avs := [.ref h0]) (WS := (ws_c_X6_init cI cJ h0)) (Qf := fun A => va_Qv (fun (u : Nat × Nat × Nat × Nat × Nat × Nat) => True) (fun u => QW D cI cJ A ((w1_c_X6_init cI cJ h0) u)) A) (by decide) (Nat.le_of_ble_eq_true rfl) ?_
  intro p e s m below meth c A ls E hr hlk hnm hX hw1 hl2
  have hl3 : lv_has ls 1 [(0, .ref h0)] := hl2
  have hw4 : WD D A s.heap [(h0, .inr (6, [.int 0, .int 0, .long 0, .null, .null, .null, .null, .int 0, .null, .null]))] s.heap [] := hw1
  refine lv_aload_n (pc := 0) E.1 E.2.1 dX6_init_0 rfl (lv_at hl3 0 rfl) ?_
  refine x_obj (pc := 1) E q_1159 q_177 q_178 hl3.1 (Nat.le_of_ble_eq_true rfl) (Nat.le_of_ble_eq_true rfl) dX6_init_1 ?_
  refine lv_aload_n (pc := 4) E.1 E.2.1 dX6_init_4 rfl (lv_at hl3 0 rfl) ?_
  refine lv_sipush (pc := 5) (v := 10240) E.1 E.2.1 dX6_init_5 (by decide +kernel) ?_
  refine x_newJ (pc := 8) (N' := 10240) (k1 := 1) (n1 := 10240) E hw4 q_604 (by decide +kernel) (by decide +kernel) (Nat.le_of_ble_eq_true rfl) (Nat.le_of_ble_eq_true rfl) (Nat.le_of_ble_eq_true rfl) (Nat.le_of_ble_eq_true rfl) (Nat.le_of_ble_eq_true rfl) dX6_init_8 (fun q_5 H hw6 => ?_)
  have hw7 : WD D A s.heap [(h0, .inr (6, [.int 0, .int 0, .long 0, .null, .null, .null, .null, .int 0, .null, .null])), (q_5, .inl (cJ, 10240, .inr (.inl (fun _ => 0))))] H _ := hw6
  refine x_putF (pc := 10) (T := TX6) (N := 10) (ci := 6) (ws' := [(h0, .inr (6, [.int 0, .int 0, .long 0, .ref q_5, .null, .null, .null, .int 0, .null, .null])), (q_5, .inl (cJ, 10240, .inr (.inl (fun _ => 0))))]) E hw7 hnm inX6 tyX6_ok nmX6 0 3 q_1165 rfl rfl (by decide) rfl rfl rfl rfl rfl (Nat.le_of_ble_eq_true rfl) rfl dX6_init_10 (fun H locs hw8 => ?_)
  refine lv_aload_n (pc := 13) E.1 E.2.1 dX6_init_13 rfl (lv_at hl3 0 rfl) ?_
  refine lv_bipush (pc := 14) (v := 10) E.1 E.2.1 dX6_init_14 (by decide +kernel) ?_
  refine x_newJ (pc := 16) (N' := 10) (k1 := 2) (n1 := 10250) E hw8 q_604 (by decide +kernel) (by decide +kernel) (Nat.le_of_ble_eq_true rfl) (Nat.le_of_ble_eq_true rfl) (Nat.le_of_ble_eq_true rfl) (Nat.le_of_ble_eq_true rfl) (Nat.le_of_ble_eq_true rfl) dX6_init_16 (fun q_9 H hw10 => ?_)
  have hw11 : WD D A s.heap [(h0, .inr (6, [.int 0, .int 0, .long 0, .ref q_5, .null, .null, .null, .int 0, .null, .null])), (q_5, .inl (cJ, 10240, .inr (.inl (fun _ => 0)))), (q_9, .inl (cJ, 10, .inr (.inl (fun _ => 0))))] H _ := hw10
  refine x_putF (pc := 18) (T := TX6) (N := 10) (ci := 6) (ws' := [(h0, .inr (6, [.int 0, .int 0, .long 0, .ref q_5, .ref q_9, .null, .null, .int 0, .null, .null])), (q_5, .inl (cJ, 10240, .inr (.inl (fun _ => 0)))), (q_9, .inl (cJ, 10, .inr (.inl (fun _ => 0))))]) E hw11 hnm inX6 tyX6_ok nmX6 0 4 q_1166 rfl rfl (by decide) rfl rfl rfl rfl rfl (Nat.le_of_ble_eq_true rfl) rfl dX6_init_18 (fun H locs hw12 => ?_)
  refine lv_aload_n (pc := 21) E.1 E.2.1 dX6_init_21 rfl (lv_at hl3 0 rfl) ?_
  refine lv_bipush (pc := 22) (v := 100) E.1 E.2.1 dX6_init_22 (by decide +kernel) ?_
  refine x_newI (pc := 24) (N' := 100) (k1 := 3) (n1 := 10350) E hw12 q_259 (by decide +kernel) (by decide +kernel) (Nat.le_of_ble_eq_true rfl) (Nat.le_of_ble_eq_true rfl) (Nat.le_of_ble_eq_true rfl) (Nat.le_of_ble_eq_true rfl) (Nat.le_of_ble_eq_true rfl) dX6_init_24 (fun q_13 H hw14 => ?_)
  have hw15 : WD D A s.heap [(h0, .inr (6, [.int 0, .int 0, .long 0, .ref q_5, .ref q_9, .null, .null, .int 0, .null, .null])), (q_5, .inl (cJ, 10240, .inr (.inl (fun _ => 0)))), (q_9, .inl (cJ, 10, .inr (.inl (fun _ => 0)))), (q_13, .inl (cI, 100, .inl (fun _ => 0)))] H _ := hw14
  refine x_putF (pc := 26) (T := TX6) (N := 10) (ci := 6) (ws' := [(h0, .inr (6, [.int 0, .int 0, .long 0, .ref q_5, .ref q_9, .ref q_13, .null, .int 0, .null, .null])), (q_5, .inl (cJ, 10240, .inr (.inl (fun _ => 0)))), (q_9, .inl (cJ, 10, .inr (.inl (fun _ => 0)))), (q_13, .inl (cI, 100, .inl (fun _ => 0)))]) E hw15 hnm inX6 tyX6_ok nmX6 0 5 q_1167 rfl rfl (by decide) rfl rfl rfl rfl rfl (Nat.le_of_ble_eq_true rfl) rfl dX6_init_26 (fun H locs hw16 => ?_)
  refine lv_aload_n (pc := 29) E.1 E.2.1 dX6_init_29 rfl (lv_at hl3 0 rfl) ?_
  refine lv_bipush (pc := 30) (v := 10) E.1 E.2.1 dX6_init_30 (by decide +kernel) ?_
  refine x_newI (pc := 32) (N' := 10) (k1 := 4) (n1 := 10360) E hw16 q_259 (by decide +kernel) (by decide +kernel) (Nat.le_of_ble_eq_true rfl) (Nat.le_of_ble_eq_true rfl) (Nat.le_of_ble_eq_true rfl) (Nat.le_of_ble_eq_true rfl) (Nat.le_of_ble_eq_true rfl) dX6_init_32 (fun q_17 H hw18 => ?_)
  have hw19 : WD D A s.heap [(h0, .inr (6, [.int 0, .int 0, .long 0, .ref q_5, .ref q_9, .ref q_13, .null, .int 0, .null, .null])), (q_5, .inl (cJ, 10240, .inr (.inl (fun _ => 0)))), (q_9, .inl (cJ, 10, .inr (.inl (fun _ => 0)))), (q_13, .inl (cI, 100, .inl (fun _ => 0))), (q_17, .inl (cI, 10, .inl (fun _ => 0)))] H _ := hw18
  refine x_putF (pc := 34) (T := TX6) (N := 10) (ci := 6) (ws' := [(h0, .inr (6, [.int 0, .int 0, .long 0, .ref q_5, .ref q_9, .ref q_13, .ref q_17, .int 0, .null, .null])), (q_5, .inl (cJ, 10240, .inr (.inl (fun _ => 0)))), (q_9, .inl (cJ, 10, .inr (.inl (fun _ => 0)))), (q_13, .inl (cI, 100, .inl (fun _ => 0))), (q_17, .inl (cI, 10, .inl (fun _ => 0)))]) E hw19 hnm inX6 tyX6_ok nmX6 0 6 q_1168 rfl rfl (by decide) rfl rfl rfl rfl rfl (Nat.le_of_ble_eq_true rfl) rfl dX6_init_34 (fun H locs hw20 => ?_)
  refine lv_aload_n (pc := 37) E.1 E.2.1 dX6_init_37 rfl (lv_at hl3 0 rfl) ?_
  refine lv_bipush (pc := 38) (v := 10) E.1 E.2.1 dX6_init_38 (by decide +kernel) ?_
  refine x_newI (pc := 40) (N' := 10) (k1 := 5) (n1 := 10370) E hw20 q_259 (by decide +kernel) (by decide +kernel) (Nat.le_of_ble_eq_true rfl) (Nat.le_of_ble_eq_true rfl) (Nat.le_of_ble_eq_true rfl) (Nat.le_of_ble_eq_true rfl) (Nat.le_of_ble_eq_true rfl) dX6_init_40 (fun q_21 H hw22 => ?_)
  have hw23 : WD D A s.heap [(h0, .inr (6, [.int 0, .int 0, .long 0, .ref q_5, .ref q_9, .ref q_13, .ref q_17, .int 0, .null, .null])), (q_5, .inl (cJ, 10240, .inr (.inl (fun _ => 0)))), (q_9, .inl (cJ, 10, .inr (.inl (fun _ => 0)))), (q_13, .inl (cI, 100, .inl (fun _ => 0))), (q_17, .inl (cI, 10, .inl (fun _ => 0))), (q_21, .inl (cI, 10, .inl (fun _ => 0)))] H _ := hw22
  refine x_putF (pc := 42) (T := TX6) (N := 10) (ci := 6) (ws' := [(h0, .inr (6, [.int 0, .int 0, .long 0, .ref q_5, .ref q_9, .ref q_13, .ref q_17, .int 0, .ref q_21, .null])), (q_5, .inl (cJ, 10240, .inr (.inl (fun _ => 0)))), (q_9, .inl (cJ, 10, .inr (.inl (fun _ => 0)))), (q_13, .inl (cI, 100, .inl (fun _ => 0))), (q_17, .inl (cI, 10, .inl (fun _ => 0))), (q_21, .inl (cI, 10, .inl (fun _ => 0)))]) E hw23 hnm inX6 tyX6_ok nmX6 0 8 q_1170 rfl rfl (by decide) rfl rfl rfl rfl rfl (Nat.le_of_ble_eq_true rfl) rfl dX6_init_42 (fun H locs hw24 => ?_)
  refine lv_aload_n (pc := 45) E.1 E.2.1 dX6_init_45 rfl (lv_at hl3 0 rfl) ?_
  refine lv_bipush (pc := 46) (v := 10) E.1 E.2.1 dX6_init_46 (by decide +kernel) ?_
  refine x_newI (pc := 48) (N' := 10) (k1 := 6) (n1 := 10380) E hw24 q_259 (by decide +kernel) (by decide +kernel) (Nat.le_of_ble_eq_true rfl) (Nat.le_of_ble_eq_true rfl) (Nat.le_of_ble_eq_true rfl) (Nat.le_of_ble_eq_true rfl) (Nat.le_of_ble_eq_true rfl) dX6_init_48 (fun q_25 H hw26 => ?_)
  have hw27 : WD D A s.heap [(h0, .inr (6, [.int 0, .int 0, .long 0, .ref q_5, .ref q_9, .ref q_13, .ref q_17, .int 0, .ref q_21, .null])), (q_5, .inl (cJ, 10240, .inr (.inl (fun _ => 0)))), (q_9, .inl (cJ, 10, .inr (.inl (fun _ => 0)))), (q_13, .inl (cI, 100, .inl (fun _ => 0))), (q_17, .inl (cI, 10, .inl (fun _ => 0))), (q_21, .inl (cI, 10, .inl (fun _ => 0))), (q_25, .inl (cI, 10, .inl (fun _ => 0)))] H _ := hw26
  refine x_putF (pc := 50) (T := TX6) (N := 10) (ci := 6) (ws' := [(h0, .inr (6, [.int 0, .int 0, .long 0, .ref q_5, .ref q_9, .ref q_13, .ref q_17, .int 0, .ref q_21, .ref q_25])), (q_5, .inl (cJ, 10240, .inr (.inl (fun _ => 0)))), (q_9, .inl (cJ, 10, .inr (.inl (fun _ => 0)))), (q_13, .inl (cI, 100, .inl (fun _ => 0))), (q_17, .inl (cI, 10, .inl (fun _ => 0))), (q_21, .inl (cI, 10, .inl (fun _ => 0))), (q_25, .inl (cI, 10, .inl (fun _ => 0)))]) E hw27 hnm inX6 tyX6_ok nmX6 0 9 q_1171 rfl rfl (by decide) rfl rfl rfl rfl rfl (Nat.le_of_ble_eq_true rfl) rfl dX6_init_50 (fun H locs hw28 => ?_)
  exact nd_v  E hr hlk hw28 (q_5, q_9, q_13, q_17, q_21, q_25) trivial [0, 1, 2, 3, 4, 5, 6] rfl (by decide) (Nat.le_of_ble_eq_true rfl) (Nat.le_of_ble_eq_true rfl) dX6_init_53
