set_option maxHeartbeats 4000000 in
set_option maxRecDepth 100000 in
theorem t_tellOfAll (l : Launch) (D : va_G) (cI cJ : ClassId) (sz : Nat) (mr : Nat → Nat) (mi : Nat → Int32) (mf : Nat → Nat → Int32) (mg : Nat → Nat → Int64) (z_what : Int32) (z_v : Int32) (mv : Nat → Value)  : Met l yX10_tellOfAll (Cond.code yX10_tellOfAll cX10_tellOfAll 3 none :: GW) ({ frames := 1, cells := 0, slots := 0, locals := 40 } : Room) (va_Pc [.ref (mr 0), .int z_what, .int z_v] (PW D cI cJ sz (WZ_VO cI cJ mv mr mi mf mg) xT)) (va_Qv (fun (u : Int32 × Int32 × Int32 × Int32 × Int32 × Int32) => True) (fun u => QW D cI cJ (va_A (WZ_VO cI cJ mv mr mi mf mg) sz) ((fun (u : Int32 × Int32 × Int32 × Int32 × Int32 × Int32) => (WZ_VO cI cJ mv mr (upd (upd (upd (upd (upd (upd mi 19 u.1) 2 u.2.1) 3 u.2.2.1) 4 u.2.2.2.1) 5 u.2.2.2.2.1) 17 u.2.2.2.2.2) mf mg)) u)) (va_A (WZ_VO cI cJ mv mr mi mf mg) sz)) 0 0 (va_A (WZ_VO cI cJ mv mr mi mf mg) sz) := by
  refine mk_met (y := yX10_tellOfAll) (bytes := cX10_tellOfAll) (maxL := 3) (avs := [.ref (mr 0), .int z_what, .int z_v]) (WS := (WZ_VO cI cJ mv mr mi mf mg)) (Qf := fun A => va_Qv (fun (u : Int32 × Int32 × Int32 × Int32 × Int32 × Int32) => True) (fun u => QW D cI cJ A ((fun (u : Int32 × Int32 × Int32 × Int32 × Int32 × Int32) => (WZ_VO cI cJ mv mr (upd (upd (upd (upd (upd (upd mi 19 u.1) 2 u.2.1) 3 u.2.2.1) 4 u.2.2.2.1) 5 u.2.2.2.2.1) 17 u.2.2.2.2.2) mf mg)) u)) A) (by decide) (Nat.le_of_ble_eq_true rfl) ?_
  intro p e s m below meth c A ls E hr hlk hnm hX hw1 hl2
  have hl3 : lv_has ls 3 [(0, .ref (mr 0)), (1, .int z_what), (2, .int z_v)] := hl2
  refine lv_iload_n (pc := 0) E.1 E.2.1 dX10_tellOfAll_0 rfl (lv_at hl3 1 rfl) ?_
  rcases swt (x := z_what) 0 4 with hsw_4 | ⟨hsw_4k, hsw_41, hsw_42, hsw_4⟩
  · skip
    refine lv_tableOut (pc := 1) (tgt := 79) E.1 E.2.1 dX10_tellOfAll_1 hsw_4 (by decide) ?_
    refine lv_aload_n (pc := 79) E.1 E.2.1 dX10_tellOfAll_79 rfl (lv_at hl3 0 rfl) ?_
    refine x_get (pc := 80) (T := TX10) (N := 17) (ci := 10) (v := .ref (mr 10)) E hw1 inX10 0 0 q_457 rfl rfl (by decide) rfl rfl dX10_tellOfAll_80 ?_
    refine lv_iload_n (pc := 83) E.1 E.2.1 dX10_tellOfAll_83 rfl (lv_at hl3 2 rfl) ?_
    refine x_put (pc := 84) (T := TX4) (N := 12) (ci := 4) (ws' := (WZ_VO cI cJ mv mr (upd mi 17 z_v) mf mg)) E hw1 inX4 tyX4_ok nmX4 6 6 q_215 rfl rfl (by decide) rfl rfl rfl rfl (Nat.le_of_ble_eq_true rfl) rfl dX10_tellOfAll_84 (fun H locs hw5 => ?_)
    exact em_v (w1 := (fun (u : Int32 × Int32 × Int32 × Int32 × Int32 × Int32) => (WZ_VO cI cJ mv mr (upd (upd (upd (upd (upd (upd mi 19 u.1) 2 u.2.1) 3 u.2.2.1) 4 u.2.2.2.1) 5 u.2.2.2.2.1) 17 u.2.2.2.2.2) mf mg))) E hr hlk ((mi 19), (mi 2), (mi 3), (mi 4), (mi 5), z_v) hw5 trivial (Nat.le_of_ble_eq_true rfl) (Nat.le_of_ble_eq_true rfl) dX10_tellOfAll_87
  · skip
    rcases (show hsw_4k = 0 ∨ hsw_4k = 1 ∨ hsw_4k = 2 ∨ hsw_4k = 3 ∨ hsw_4k = 4 from by omega) with rfl | rfl | rfl | rfl | rfl
    · skip
      have hsw_4v : z_what.toInt = 0 := hsw_4
      have hsw_4e : z_what = 0 := Int32.toInt_inj.mp (by rw [hsw_4]; decide +kernel)
      refine lv_tableIn (pc := 1) (off := 35) (tgt := 36) E.1 E.2.1 dX10_tellOfAll_1 (by rw [hsw_4e]; decide +kernel) (by rw [hsw_4e]; decide +kernel) (by rw [hsw_4e]; decide +kernel) (by decide) ?_
      refine lv_aload_n (pc := 36) E.1 E.2.1 dX10_tellOfAll_36 rfl (lv_at hl3 0 rfl) ?_
      refine x_get (pc := 37) (T := TX10) (N := 17) (ci := 10) (v := .ref (mr 10)) E hw1 inX10 0 0 q_457 rfl rfl (by decide) rfl rfl dX10_tellOfAll_37 ?_
      refine lv_iload_n (pc := 40) E.1 E.2.1 dX10_tellOfAll_40 rfl (lv_at hl3 2 rfl) ?_
      refine x_put (pc := 41) (T := TX4) (N := 12) (ci := 4) (ws' := (WZ_VO cI cJ mv mr (upd mi 19 z_v) mf mg)) E hw1 inX4 tyX4_ok nmX4 6 8 q_223 rfl rfl (by decide) rfl rfl rfl rfl (Nat.le_of_ble_eq_true rfl) rfl dX10_tellOfAll_41 (fun H locs hw6 => ?_)
      refine lv_goto (pc := 44) (tgt := 87) E.1 E.2.1 dX10_tellOfAll_44 (by decide) ?_
      exact em_v (w1 := (fun (u : Int32 × Int32 × Int32 × Int32 × Int32 × Int32) => (WZ_VO cI cJ mv mr (upd (upd (upd (upd (upd (upd mi 19 u.1) 2 u.2.1) 3 u.2.2.1) 4 u.2.2.2.1) 5 u.2.2.2.2.1) 17 u.2.2.2.2.2) mf mg))) E hr hlk (z_v, (mi 2), (mi 3), (mi 4), (mi 5), (mi 17)) hw6 trivial (Nat.le_of_ble_eq_true rfl) (Nat.le_of_ble_eq_true rfl) dX10_tellOfAll_87
    · skip
      have hsw_4v : z_what.toInt = 1 := hsw_4
      have hsw_4e : z_what = 1 := Int32.toInt_inj.mp (by rw [hsw_4]; decide +kernel)
      refine lv_tableIn (pc := 1) (off := 46) (tgt := 47) E.1 E.2.1 dX10_tellOfAll_1 (by rw [hsw_4e]; decide +kernel) (by rw [hsw_4e]; decide +kernel) (by rw [hsw_4e]; decide +kernel) (by decide) ?_
      refine lv_aload_n (pc := 47) E.1 E.2.1 dX10_tellOfAll_47 rfl (lv_at hl3 0 rfl) ?_
      refine lv_iload_n (pc := 48) E.1 E.2.1 dX10_tellOfAll_48 rfl (lv_at hl3 2 rfl) ?_
      refine x_put (pc := 49) (T := TX10) (N := 17) (ci := 10) (ws' := (WZ_VO cI cJ mv mr (upd mi 2 z_v) mf mg)) E hw1 inX10 tyX10_ok nmX10 0 9 q_481 rfl rfl (by decide) rfl rfl rfl rfl (Nat.le_of_ble_eq_true rfl) rfl dX10_tellOfAll_49 (fun H locs hw7 => ?_)
      refine lv_goto (pc := 52) (tgt := 87) E.1 E.2.1 dX10_tellOfAll_52 (by decide) ?_
      exact em_v (w1 := (fun (u : Int32 × Int32 × Int32 × Int32 × Int32 × Int32) => (WZ_VO cI cJ mv mr (upd (upd (upd (upd (upd (upd mi 19 u.1) 2 u.2.1) 3 u.2.2.1) 4 u.2.2.2.1) 5 u.2.2.2.2.1) 17 u.2.2.2.2.2) mf mg))) E hr hlk ((mi 19), z_v, (mi 3), (mi 4), (mi 5), (mi 17)) hw7 trivial (Nat.le_of_ble_eq_true rfl) (Nat.le_of_ble_eq_true rfl) dX10_tellOfAll_87
    · skip
      have hsw_4v : z_what.toInt = 2 := hsw_4
      have hsw_4e : z_what = 2 := Int32.toInt_inj.mp (by rw [hsw_4]; decide +kernel)
      refine lv_tableIn (pc := 1) (off := 54) (tgt := 55) E.1 E.2.1 dX10_tellOfAll_1 (by rw [hsw_4e]; decide +kernel) (by rw [hsw_4e]; decide +kernel) (by rw [hsw_4e]; decide +kernel) (by decide) ?_
      refine lv_aload_n (pc := 55) E.1 E.2.1 dX10_tellOfAll_55 rfl (lv_at hl3 0 rfl) ?_
      refine lv_iload_n (pc := 56) E.1 E.2.1 dX10_tellOfAll_56 rfl (lv_at hl3 2 rfl) ?_
      refine x_put (pc := 57) (T := TX10) (N := 17) (ci := 10) (ws' := (WZ_VO cI cJ mv mr (upd mi 3 z_v) mf mg)) E hw1 inX10 tyX10_ok nmX10 0 10 q_483 rfl rfl (by decide) rfl rfl rfl rfl (Nat.le_of_ble_eq_true rfl) rfl dX10_tellOfAll_57 (fun H locs hw8 => ?_)
      refine lv_goto (pc := 60) (tgt := 87) E.1 E.2.1 dX10_tellOfAll_60 (by decide) ?_
      exact em_v (w1 := (fun (u : Int32 × Int32 × Int32 × Int32 × Int32 × Int32) => (WZ_VO cI cJ mv mr (upd (upd (upd (upd (upd (upd mi 19 u.1) 2 u.2.1) 3 u.2.2.1) 4 u.2.2.2.1) 5 u.2.2.2.2.1) 17 u.2.2.2.2.2) mf mg))) E hr hlk ((mi 19), (mi 2), z_v, (mi 4), (mi 5), (mi 17)) hw8 trivial (Nat.le_of_ble_eq_true rfl) (Nat.le_of_ble_eq_true rfl) dX10_tellOfAll_87
    · skip
      have hsw_4v : z_what.toInt = 3 := hsw_4
      have hsw_4e : z_what = 3 := Int32.toInt_inj.mp (by rw [hsw_4]; decide +kernel)
      refine lv_tableIn (pc := 1) (off := 62) (tgt := 63) E.1 E.2.1 dX10_tellOfAll_1 (by rw [hsw_4e]; decide +kernel) (by rw [hsw_4e]; decide +kernel) (by rw [hsw_4e]; decide +kernel) (by decide) ?_
      refine lv_aload_n (pc := 63) E.1 E.2.1 dX10_tellOfAll_63 rfl (lv_at hl3 0 rfl) ?_
      refine lv_iload_n (pc := 64) E.1 E.2.1 dX10_tellOfAll_64 rfl (lv_at hl3 2 rfl) ?_
      refine x_put (pc := 65) (T := TX10) (N := 17) (ci := 10) (ws' := (WZ_VO cI cJ mv mr (upd mi 4 z_v) mf mg)) E hw1 inX10 tyX10_ok nmX10 0 11 q_485 rfl rfl (by decide) rfl rfl rfl rfl (Nat.le_of_ble_eq_true rfl) rfl dX10_tellOfAll_65 (fun H locs hw9 => ?_)
      refine lv_goto (pc := 68) (tgt := 87) E.1 E.2.1 dX10_tellOfAll_68 (by decide) ?_
      exact em_v (w1 := (fun (u : Int32 × Int32 × Int32 × Int32 × Int32 × Int32) => (WZ_VO cI cJ mv mr (upd (upd (upd (upd (upd (upd mi 19 u.1) 2 u.2.1) 3 u.2.2.1) 4 u.2.2.2.1) 5 u.2.2.2.2.1) 17 u.2.2.2.2.2) mf mg))) E hr hlk ((mi 19), (mi 2), (mi 3), z_v, (mi 5), (mi 17)) hw9 trivial (Nat.le_of_ble_eq_true rfl) (Nat.le_of_ble_eq_true rfl) dX10_tellOfAll_87
    · skip
      have hsw_4v : z_what.toInt = 4 := hsw_4
      have hsw_4e : z_what = 4 := Int32.toInt_inj.mp (by rw [hsw_4]; decide +kernel)
      refine lv_tableIn (pc := 1) (off := 70) (tgt := 71) E.1 E.2.1 dX10_tellOfAll_1 (by rw [hsw_4e]; decide +kernel) (by rw [hsw_4e]; decide +kernel) (by rw [hsw_4e]; decide +kernel) (by decide) ?_
      refine lv_aload_n (pc := 71) E.1 E.2.1 dX10_tellOfAll_71 rfl (lv_at hl3 0 rfl) ?_
      refine lv_iload_n (pc := 72) E.1 E.2.1 dX10_tellOfAll_72 rfl (lv_at hl3 2 rfl) ?_
      refine x_put (pc := 73) (T := TX10) (N := 17) (ci := 10) (ws' := (WZ_VO cI cJ mv mr (upd mi 5 z_v) mf mg)) E hw1 inX10 tyX10_ok nmX10 0 12 q_488 rfl rfl (by decide) rfl rfl rfl rfl (Nat.le_of_ble_eq_true rfl) rfl dX10_tellOfAll_73 (fun H locs hw10 => ?_)
      refine lv_goto (pc := 76) (tgt := 87) E.1 E.2.1 dX10_tellOfAll_76 (by decide) ?_
      exact em_v (w1 := (fun (u : Int32 × Int32 × Int32 × Int32 × Int32 × Int32) => (WZ_VO cI cJ mv mr (upd (upd (upd (upd (upd (upd mi 19 u.1) 2 u.2.1) 3 u.2.2.1) 4 u.2.2.2.1) 5 u.2.2.2.2.1) 17 u.2.2.2.2.2) mf mg))) E hr hlk ((mi 19), (mi 2), (mi 3), (mi 4), z_v, (mi 17)) hw10 trivial (Nat.le_of_ble_eq_true rfl) (Nat.le_of_ble_eq_true rfl) dX10_tellOfAll_87
set_option maxHeartbeats 4000000 in
set_option maxRecDepth 100000 in
theorem t_tellOfHouse (l : Launch) (D : va_G) (cI cJ : ClassId) (sz : Nat) (mr : Nat → Nat) (mi : Nat → Int32) (mf : Nat → Nat → Int32) (mg : Nat → Nat → Int64) (z_what : Int32) (z_h : Int32) (z_v : Int32) (mv : Nat → Value) (h0 : 0 ≤ z_h.toInt ∧ z_h.toInt ≤ 9) : Met l yX10_tellOfHouse (Cond.code yX10_tellOfHouse cX10_tellOfHouse 4 none :: GW) ({ frames := 1, cells := 0, slots := 0, locals := 40 } : Room) (va_Pc [.ref (mr 0), .int z_what, .int z_h, .int z_v] (PW D cI cJ sz (WZ_VO cI cJ mv mr mi mf mg) xT)) (va_Qv (fun (u : (Nat → Int32) × (Nat → Int32) × (Nat → Int32) × (Nat → Int32) × (Nat → Int32)) => True) (fun u => QW D cI cJ (va_A (WZ_VO cI cJ mv mr mi mf mg) sz) ((fun (u : (Nat → Int32) × (Nat → Int32) × (Nat → Int32) × (Nat → Int32) × (Nat → Int32)) => (WZ_VO cI cJ mv mr mi (va_up (va_up (va_up (va_up (va_up mf 25 u.1) 11 u.2.1) 12 u.2.2.1) 26 u.2.2.2.1) 27 u.2.2.2.2) mg)) u)) (va_A (WZ_VO cI cJ mv mr mi mf mg) sz)) 0 0 (va_A (WZ_VO cI cJ mv mr mi mf mg) sz) := by
  refine mk_met (y := yX10_tellOfHouse) (bytes := cX10_tellOfHouse) (maxL := 4) (avs := [.ref (mr 0), .int z_what, .int z_h, .int z_v]) (WS := (WZ_VO cI cJ mv mr mi mf mg)) (Qf := fun A => va_Qv (fun (u : (Nat → Int32) × (Nat → Int32) × (Nat → Int32) × (Nat → Int32) × (Nat → Int32)) => True) (fun u => QW D cI cJ A ((fun (u : (Nat → Int32) × (Nat → Int32) × (Nat → Int32) × (Nat → Int32) × (Nat → Int32)) => (WZ_VO cI cJ mv mr mi (va_up (va_up (va_up (va_up (va_up mf 25 u.1) 11 u.2.1) 12 u.2.2.1) 26 u.2.2.2.1) 27 u.2.2.2.2) mg)) u)) A) (by decide) (Nat.le_of_ble_eq_true rfl) ?_
  intro p e s m below meth c A ls E hr hlk hnm hX hw1 hl2
  have hl3 : lv_has ls 4 [(0, .ref (mr 0)), (1, .int z_what), (2, .int z_h), (3, .int z_v)] := hl2
  refine lv_iload_n (pc := 0) E.1 E.2.1 dX10_tellOfHouse_0 rfl (lv_at hl3 1 rfl) ?_
  rcases swt (x := z_what) 6 9 with hsw_4 | ⟨hsw_4k, hsw_41, hsw_42, hsw_4⟩
  · skip
    refine lv_tableOut (pc := 1) (tgt := 84) E.1 E.2.1 dX10_tellOfHouse_1 hsw_4 (by decide) ?_
    refine lv_aload_n (pc := 84) E.1 E.2.1 dX10_tellOfHouse_84 rfl (lv_at hl3 0 rfl) ?_
    refine x_get (pc := 85) (T := TX10) (N := 17) (ci := 10) (v := .ref (mr 23)) E hw1 inX10 0 1 q_460 rfl rfl (by decide) rfl rfl dX10_tellOfHouse_85 ?_
    refine x_get (pc := 88) (T := TX1) (N := 9) (ci := 1) (v := .ref (mr 27)) E hw1 inX1 12 3 q_275 rfl rfl (by decide) rfl rfl dX10_tellOfHouse_88 ?_
    refine lv_iload_n (pc := 91) E.1 E.2.1 dX10_tellOfHouse_91 rfl (lv_at hl3 2 rfl) ?_
    refine lv_iload_n (pc := 92) E.1 E.2.1 dX10_tellOfHouse_92 rfl (lv_at hl3 3 rfl) ?_
    refine x_iastG (pc := 93) (f := (mf 27)) (wf := fun g => (WZ_VO cI cJ mv mr mi (va_up mf 27 g) mg)) E hw1 16 rfl (inbE (a := z_h.toInt) rfl (by omega)) (fun _ => rfl) dX10_tellOfHouse_93 (fun g_5 H locs eg_5 hw6 => ?_)
    exact em_v (w1 := (fun (u : (Nat → Int32) × (Nat → Int32) × (Nat → Int32) × (Nat → Int32) × (Nat → Int32)) => (WZ_VO cI cJ mv mr mi (va_up (va_up (va_up (va_up (va_up mf 25 u.1) 11 u.2.1) 12 u.2.2.1) 26 u.2.2.2.1) 27 u.2.2.2.2) mg))) E hr hlk ((mf 25), (mf 11), (mf 12), (mf 26), g_5) hw6 trivial (Nat.le_of_ble_eq_true rfl) (Nat.le_of_ble_eq_true rfl) dX10_tellOfHouse_94
  · skip
    rcases (show hsw_4k = 6 ∨ hsw_4k = 7 ∨ hsw_4k = 8 ∨ hsw_4k = 9 from by omega) with rfl | rfl | rfl | rfl
    · skip
      have hsw_4v : z_what.toInt = 6 := hsw_4
      have hsw_4e : z_what = 6 := Int32.toInt_inj.mp (by rw [hsw_4]; decide +kernel)
      refine lv_tableIn (pc := 1) (off := 31) (tgt := 32) E.1 E.2.1 dX10_tellOfHouse_1 (by rw [hsw_4e]; decide +kernel) (by rw [hsw_4e]; decide +kernel) (by rw [hsw_4e]; decide +kernel) (by decide) ?_
      refine lv_aload_n (pc := 32) E.1 E.2.1 dX10_tellOfHouse_32 rfl (lv_at hl3 0 rfl) ?_
      refine x_get (pc := 33) (T := TX10) (N := 17) (ci := 10) (v := .ref (mr 23)) E hw1 inX10 0 1 q_460 rfl rfl (by decide) rfl rfl dX10_tellOfHouse_33 ?_
      refine x_get (pc := 36) (T := TX1) (N := 9) (ci := 1) (v := .ref (mr 25)) E hw1 inX1 12 1 q_270 rfl rfl (by decide) rfl rfl dX10_tellOfHouse_36 ?_
      refine lv_iload_n (pc := 39) E.1 E.2.1 dX10_tellOfHouse_39 rfl (lv_at hl3 2 rfl) ?_
      refine lv_iload_n (pc := 40) E.1 E.2.1 dX10_tellOfHouse_40 rfl (lv_at hl3 3 rfl) ?_
      refine x_iastG (pc := 41) (f := (mf 25)) (wf := fun g => (WZ_VO cI cJ mv mr mi (va_up mf 25 g) mg)) E hw1 14 rfl (inbE (a := z_h.toInt) rfl (by omega)) (fun _ => rfl) dX10_tellOfHouse_41 (fun g_7 H locs eg_7 hw8 => ?_)
      refine lv_goto (pc := 42) (tgt := 94) E.1 E.2.1 dX10_tellOfHouse_42 (by decide) ?_
      exact em_v (w1 := (fun (u : (Nat → Int32) × (Nat → Int32) × (Nat → Int32) × (Nat → Int32) × (Nat → Int32)) => (WZ_VO cI cJ mv mr mi (va_up (va_up (va_up (va_up (va_up mf 25 u.1) 11 u.2.1) 12 u.2.2.1) 26 u.2.2.2.1) 27 u.2.2.2.2) mg))) E hr hlk (g_7, (mf 11), (mf 12), (mf 26), (mf 27)) hw8 trivial (Nat.le_of_ble_eq_true rfl) (Nat.le_of_ble_eq_true rfl) dX10_tellOfHouse_94
    · skip
      have hsw_4v : z_what.toInt = 7 := hsw_4
      have hsw_4e : z_what = 7 := Int32.toInt_inj.mp (by rw [hsw_4]; decide +kernel)
      refine lv_tableIn (pc := 1) (off := 44) (tgt := 45) E.1 E.2.1 dX10_tellOfHouse_1 (by rw [hsw_4e]; decide +kernel) (by rw [hsw_4e]; decide +kernel) (by rw [hsw_4e]; decide +kernel) (by decide) ?_
      refine lv_aload_n (pc := 45) E.1 E.2.1 dX10_tellOfHouse_45 rfl (lv_at hl3 0 rfl) ?_
      refine x_get (pc := 46) (T := TX10) (N := 17) (ci := 10) (v := .ref (mr 10)) E hw1 inX10 0 0 q_457 rfl rfl (by decide) rfl rfl dX10_tellOfHouse_46 ?_
      refine x_get (pc := 49) (T := TX4) (N := 12) (ci := 4) (v := .ref (mr 11)) E hw1 inX4 6 0 q_193 rfl rfl (by decide) rfl rfl dX10_tellOfHouse_49 ?_
      refine lv_iload_n (pc := 52) E.1 E.2.1 dX10_tellOfHouse_52 rfl (lv_at hl3 2 rfl) ?_
      refine lv_iload_n (pc := 53) E.1 E.2.1 dX10_tellOfHouse_53 rfl (lv_at hl3 3 rfl) ?_
      refine x_iastG (pc := 54) (f := (mf 11)) (wf := fun g => (WZ_VO cI cJ mv mr mi (va_up mf 11 g) mg)) E hw1 7 rfl (inbE (a := z_h.toInt) rfl (by omega)) (fun _ => rfl) dX10_tellOfHouse_54 (fun g_9 H locs eg_9 hw10 => ?_)
      refine lv_goto (pc := 55) (tgt := 94) E.1 E.2.1 dX10_tellOfHouse_55 (by decide) ?_
      exact em_v (w1 := (fun (u : (Nat → Int32) × (Nat → Int32) × (Nat → Int32) × (Nat → Int32) × (Nat → Int32)) => (WZ_VO cI cJ mv mr mi (va_up (va_up (va_up (va_up (va_up mf 25 u.1) 11 u.2.1) 12 u.2.2.1) 26 u.2.2.2.1) 27 u.2.2.2.2) mg))) E hr hlk ((mf 25), g_9, (mf 12), (mf 26), (mf 27)) hw10 trivial (Nat.le_of_ble_eq_true rfl) (Nat.le_of_ble_eq_true rfl) dX10_tellOfHouse_94
    · skip
      have hsw_4v : z_what.toInt = 8 := hsw_4
      have hsw_4e : z_what = 8 := Int32.toInt_inj.mp (by rw [hsw_4]; decide +kernel)
      refine lv_tableIn (pc := 1) (off := 57) (tgt := 58) E.1 E.2.1 dX10_tellOfHouse_1 (by rw [hsw_4e]; decide +kernel) (by rw [hsw_4e]; decide +kernel) (by rw [hsw_4e]; decide +kernel) (by decide) ?_
      refine lv_aload_n (pc := 58) E.1 E.2.1 dX10_tellOfHouse_58 rfl (lv_at hl3 0 rfl) ?_
      refine x_get (pc := 59) (T := TX10) (N := 17) (ci := 10) (v := .ref (mr 10)) E hw1 inX10 0 0 q_457 rfl rfl (by decide) rfl rfl dX10_tellOfHouse_59 ?_
      refine x_get (pc := 62) (T := TX4) (N := 12) (ci := 4) (v := .ref (mr 12)) E hw1 inX4 6 1 q_195 rfl rfl (by decide) rfl rfl dX10_tellOfHouse_62 ?_
      refine lv_iload_n (pc := 65) E.1 E.2.1 dX10_tellOfHouse_65 rfl (lv_at hl3 2 rfl) ?_
      refine lv_iload_n (pc := 66) E.1 E.2.1 dX10_tellOfHouse_66 rfl (lv_at hl3 3 rfl) ?_
      refine x_iastG (pc := 67) (f := (mf 12)) (wf := fun g => (WZ_VO cI cJ mv mr mi (va_up mf 12 g) mg)) E hw1 8 rfl (inbE (a := z_h.toInt) rfl (by omega)) (fun _ => rfl) dX10_tellOfHouse_67 (fun g_11 H locs eg_11 hw12 => ?_)
      refine lv_goto (pc := 68) (tgt := 94) E.1 E.2.1 dX10_tellOfHouse_68 (by decide) ?_
      exact em_v (w1 := (fun (u : (Nat → Int32) × (Nat → Int32) × (Nat → Int32) × (Nat → Int32) × (Nat → Int32)) => (WZ_VO cI cJ mv mr mi (va_up (va_up (va_up (va_up (va_up mf 25 u.1) 11 u.2.1) 12 u.2.2.1) 26 u.2.2.2.1) 27 u.2.2.2.2) mg))) E hr hlk ((mf 25), (mf 11), g_11, (mf 26), (mf 27)) hw12 trivial (Nat.le_of_ble_eq_true rfl) (Nat.le_of_ble_eq_true rfl) dX10_tellOfHouse_94
    · skip
      have hsw_4v : z_what.toInt = 9 := hsw_4
      have hsw_4e : z_what = 9 := Int32.toInt_inj.mp (by rw [hsw_4]; decide +kernel)
      refine lv_tableIn (pc := 1) (off := 70) (tgt := 71) E.1 E.2.1 dX10_tellOfHouse_1 (by rw [hsw_4e]; decide +kernel) (by rw [hsw_4e]; decide +kernel) (by rw [hsw_4e]; decide +kernel) (by decide) ?_
      refine lv_aload_n (pc := 71) E.1 E.2.1 dX10_tellOfHouse_71 rfl (lv_at hl3 0 rfl) ?_
      refine x_get (pc := 72) (T := TX10) (N := 17) (ci := 10) (v := .ref (mr 23)) E hw1 inX10 0 1 q_460 rfl rfl (by decide) rfl rfl dX10_tellOfHouse_72 ?_
      refine x_get (pc := 75) (T := TX1) (N := 9) (ci := 1) (v := .ref (mr 26)) E hw1 inX1 12 2 q_272 rfl rfl (by decide) rfl rfl dX10_tellOfHouse_75 ?_
      refine lv_iload_n (pc := 78) E.1 E.2.1 dX10_tellOfHouse_78 rfl (lv_at hl3 2 rfl) ?_
      refine lv_iload_n (pc := 79) E.1 E.2.1 dX10_tellOfHouse_79 rfl (lv_at hl3 3 rfl) ?_
      refine x_iastG (pc := 80) (f := (mf 26)) (wf := fun g => (WZ_VO cI cJ mv mr mi (va_up mf 26 g) mg)) E hw1 15 rfl (inbE (a := z_h.toInt) rfl (by omega)) (fun _ => rfl) dX10_tellOfHouse_80 (fun g_13 H locs eg_13 hw14 => ?_)
      refine lv_goto (pc := 81) (tgt := 94) E.1 E.2.1 dX10_tellOfHouse_81 (by decide) ?_
      exact em_v (w1 := (fun (u : (Nat → Int32) × (Nat → Int32) × (Nat → Int32) × (Nat → Int32) × (Nat → Int32)) => (WZ_VO cI cJ mv mr mi (va_up (va_up (va_up (va_up (va_up mf 25 u.1) 11 u.2.1) 12 u.2.2.1) 26 u.2.2.2.1) 27 u.2.2.2.2) mg))) E hr hlk ((mf 25), (mf 11), (mf 12), g_13, (mf 27)) hw14 trivial (Nat.le_of_ble_eq_true rfl) (Nat.le_of_ble_eq_true rfl) dX10_tellOfHouse_94
set_option maxHeartbeats 4000000 in
set_option maxRecDepth 100000 in
theorem t_isReached (l : Launch) (D : va_G) (cI cJ : ClassId) (sz : Nat) (mr : Nat → Nat) (mi : Nat → Int32) (mf : Nat → Nat → Int32) (mg : Nat → Nat → Int64) (z_a : Int32) (z_b : Int32) (z_snow : Int32) (mv : Nat → Value) (h0 : 0 ≤ (mi 29).toInt ∧ (mi 29).toInt ≤ 10) (h1 : 0 ≤ (mi 37).toInt ∧ (mi 37).toInt ≤ 40) (h2 : 0 ≤ (mi 46).toInt ∧ (mi 46).toInt ≤ 10) (a_p_from : p9 (mf 33)) (a_p_to : p9 (mf 34)) : Met l yX10_isReached (Cond.code yX10_isReached cX10_isReached 5 (some .boolean) :: GW) ({ frames := 4, cells := 0, slots := 0, locals := 115 } : Room) (va_Pc [.ref (mr 0), .int z_a, .int z_b, .int z_snow] (PW D cI cJ sz (WZ_VO cI cJ mv mr mi mf mg) xT)) (va_Qi (fun (r : Int32) (u : (Nat → Int32) × (Nat → Int32)) => (0 ≤ r.toInt) ∧ (r.toInt ≤ 1)) (fun u => QW D cI cJ (va_A (WZ_VO cI cJ mv mr mi mf mg) sz) ((fun (u : (Nat → Int32) × (Nat → Int32)) => (WZ_VO cI cJ mv mr mi (va_up (va_up mf 38 u.1) 39 u.2) mg)) u)) (va_A (WZ_VO cI cJ mv mr mi mf mg) sz)) 0 0 (va_A (WZ_VO cI cJ mv mr mi mf mg) sz) := by
  refine mk_met (y := yX10_isReached) (bytes := cX10_isReached) (maxL := 5) (avs := [.ref (mr 0), .int z_a, .int z_b, .int z_snow]) (WS := (WZ_VO cI cJ mv mr mi mf mg)) (Qf := fun A => va_Qi (fun (r : Int32) (u : (Nat → Int32) × (Nat → Int32)) => (0 ≤ r.toInt) ∧ (r.toInt ≤ 1)) (fun u => QW D cI cJ A ((fun (u : (Nat → Int32) × (Nat → Int32)) => (WZ_VO cI cJ mv mr mi (va_up (va_up mf 38 u.1) 39 u.2) mg)) u)) A) (by decide) (Nat.le_of_ble_eq_true rfl) ?_
  intro p e s m below meth c A ls E hr hlk hnm hX hw1 hl2
  have hl3 : lv_has ls 5 [(0, .ref (mr 0)), (1, .int z_a), (2, .int z_b), (3, .int z_snow)] := hl2
  refine lv_aload_n (pc := 0) E.1 E.2.1 dX10_isReached_0 rfl (lv_at hl3 0 rfl) ?_
  refine x_get (pc := 1) (T := TX10) (N := 17) (ci := 10) (v := .ref (mr 32)) E hw1 inX10 0 2 q_464 rfl rfl (by decide) rfl rfl dX10_isReached_1 ?_
  refine lv_iload_n (pc := 4) E.1 E.2.1 dX10_isReached_4 rfl (lv_at hl3 1 rfl) ?_
  refine lv_iload_n (pc := 5) E.1 E.2.1 dX10_isReached_5 rfl (lv_at hl3 2 rfl) ?_
  refine lv_iload_n (pc := 6) E.1 E.2.1 dX10_isReached_6 rfl (lv_at hl3 3 rfl) ?_
  refine ck_i (pc := 7) (ws' := (fun (u : (Nat → Int32) × (Nat → Int32)) => (WZ_VO cI cJ mv mr mi (va_up (va_up mf 38 u.1) 39 u.2) mg))) [false, false, false, false, false, false, false, false, false, false, false, false, false, false, false, false, false, false, false, false, true, true, true, true, true, true, true, false, false, false, false, false, false, false, false, false, false, false, false, false, false, false, false, false, false, false, false, false, false, false] hw1 rfl (fun hC_ => (rn_V (As := [.int z_a, .int z_b, .int z_snow]) (rest := []) E hw1 (t_apart l D cI cJ _ (shf 32 mr) (shf 32 mi) (shf 32 mf) (shf 32 mg) z_a z_b z_snow h1 a_p_from a_p_to) (gdV q_1016 q_1017 q_1018 q_155 q_1019) hdV_X5_apart ⟨rfl, rfl⟩ ⟨(Nat.le_of_ble_eq_true rfl), (Nat.le_of_ble_eq_true rfl)⟩ ⟨(Nat.le_of_ble_eq_true rfl), (Nat.le_of_ble_eq_true rfl)⟩ xT_b xT_at 20 5 rfl rfl rfl _ hC_ (nd_T _ 0) rfl hl3.1 rfl (Nat.le_of_ble_eq_true rfl) dX10_isReached_7)) rfl (fun _ => rfl) (fun _ => rfl) (fun r_5 u_4 H1 locs hp hw6 => ?_)
  obtain ⟨gmeasured_7, gmeasuredIn_8⟩ := u_4
  generalize H1 = H at hw6 ⊢
  have hw9 : WD D A s.heap (WZ_VO cI cJ mv mr mi (va_up (va_up mf 38 gmeasured_7) 39 gmeasuredIn_8) mg) H locs := hw6
  refine lv_istore (pc := 10) (lv' := [(4, .int r_5), (0, .ref (mr 0)), (1, .int z_a), (2, .int z_b), (3, .int z_snow)]) E.1 E.2.1 dX10_isReached_10 hl3 (by decide) rfl (fun ls hl10 => ?_)
  refine lv_iload (pc := 12) E.1 E.2.1 dX10_isReached_12 (lv_at hl10 0 rfl) ?_
  refine lv_iconst (pc := 14) (v := (-1)) E.1 E.2.1 dX10_isReached_14 (by decide +kernel) ?_
  refine lv_icmp_eq (pc := 15) (tgt := 31) E.1 E.2.1 dX10_isReached_15 (by decide) (fun c_11 => ?_) (fun c_11 => ?_)
  · skip
    have hc_11 := eqE (a := r_5.toInt) (b := (-1)) rfl (by decide +kernel) c_11
    refine lv_iconst (pc := 31) (v := 0) E.1 E.2.1 dX10_isReached_31 (by decide +kernel) ?_
    exact em_z (w1 := (fun (u : (Nat → Int32) × (Nat → Int32)) => (WZ_VO cI cJ mv mr mi (va_up (va_up mf 38 u.1) 39 u.2) mg))) E hr hlk (gmeasured_7, gmeasuredIn_8) hw9 ⟨(by show 0 ≤ (0 : Int32).toInt; have k_0 : (0 : Int32).toInt = 0 := (by decide +kernel); omega), (by show (0 : Int32).toInt ≤ 1; have k_0 : (0 : Int32).toInt = 0 := (by decide +kernel); omega)⟩ (by decide +kernel) (Nat.le_of_ble_eq_true rfl) (Nat.le_of_ble_eq_true rfl) dX10_isReached_32
  · skip
    have hc_11 := neE (a := r_5.toInt) (b := (-1)) rfl (by decide +kernel) c_11
    refine lv_iload (pc := 18) E.1 E.2.1 dX10_isReached_18 (lv_at hl10 0 rfl) ?_
    refine lv_aload_n (pc := 20) E.1 E.2.1 dX10_isReached_20 rfl (lv_at hl10 1 rfl) ?_
    refine x_get (pc := 21) (T := TX10) (N := 17) (ci := 10) (v := .int (mi 4)) E hw9 inX10 0 11 q_485 rfl rfl (by decide) rfl rfl dX10_isReached_21 ?_
    refine lv_icmp_gt (pc := 24) (tgt := 31) E.1 E.2.1 dX10_isReached_24 (by decide) (fun c_12 => ?_) (fun c_12 => ?_)
    · skip
      have hc_12 := ltE (a := (mi 4).toInt) (b := r_5.toInt) rfl rfl c_12
      refine lv_iconst (pc := 31) (v := 0) E.1 E.2.1 dX10_isReached_31 (by decide +kernel) ?_
      exact em_z (w1 := (fun (u : (Nat → Int32) × (Nat → Int32)) => (WZ_VO cI cJ mv mr mi (va_up (va_up mf 38 u.1) 39 u.2) mg))) E hr hlk (gmeasured_7, gmeasuredIn_8) hw9 ⟨(by show 0 ≤ (0 : Int32).toInt; have k_0 : (0 : Int32).toInt = 0 := (by decide +kernel); omega), (by show (0 : Int32).toInt ≤ 1; have k_0 : (0 : Int32).toInt = 0 := (by decide +kernel); omega)⟩ (by decide +kernel) (Nat.le_of_ble_eq_true rfl) (Nat.le_of_ble_eq_true rfl) dX10_isReached_32
    · skip
      have hc_12 := nltE (a := (mi 4).toInt) (b := r_5.toInt) rfl rfl c_12
      refine lv_iconst (pc := 27) (v := 1) E.1 E.2.1 dX10_isReached_27 (by decide +kernel) ?_
      refine lv_goto (pc := 28) (tgt := 32) E.1 E.2.1 dX10_isReached_28 (by decide) ?_
      exact em_z (w1 := (fun (u : (Nat → Int32) × (Nat → Int32)) => (WZ_VO cI cJ mv mr mi (va_up (va_up mf 38 u.1) 39 u.2) mg))) E hr hlk (gmeasured_7, gmeasuredIn_8) hw9 ⟨(by show 0 ≤ (1 : Int32).toInt; have k_0 : (1 : Int32).toInt = 1 := (by decide +kernel); omega), (by show (1 : Int32).toInt ≤ 1; have k_0 : (1 : Int32).toInt = 1 := (by decide +kernel); omega)⟩ (by decide +kernel) (Nat.le_of_ble_eq_true rfl) (Nat.le_of_ble_eq_true rfl) dX10_isReached_32
set_option maxHeartbeats 4000000 in
set_option maxRecDepth 100000 in
theorem t_reachedSet (l : Launch) (D : va_G) (cI cJ : ClassId) (sz : Nat) (mr : Nat → Nat) (mi : Nat → Int32) (mf : Nat → Nat → Int32) (mg : Nat → Nat → Int64) (z_a : Int32) (mv : Nat → Value) (h0 : 0 ≤ (mi 29).toInt ∧ (mi 29).toInt ≤ 10) (h1 : 0 ≤ (mi 37).toInt ∧ (mi 37).toInt ≤ 40) (h2 : 0 ≤ (mi 46).toInt ∧ (mi 46).toInt ≤ 10) (a_p_from : p9 (mf 33)) (a_p_to : p9 (mf 34)) : Met l yX10_reachedSet (Cond.code yX10_reachedSet cX10_reachedSet 4 (some .int) :: GW) ({ frames := 5, cells := 0, slots := 0, locals := 139 } : Room) (va_Pc [.ref (mr 0), .int z_a] (PW D cI cJ sz (WZ_VO cI cJ mv mr mi mf mg) xT)) (va_Qi (fun (r : Int32) (u : (Nat → Int32) × (Nat → Int32)) => True) (fun u => QW D cI cJ (va_A (WZ_VO cI cJ mv mr mi mf mg) sz) ((fun (u : (Nat → Int32) × (Nat → Int32)) => (WZ_VO cI cJ mv mr mi (va_up (va_up mf 38 u.1) 39 u.2) mg)) u)) (va_A (WZ_VO cI cJ mv mr mi mf mg) sz)) 0 0 (va_A (WZ_VO cI cJ mv mr mi mf mg) sz) := by
  refine mk_met (y := yX10_reachedSet) (bytes := cX10_reachedSet) (maxL := 4) (avs := [.ref (mr 0), .int z_a]) (WS := (WZ_VO cI cJ mv mr mi mf mg)) (Qf := fun A => va_Qi (fun (r : Int32) (u : (Nat → Int32) × (Nat → Int32)) => True) (fun u => QW D cI cJ A ((fun (u : (Nat → Int32) × (Nat → Int32)) => (WZ_VO cI cJ mv mr mi (va_up (va_up mf 38 u.1) 39 u.2) mg)) u)) A) (by decide) (Nat.le_of_ble_eq_true rfl) ?_
  intro p e s m below meth c A ls E hr hlk hnm hX hw1 hl2
  have hl3 : lv_has ls 4 [(0, .ref (mr 0)), (1, .int z_a)] := hl2
  refine lv_iconst (pc := 0) (v := 0) E.1 E.2.1 dX10_reachedSet_0 (by decide +kernel) ?_
  refine lv_istore_n (pc := 1) (lv' := [(2, .int 0), (0, .ref (mr 0)), (1, .int z_a)]) E.1 E.2.1 dX10_reachedSet_1 rfl hl3 (by decide) rfl (fun ls hl4 => ?_)
  refine lv_iconst (pc := 2) (v := 0) E.1 E.2.1 dX10_reachedSet_2 (by decide +kernel) ?_
  refine lv_istore_n (pc := 3) (lv' := [(3, .int 0), (2, .int 0), (0, .ref (mr 0)), (1, .int z_a)]) E.1 E.2.1 dX10_reachedSet_3 rfl hl4 (by decide) rfl (fun ls hl5 => ?_)
  have loop_6 : ∀ (k : Nat) (x_7 : Int32) (x_8 : Int32) (g_9 : Nat → Int32) (g_10 : Nat → Int32) (H : Heap) (locs : List Loc) (ls : Array Slot), (0 ≤ x_7.toInt) ∧ (x_7.toInt ≤ (mi 29).toInt) → (mi 29).toInt - x_7.toInt < (k : Int) → WD D A s.heap (WZ_VO cI cJ mv mr mi (va_up (va_up mf 38 g_9) 39 g_10) mg) H locs → lv_has ls 4 [(3, .int x_7), (2, .int x_8), (0, .ref (mr 0)), (1, .int z_a)] → W p l e ({ frames := 5, cells := 0, slots := 0, locals := 139 } : Room) s m ([.ref (mr 0), .int z_a] : List Value).toArray below meth c H locs 0 0 (MQ below (va_Qi (fun (r : Int32) (u : (Nat → Int32) × (Nat → Int32)) => True) (fun u => QW D cI cJ A ((fun (u : (Nat → Int32) × (Nat → Int32)) => (WZ_VO cI cJ mv mr mi (va_up (va_up mf 38 u.1) 39 u.2) mg)) u)) A) ([.ref (mr 0), .int z_a] : List Value).toArray s 0 0 A) (F0 m 4 ls []) := by
    intro k
    induction k with
    | zero =>
      intro x_7 x_8 g_9 g_10 _ _ _ hinv hm
      obtain ⟨hi_10_0, hi_10_1⟩ := hinv
      exact absurd hm (by omega)
    | succ k ih_11 =>
      intro x_7 x_8 g_9 g_10 H locs ls hinv hm hw12 hl13
      obtain ⟨hi_10_0, hi_10_1⟩ := hinv
      refine lv_iload_n (pc := 4) E.1 E.2.1 dX10_reachedSet_4 rfl (lv_at hl13 0 rfl) ?_
      refine lv_aload_n (pc := 5) E.1 E.2.1 dX10_reachedSet_5 rfl (lv_at hl13 2 rfl) ?_
      refine x_get (pc := 6) (T := TX10) (N := 17) (ci := 10) (v := .ref (mr 23)) E hw12 inX10 0 1 q_460 rfl rfl (by decide) rfl rfl dX10_reachedSet_6 ?_
      refine x_get (pc := 9) (T := TX1) (N := 9) (ci := 1) (v := .int (mi 29)) E hw12 inX1 12 5 q_283 rfl rfl (by decide) rfl rfl dX10_reachedSet_9 ?_
      refine lv_icmp_ge (pc := 12) (tgt := 43) E.1 E.2.1 dX10_reachedSet_12 (by decide) (fun c_14 => ?_) (fun c_14 => ?_)
      · skip
        have hc_14 := leE (a := (mi 29).toInt) (b := x_7.toInt) rfl rfl c_14
        refine lv_iload_n (pc := 43) E.1 E.2.1 dX10_reachedSet_43 rfl (lv_at hl13 1 rfl) ?_
        exact em_i (w1 := (fun (u : (Nat → Int32) × (Nat → Int32)) => (WZ_VO cI cJ mv mr mi (va_up (va_up mf 38 u.1) 39 u.2) mg))) E hr hlk (g_9, g_10) hw12 trivial (Nat.le_of_ble_eq_true rfl) (Nat.le_of_ble_eq_true rfl) dX10_reachedSet_44
      · skip
        have hc_14 := nleE (a := (mi 29).toInt) (b := x_7.toInt) rfl rfl c_14
        refine lv_aload_n (pc := 15) E.1 E.2.1 dX10_reachedSet_15 rfl (lv_at hl13 2 rfl) ?_
        refine lv_iload_n (pc := 16) E.1 E.2.1 dX10_reachedSet_16 rfl (lv_at hl13 3 rfl) ?_
        refine lv_iload_n (pc := 17) E.1 E.2.1 dX10_reachedSet_17 rfl (lv_at hl13 0 rfl) ?_
        refine lv_aload_n (pc := 18) E.1 E.2.1 dX10_reachedSet_18 rfl (lv_at hl13 2 rfl) ?_
        refine x_get (pc := 19) (T := TX10) (N := 17) (ci := 10) (v := .ref (mr 10)) E hw12 inX10 0 0 q_457 rfl rfl (by decide) rfl rfl dX10_reachedSet_19 ?_
        refine x_get (pc := 22) (T := TX4) (N := 12) (ci := 4) (v := .int (mi 19)) E hw12 inX4 6 8 q_223 rfl rfl (by decide) rfl rfl dX10_reachedSet_22 ?_
        refine ck_i (pc := 25) (ws' := (fun (u : (Nat → Int32) × (Nat → Int32)) => (WZ_VO cI cJ mv mr mi (va_up (va_up mf 38 u.1) 39 u.2) mg))) [true, true, true, true, true, true, true, true, true, true, true, true, true, true, true, true, true, true, true, true, true, true, true, true, true, true, true, true, true, true, true, true, true, true, true, true, true, true, true, true, true, true, true, true, true, true, true, true, true, true] hw12 rfl (fun hC_ => (rn_V (As := [.int z_a, .int x_7, .int (mi 19)]) (rest := []) E hw12 (t_isReached l D cI cJ _ mr mi (va_up (va_up mf 38 g_9) 39 g_10) mg z_a x_7 (mi 19) (vl [mv 0]) h0 h1 h2 a_p_from a_p_to) (gdV q_1012 q_1013 q_1014 q_152 q_1015) hdV_X10_isReached ⟨rfl, rfl⟩ ⟨(Nat.le_of_ble_eq_true rfl), (Nat.le_of_ble_eq_true rfl)⟩ ⟨(Nat.le_of_ble_eq_true rfl), (Nat.le_of_ble_eq_true rfl)⟩ xT_b xT_at 0 10 rfl rfl rfl _ hC_ (nd_T _ 0) rfl hl13.1 rfl (Nat.le_of_ble_eq_true rfl) dX10_reachedSet_25)) rfl (fun _ => rfl) (fun _ => rfl) (fun r_16 u_15 H1 locs hp hw17 => ?_)
        obtain ⟨gpmeasured_18, gpmeasuredIn_19⟩ := u_15
        generalize H1 = H at hw17 ⊢
        have hw20 : WD D A s.heap (WZ_VO cI cJ mv mr mi (va_up (va_up mf 38 gpmeasured_18) 39 gpmeasuredIn_19) mg) H locs := hw17
        obtain ⟨hp_21, hp_22⟩ := hp
        have hp_21 : 0 ≤ r_16.toInt := hp_21
        have hp_22 : r_16.toInt ≤ 1 := hp_22
        refine lv_if_eq (pc := 28) (tgt := 37) E.1 E.2.1 dX10_reachedSet_28 (by decide) (fun c_23 => ?_) (fun c_23 => ?_)
        · skip
          have hc_23 := eqE (a := r_16.toInt) (b := 0) rfl (by decide +kernel) c_23
          obtain ⟨v_24, ev_24⟩ : ∃ z : Int32, x_7 + Int32.ofInt (1) = z := ⟨_, rfl⟩
          have hv_24 : v_24.toInt = x_7.toInt + (1) := by rw [← ev_24]; exact incE rfl (by decide) (by omega)
          refine lv_iinc (pc := 37) (v := v_24) (lv' := [(3, .int v_24), (2, .int x_8), (0, .ref (mr 0)), (1, .int z_a)]) E.1 E.2.1 dX10_reachedSet_37 hl13 (k := 0) rfl ev_24 (by decide) rfl (fun ls hl25 => ?_)
          refine lv_goto (pc := 40) (tgt := 4) E.1 E.2.1 dX10_reachedSet_40 (by decide) ?_
          exact ih_11 v_24 x_8 gpmeasured_18 gpmeasuredIn_19 _ _ _ ⟨(by show 0 ≤ v_24.toInt; omega), (by show v_24.toInt ≤ (mi 29).toInt; omega)⟩ (by omega) hw20 (lv_sub hl25 [0, 1, 2, 3] rfl)
        · skip
          have hc_23 := neE (a := r_16.toInt) (b := 0) rfl (by decide +kernel) c_23
          refine lv_iload_n (pc := 31) E.1 E.2.1 dX10_reachedSet_31 rfl (lv_at hl13 1 rfl) ?_
          refine lv_iconst (pc := 32) (v := 1) E.1 E.2.1 dX10_reachedSet_32 (by decide +kernel) ?_
          refine lv_iload_n (pc := 33) E.1 E.2.1 dX10_reachedSet_33 rfl (lv_at hl13 0 rfl) ?_
          refine lv_ishl (pc := 34) E.1 E.2.1 dX10_reachedSet_34 ?_
          refine lv_topi (fun v_26 ev_26 => ?_)
          have hb1v_26 : 1 ≤ v_26.toInt ∧ v_26.toInt ≤ 512 := by rw [ev_26]; exact shl9 (by omega)
          refine lv_ior (pc := 35) E.1 E.2.1 dX10_reachedSet_35 ?_
          refine lv_topi (fun v_27 ev_27 => ?_)
          refine lv_istore_n (pc := 36) (lv' := [(2, .int v_27), (3, .int x_7), (0, .ref (mr 0)), (1, .int z_a)]) E.1 E.2.1 dX10_reachedSet_36 rfl hl13 (by decide) rfl (fun ls hl28 => ?_)
          obtain ⟨v_29, ev_29⟩ : ∃ z : Int32, x_7 + Int32.ofInt (1) = z := ⟨_, rfl⟩
          have hv_29 : v_29.toInt = x_7.toInt + (1) := by rw [← ev_29]; exact incE rfl (by decide) (by omega)
          refine lv_iinc (pc := 37) (v := v_29) (lv' := [(3, .int v_29), (2, .int v_27), (0, .ref (mr 0)), (1, .int z_a)]) E.1 E.2.1 dX10_reachedSet_37 hl28 (k := 1) rfl ev_29 (by decide) rfl (fun ls hl30 => ?_)
          refine lv_goto (pc := 40) (tgt := 4) E.1 E.2.1 dX10_reachedSet_40 (by decide) ?_
          exact ih_11 v_29 v_27 gpmeasured_18 gpmeasuredIn_19 _ _ _ ⟨(by show 0 ≤ v_29.toInt; omega), (by show v_29.toInt ≤ (mi 29).toInt; omega)⟩ (by omega) hw20 (lv_sub hl30 [0, 1, 2, 3] rfl)
  exact loop_6 (Int.toNat ((mi 29).toInt - 0) + 1) 0 0 (mf 38) (mf 39) _ _ _ ⟨(by show 0 ≤ (0 : Int32).toInt; have k_0 : (0 : Int32).toInt = 0 := (by decide +kernel); omega), (by show (0 : Int32).toInt ≤ (mi 29).toInt; have k_0 : (0 : Int32).toInt = 0 := (by decide +kernel); omega)⟩ (by have k_0 : (0 : Int32).toInt = 0 := (by decide +kernel); have k_1 : (0 : Int32).toInt = 0 := (by decide +kernel); omega) hw1 (lv_sub hl5 [0, 1, 2, 3] rfl)
set_option maxHeartbeats 4000000 in
set_option maxRecDepth 100000 in
theorem t_spreadSnow (l : Launch) (D : va_G) (cI cJ : ClassId) (sz : Nat) (mr : Nat → Nat) (mi : Nat → Int32) (mf : Nat → Nat → Int32) (mg : Nat → Nat → Int64) (z_k : Int32) (mv : Nat → Value) (h0 : 1 ≤ z_k.toInt ∧ z_k.toInt ≤ 9) : Met l yX10_spreadSnow (Cond.code yX10_spreadSnow cX10_spreadSnow 5 none :: GW) ({ frames := 1, cells := 0, slots := 0, locals := 60 } : Room) (va_Pc [.ref (mr 0), .int z_k] (PW D cI cJ sz (WZ_VO cI cJ mv mr mi mf mg) xT)) (va_Qv (fun (u : (Nat → Int32) × (Nat → Int32)) => True) (fun u => QW D cI cJ (va_A (WZ_VO cI cJ mv mr mi mf mg) sz) ((fun (u : (Nat → Int32) × (Nat → Int32)) => (WZ_VO cI cJ mv mr mi (va_up (va_up mf 7 u.1) 8 u.2) mg)) u)) (va_A (WZ_VO cI cJ mv mr mi mf mg) sz)) 0 0 (va_A (WZ_VO cI cJ mv mr mi mf mg) sz) := by
  refine mk_met (y := yX10_spreadSnow) (bytes := cX10_spreadSnow) (maxL := 5) (avs := [.ref (mr 0), .int z_k]) (WS := (WZ_VO cI cJ mv mr mi mf mg)) (Qf := fun A => va_Qv (fun (u : (Nat → Int32) × (Nat → Int32)) => True) (fun u => QW D cI cJ A ((fun (u : (Nat → Int32) × (Nat → Int32)) => (WZ_VO cI cJ mv mr mi (va_up (va_up mf 7 u.1) 8 u.2) mg)) u)) A) (by decide) (Nat.le_of_ble_eq_true rfl) ?_
  intro p e s m below meth c A ls E hr hlk hnm hX hw1 hl2
  have hl3 : lv_has ls 5 [(0, .ref (mr 0)), (1, .int z_k)] := hl2
  refine lv_iconst (pc := 0) (v := 0) E.1 E.2.1 dX10_spreadSnow_0 (by decide +kernel) ?_
  refine lv_istore_n (pc := 1) (lv' := [(2, .int 0), (0, .ref (mr 0)), (1, .int z_k)]) E.1 E.2.1 dX10_spreadSnow_1 rfl hl3 (by decide) rfl (fun ls hl4 => ?_)
  have loop_5 : ∀ (k : Nat) (x_6 : Int32) (g_7 : Nat → Int32) (H : Heap) (locs : List Loc) (ls : Array Slot), (0 ≤ x_6.toInt) ∧ (x_6.toInt ≤ 10) → 10 - x_6.toInt < (k : Int) → WD D A s.heap (WZ_VO cI cJ mv mr mi (va_up mf 7 g_7) mg) H locs → lv_has ls 5 [(2, .int x_6), (0, .ref (mr 0)), (1, .int z_k)] → W p l e ({ frames := 1, cells := 0, slots := 0, locals := 60 } : Room) s m ([.ref (mr 0), .int z_k] : List Value).toArray below meth c H locs 0 0 (MQ below (va_Qv (fun (u : (Nat → Int32) × (Nat → Int32)) => True) (fun u => QW D cI cJ A ((fun (u : (Nat → Int32) × (Nat → Int32)) => (WZ_VO cI cJ mv mr mi (va_up (va_up mf 7 u.1) 8 u.2) mg)) u)) A) ([.ref (mr 0), .int z_k] : List Value).toArray s 0 0 A) (F0 m 2 ls []) := by
    intro k
    induction k with
    | zero =>
      intro x_6 g_7 _ _ _ hinv hm
      obtain ⟨hi_7_0, hi_7_1⟩ := hinv
      exact absurd hm (by omega)
    | succ k ih_8 =>
      intro x_6 g_7 H locs ls hinv hm hw9 hl10
      obtain ⟨hi_7_0, hi_7_1⟩ := hinv
      refine lv_iload_n (pc := 2) E.1 E.2.1 dX10_spreadSnow_2 rfl (lv_at hl10 0 rfl) ?_
      refine lv_bipush (pc := 3) (v := 10) E.1 E.2.1 dX10_spreadSnow_3 (by decide +kernel) ?_
      refine lv_icmp_ge (pc := 5) (tgt := 38) E.1 E.2.1 dX10_spreadSnow_5 (by decide) (fun c_11 => ?_) (fun c_11 => ?_)
      · skip
        have hc_11 := leE (a := 10) (b := x_6.toInt) (by decide +kernel) rfl c_11
        refine lv_aload_n (pc := 38) E.1 E.2.1 dX10_spreadSnow_38 rfl (lv_at hl10 1 rfl) ?_
        refine x_get (pc := 39) (T := TX10) (N := 17) (ci := 10) (v := .int (mi 2)) E hw9 inX10 0 9 q_481 rfl rfl (by decide) rfl rfl dX10_spreadSnow_39 ?_
        refine lv_if_ne (pc := 42) (tgt := 46) E.1 E.2.1 dX10_spreadSnow_42 (by decide) (fun c_12 => ?_) (fun c_12 => ?_)
        · skip
          have hc_12 := neE (a := (mi 2).toInt) (b := 0) rfl (by decide +kernel) c_12
          refine lv_iconst (pc := 46) (v := 0) E.1 E.2.1 dX10_spreadSnow_46 (by decide +kernel) ?_
          refine lv_istore_n (pc := 47) (lv' := [(2, .int 0), (0, .ref (mr 0)), (1, .int z_k)]) E.1 E.2.1 dX10_spreadSnow_47 rfl hl10 (by decide) rfl (fun ls hl13 => ?_)
          have loop_14 : ∀ (k : Nat) (x_15 : Int32) (g_16 : Nat → Int32) (g_17 : Nat → Int32) (H : Heap) (locs : List Loc) (ls : Array Slot), (0 ≤ x_15.toInt) ∧ (x_15.toInt ≤ z_k.toInt) → z_k.toInt - x_15.toInt < (k : Int) → WD D A s.heap (WZ_VO cI cJ mv mr mi (va_up (va_up mf 7 g_16) 8 g_17) mg) H locs → lv_has ls 5 [(2, .int x_15), (0, .ref (mr 0)), (1, .int z_k)] → W p l e ({ frames := 1, cells := 0, slots := 0, locals := 60 } : Room) s m ([.ref (mr 0), .int z_k] : List Value).toArray below meth c H locs 0 0 (MQ below (va_Qv (fun (u : (Nat → Int32) × (Nat → Int32)) => True) (fun u => QW D cI cJ A ((fun (u : (Nat → Int32) × (Nat → Int32)) => (WZ_VO cI cJ mv mr mi (va_up (va_up mf 7 u.1) 8 u.2) mg)) u)) A) ([.ref (mr 0), .int z_k] : List Value).toArray s 0 0 A) (F0 m 48 ls []) := by
            intro k
            induction k with
            | zero =>
              intro x_15 g_16 g_17 _ _ _ hinv hm
              obtain ⟨hi_17_0, hi_17_1⟩ := hinv
              exact absurd hm (by omega)
            | succ k ih_18 =>
              intro x_15 g_16 g_17 H locs ls hinv hm hw19 hl20
              obtain ⟨hi_17_0, hi_17_1⟩ := hinv
              refine lv_iload_n (pc := 48) E.1 E.2.1 dX10_spreadSnow_48 rfl (lv_at hl20 0 rfl) ?_
              refine lv_iload_n (pc := 49) E.1 E.2.1 dX10_spreadSnow_49 rfl (lv_at hl20 2 rfl) ?_
              refine lv_icmp_ge (pc := 50) (tgt := 168) E.1 E.2.1 dX10_spreadSnow_50 (by decide) (fun c_21 => ?_) (fun c_21 => ?_)
              · skip
                have hc_21 := leE (a := z_k.toInt) (b := x_15.toInt) rfl rfl c_21
                exact em_v (w1 := (fun (u : (Nat → Int32) × (Nat → Int32)) => (WZ_VO cI cJ mv mr mi (va_up (va_up mf 7 u.1) 8 u.2) mg))) E hr hlk (g_16, g_17) hw19 trivial (Nat.le_of_ble_eq_true rfl) (Nat.le_of_ble_eq_true rfl) dX10_spreadSnow_168
              · skip
                have hc_21 := nleE (a := z_k.toInt) (b := x_15.toInt) rfl rfl c_21
                refine lv_aload_n (pc := 53) E.1 E.2.1 dX10_spreadSnow_53 rfl (lv_at hl20 1 rfl) ?_
                refine x_get (pc := 54) (T := TX10) (N := 17) (ci := 10) (v := .ref (mr 7)) E hw19 inX10 0 14 q_491 rfl rfl (by decide) rfl rfl dX10_spreadSnow_54 ?_
                refine lv_iconst (pc := 57) (v := 0) E.1 E.2.1 dX10_spreadSnow_57 (by decide +kernel) ?_
                refine lv_aload_n (pc := 58) E.1 E.2.1 dX10_spreadSnow_58 rfl (lv_at hl20 1 rfl) ?_
                refine x_get (pc := 59) (T := TX10) (N := 17) (ci := 10) (v := .ref (mr 8)) E hw19 inX10 0 15 q_492 rfl rfl (by decide) rfl rfl dX10_spreadSnow_59 ?_
                refine lv_iconst (pc := 62) (v := 0) E.1 E.2.1 dX10_spreadSnow_62 (by decide +kernel) ?_
                refine lv_bipush (pc := 63) (v := 10) E.1 E.2.1 dX10_spreadSnow_63 (by decide +kernel) ?_
                refine x_copyG (pc := 65) (N := 10) (wf := fun g => (WZ_VO cI cJ mv mr mi (va_up (va_up mf 7 g_16) 8 g) mg)) E hw19 hl20.1 q_1313 q_967 q_966 q_169 3 4 rfl rfl (by decide +kernel) (by decide +kernel) (Nat.le_of_ble_eq_true rfl) (Nat.le_of_ble_eq_true rfl) (fun _ => rfl) (Nat.le_of_ble_eq_true rfl) (Nat.le_of_ble_eq_true rfl) dX10_spreadSnow_65 (fun g_22 H locs eg_22 hw23 => ?_)
                refine lv_iconst (pc := 68) (v := 0) E.1 E.2.1 dX10_spreadSnow_68 (by decide +kernel) ?_
                refine lv_istore_n (pc := 69) (lv' := [(3, .int 0), (2, .int x_15), (0, .ref (mr 0)), (1, .int z_k)]) E.1 E.2.1 dX10_spreadSnow_69 rfl hl20 (by decide) rfl (fun ls hl24 => ?_)
                have loop_25 : ∀ (k : Nat) (x_26 : Int32) (g_27 : Nat → Int32) (H : Heap) (locs : List Loc) (ls : Array Slot), (0 ≤ x_26.toInt) ∧ (x_26.toInt ≤ 10) → 10 - x_26.toInt < (k : Int) → WD D A s.heap (WZ_VO cI cJ mv mr mi (va_up (va_up mf 7 g_27) 8 g_22) mg) H locs → lv_has ls 5 [(3, .int x_26), (2, .int x_15), (0, .ref (mr 0)), (1, .int z_k)] → W p l e ({ frames := 1, cells := 0, slots := 0, locals := 60 } : Room) s m ([.ref (mr 0), .int z_k] : List Value).toArray below meth c H locs 0 0 (MQ below (va_Qv (fun (u : (Nat → Int32) × (Nat → Int32)) => True) (fun u => QW D cI cJ A ((fun (u : (Nat → Int32) × (Nat → Int32)) => (WZ_VO cI cJ mv mr mi (va_up (va_up mf 7 u.1) 8 u.2) mg)) u)) A) ([.ref (mr 0), .int z_k] : List Value).toArray s 0 0 A) (F0 m 70 ls []) := by
                  intro k
                  induction k with
                  | zero =>
                    intro x_26 g_27 _ _ _ hinv hm
                    obtain ⟨hi_27_0, hi_27_1⟩ := hinv
                    exact absurd hm (by omega)
                  | succ k ih_28 =>
                    intro x_26 g_27 H locs ls hinv hm hw29 hl30
                    obtain ⟨hi_27_0, hi_27_1⟩ := hinv
                    refine lv_iload_n (pc := 70) E.1 E.2.1 dX10_spreadSnow_70 rfl (lv_at hl30 0 rfl) ?_
                    refine lv_bipush (pc := 71) (v := 10) E.1 E.2.1 dX10_spreadSnow_71 (by decide +kernel) ?_
                    refine lv_icmp_ge (pc := 73) (tgt := 89) E.1 E.2.1 dX10_spreadSnow_73 (by decide) (fun c_31 => ?_) (fun c_31 => ?_)
                    · skip
                      have hc_31 := leE (a := 10) (b := x_26.toInt) (by decide +kernel) rfl c_31
                      refine lv_iconst (pc := 89) (v := 0) E.1 E.2.1 dX10_spreadSnow_89 (by decide +kernel) ?_
                      refine lv_istore_n (pc := 90) (lv' := [(3, .int 0), (2, .int x_15), (0, .ref (mr 0)), (1, .int z_k)]) E.1 E.2.1 dX10_spreadSnow_90 rfl hl30 (by decide) rfl (fun ls hl32 => ?_)
                      have loop_33 : ∀ (k : Nat) (x_34 : Int32) (g_35 : Nat → Int32) (H : Heap) (locs : List Loc) (ls : Array Slot), (0 ≤ x_34.toInt) ∧ (x_34.toInt ≤ 10) → 10 - x_34.toInt < (k : Int) → WD D A s.heap (WZ_VO cI cJ mv mr mi (va_up (va_up mf 7 g_35) 8 g_22) mg) H locs → lv_has ls 5 [(3, .int x_34), (2, .int x_15), (0, .ref (mr 0)), (1, .int z_k)] → W p l e ({ frames := 1, cells := 0, slots := 0, locals := 60 } : Room) s m ([.ref (mr 0), .int z_k] : List Value).toArray below meth c H locs 0 0 (MQ below (va_Qv (fun (u : (Nat → Int32) × (Nat → Int32)) => True) (fun u => QW D cI cJ A ((fun (u : (Nat → Int32) × (Nat → Int32)) => (WZ_VO cI cJ mv mr mi (va_up (va_up mf 7 u.1) 8 u.2) mg)) u)) A) ([.ref (mr 0), .int z_k] : List Value).toArray s 0 0 A) (F0 m 91 ls []) := by
                        intro k
                        induction k with
                        | zero =>
                          intro x_34 g_35 _ _ _ hinv hm
                          obtain ⟨hi_35_0, hi_35_1⟩ := hinv
                          exact absurd hm (by omega)
                        | succ k ih_36 =>
                          intro x_34 g_35 H locs ls hinv hm hw37 hl38
                          obtain ⟨hi_35_0, hi_35_1⟩ := hinv
                          refine lv_iload_n (pc := 91) E.1 E.2.1 dX10_spreadSnow_91 rfl (lv_at hl38 0 rfl) ?_
                          refine lv_bipush (pc := 92) (v := 10) E.1 E.2.1 dX10_spreadSnow_92 (by decide +kernel) ?_
                          refine lv_icmp_ge (pc := 94) (tgt := 162) E.1 E.2.1 dX10_spreadSnow_94 (by decide) (fun c_39 => ?_) (fun c_39 => ?_)
                          · skip
                            have hc_39 := leE (a := 10) (b := x_34.toInt) (by decide +kernel) rfl c_39
                            obtain ⟨v_40, ev_40⟩ : ∃ z : Int32, x_15 + Int32.ofInt (1) = z := ⟨_, rfl⟩
                            have hv_40 : v_40.toInt = x_15.toInt + (1) := by rw [← ev_40]; exact incE rfl (by decide) (by omega)
                            refine lv_iinc (pc := 162) (v := v_40) (lv' := [(2, .int v_40), (3, .int x_34), (0, .ref (mr 0)), (1, .int z_k)]) E.1 E.2.1 dX10_spreadSnow_162 hl38 (k := 1) rfl ev_40 (by decide) rfl (fun ls hl41 => ?_)
                            refine lv_goto (pc := 165) (tgt := 48) E.1 E.2.1 dX10_spreadSnow_165 (by decide) ?_
                            exact ih_18 v_40 g_35 g_22 _ _ _ ⟨(by show 0 ≤ v_40.toInt; omega), (by show v_40.toInt ≤ z_k.toInt; omega)⟩ (by omega) hw37 (lv_sub hl41 [0, 2, 3] rfl)
                          · skip
                            have hc_39 := nleE (a := 10) (b := x_34.toInt) (by decide +kernel) rfl c_39
                            refine lv_aload_n (pc := 97) E.1 E.2.1 dX10_spreadSnow_97 rfl (lv_at hl38 2 rfl) ?_
                            refine x_get (pc := 98) (T := TX10) (N := 17) (ci := 10) (v := .ref (mr 8)) E hw37 inX10 0 15 q_492 rfl rfl (by decide) rfl rfl dX10_spreadSnow_98 ?_
                            refine lv_iload_n (pc := 101) E.1 E.2.1 dX10_spreadSnow_101 rfl (lv_at hl38 0 rfl) ?_
                            refine x_iald (pc := 102) (f := g_22) E hw37 4 rfl (inbE (a := x_34.toInt) rfl (by omega)) dX10_spreadSnow_102 ?_
                            refine lv_topi (fun v_42 ev_42 => ?_)
                            refine lv_aload_n (pc := 103) E.1 E.2.1 dX10_spreadSnow_103 rfl (lv_at hl38 2 rfl) ?_
                            refine x_get (pc := 104) (T := TX10) (N := 17) (ci := 10) (v := .int (mi 2)) E hw37 inX10 0 9 q_481 rfl rfl (by decide) rfl rfl dX10_spreadSnow_104 ?_
                            refine lv_imul (pc := 107) E.1 E.2.1 dX10_spreadSnow_107 ?_
                            refine lv_topi (fun v_43 ev_43 => ?_)
                            refine lv_sipush (pc := 108) (v := 1000) E.1 E.2.1 dX10_spreadSnow_108 (by decide +kernel) ?_
                            refine lv_idiv (pc := 111) E.1 E.2.1 dX10_spreadSnow_111 (by decide +kernel) ?_
                            refine lv_topi (fun v_44 ev_44 => ?_)
                            refine lv_istore (pc := 112) (lv' := [(4, .int v_44), (3, .int x_34), (2, .int x_15), (0, .ref (mr 0)), (1, .int z_k)]) E.1 E.2.1 dX10_spreadSnow_112 hl38 (by decide) rfl (fun ls hl45 => ?_)
                            refine lv_aload_n (pc := 114) E.1 E.2.1 dX10_spreadSnow_114 rfl (lv_at hl45 3 rfl) ?_
                            refine x_get (pc := 115) (T := TX10) (N := 17) (ci := 10) (v := .ref (mr 7)) E hw37 inX10 0 14 q_491 rfl rfl (by decide) rfl rfl dX10_spreadSnow_115 ?_
                            refine lv_bipush (pc := 118) (v := 9) E.1 E.2.1 dX10_spreadSnow_118 (by decide +kernel) ?_
                            refine lv_iload_n (pc := 120) E.1 E.2.1 dX10_spreadSnow_120 rfl (lv_at hl45 1 rfl) ?_
                            refine lv_iconst (pc := 121) (v := 1) E.1 E.2.1 dX10_spreadSnow_121 (by decide +kernel) ?_
                            refine lv_iadd (pc := 122) E.1 E.2.1 dX10_spreadSnow_122 ?_
                            refine lv_topi (fun v_46 ev_46 => ?_)
                            have hv_46 : v_46.toInt = x_34.toInt + 1 := by rw [ev_46]; exact addE rfl (by decide +kernel) (by omega)
                            refine x_min (pc := 123) E hl45.1 q_1067 q_808 q_167 q_809 (Nat.le_of_ble_eq_true rfl) (Nat.le_of_ble_eq_true rfl) (Nat.le_of_ble_eq_true rfl) (Nat.le_of_ble_eq_true rfl) dX10_spreadSnow_123 (fun v_47 hv_47 => ?_)
                            rw [show (9 : Int32).toInt = 9 from by decide +kernel] at hv_47
                            have hv_47a : v_47.toInt ≤ 9 ∧ v_47.toInt ≤ v_46.toInt := by omega
                            have hv_47b : 1 ≤ v_47.toInt := by omega
                            clear hv_47
                            refine lv_dup2_11 (pc := 126) E.1 E.2.1 dX10_spreadSnow_126 rfl rfl ?_
                            refine x_iald (pc := 127) (f := g_35) E hw37 3 rfl (inbE (a := v_47.toInt) rfl (by omega)) dX10_spreadSnow_127 ?_
                            refine lv_topi (fun v_48 ev_48 => ?_)
                            refine lv_iload (pc := 128) E.1 E.2.1 dX10_spreadSnow_128 (lv_at hl45 0 rfl) ?_
                            refine lv_iadd (pc := 130) E.1 E.2.1 dX10_spreadSnow_130 ?_
                            refine lv_topi (fun v_49 ev_49 => ?_)
                            refine x_iastG (pc := 131) (f := g_35) (wf := fun g => (WZ_VO cI cJ mv mr mi (va_up (va_up mf 7 g) 8 g_22) mg)) E hw37 3 rfl (inbE (a := v_47.toInt) rfl (by omega)) (fun _ => rfl) dX10_spreadSnow_131 (fun g_50 H locs eg_50 hw51 => ?_)
                            refine lv_aload_n (pc := 132) E.1 E.2.1 dX10_spreadSnow_132 rfl (lv_at hl45 3 rfl) ?_
                            refine x_get (pc := 133) (T := TX10) (N := 17) (ci := 10) (v := .ref (mr 7)) E hw51 inX10 0 14 q_491 rfl rfl (by decide) rfl rfl dX10_spreadSnow_133 ?_
                            refine lv_iconst (pc := 136) (v := 0) E.1 E.2.1 dX10_spreadSnow_136 (by decide +kernel) ?_
                            refine lv_iload_n (pc := 137) E.1 E.2.1 dX10_spreadSnow_137 rfl (lv_at hl45 1 rfl) ?_
                            refine lv_iconst (pc := 138) (v := 1) E.1 E.2.1 dX10_spreadSnow_138 (by decide +kernel) ?_
                            refine lv_isub (pc := 139) E.1 E.2.1 dX10_spreadSnow_139 ?_
                            refine lv_topi (fun v_52 ev_52 => ?_)
                            have hv_52 : v_52.toInt = x_34.toInt - 1 := by rw [ev_52]; exact subE rfl (by decide +kernel) (by omega)
                            refine x_max (pc := 140) E hl45.1 q_1068 q_805 q_167 q_806 (Nat.le_of_ble_eq_true rfl) (Nat.le_of_ble_eq_true rfl) (Nat.le_of_ble_eq_true rfl) (Nat.le_of_ble_eq_true rfl) dX10_spreadSnow_140 (fun v_53 hv_53 => ?_)
                            rw [show (0 : Int32).toInt = 0 from by decide +kernel] at hv_53
                            have hv_53a : 0 ≤ v_53.toInt ∧ v_52.toInt ≤ v_53.toInt := by omega
                            have hv_53b : v_53.toInt ≤ 8 := by omega
                            clear hv_53
                            refine lv_dup2_11 (pc := 143) E.1 E.2.1 dX10_spreadSnow_143 rfl rfl ?_
                            refine x_iald (pc := 144) (f := g_50) E hw51 3 rfl (inbE (a := v_53.toInt) rfl (by omega)) dX10_spreadSnow_144 ?_
                            refine lv_topi (fun v_54 ev_54 => ?_)
                            refine lv_aload_n (pc := 145) E.1 E.2.1 dX10_spreadSnow_145 rfl (lv_at hl45 3 rfl) ?_
                            refine x_get (pc := 146) (T := TX10) (N := 17) (ci := 10) (v := .ref (mr 8)) E hw51 inX10 0 15 q_492 rfl rfl (by decide) rfl rfl dX10_spreadSnow_146 ?_
                            refine lv_iload_n (pc := 149) E.1 E.2.1 dX10_spreadSnow_149 rfl (lv_at hl45 1 rfl) ?_
                            refine x_iald (pc := 150) (f := g_22) E hw51 4 rfl (inbE (a := x_34.toInt) rfl (by omega)) dX10_spreadSnow_150 ?_
                            refine lv_topi (fun v_55 ev_55 => ?_)
                            have hsv_55 : v_55.toInt = v_42.toInt := by rw [ev_55, ev_42]
                            refine lv_iload (pc := 151) E.1 E.2.1 dX10_spreadSnow_151 (lv_at hl45 0 rfl) ?_
                            refine lv_isub (pc := 153) E.1 E.2.1 dX10_spreadSnow_153 ?_
                            refine lv_topi (fun v_56 ev_56 => ?_)
                            refine lv_iadd (pc := 154) E.1 E.2.1 dX10_spreadSnow_154 ?_
                            refine lv_topi (fun v_57 ev_57 => ?_)
                            refine x_iastG (pc := 155) (f := g_50) (wf := fun g => (WZ_VO cI cJ mv mr mi (va_up (va_up mf 7 g) 8 g_22) mg)) E hw51 3 rfl (inbE (a := v_53.toInt) rfl (by omega)) (fun _ => rfl) dX10_spreadSnow_155 (fun g_58 H locs eg_58 hw59 => ?_)
                            obtain ⟨v_60, ev_60⟩ : ∃ z : Int32, x_34 + Int32.ofInt (1) = z := ⟨_, rfl⟩
                            have hv_60 : v_60.toInt = x_34.toInt + (1) := by rw [← ev_60]; exact incE rfl (by decide) (by omega)
                            refine lv_iinc (pc := 156) (v := v_60) (lv' := [(3, .int v_60), (4, .int v_44), (2, .int x_15), (0, .ref (mr 0)), (1, .int z_k)]) E.1 E.2.1 dX10_spreadSnow_156 hl45 (k := 1) rfl ev_60 (by decide) rfl (fun ls hl61 => ?_)
                            refine lv_goto (pc := 159) (tgt := 91) E.1 E.2.1 dX10_spreadSnow_159 (by decide) ?_
                            exact ih_36 v_60 g_58 _ _ _ ⟨(by show 0 ≤ v_60.toInt; omega), (by show v_60.toInt ≤ 10; omega)⟩ (by omega) hw59 (lv_sub hl61 [0, 2, 3, 4] rfl)
                      exact loop_33 (Int.toNat (10 - 0) + 1) 0 g_27 _ _ _ ⟨(by show 0 ≤ (0 : Int32).toInt; have k_0 : (0 : Int32).toInt = 0 := (by decide +kernel); omega), (by show (0 : Int32).toInt ≤ 10; have k_0 : (0 : Int32).toInt = 0 := (by decide +kernel); omega)⟩ (by have k_0 : (0 : Int32).toInt = 0 := (by decide +kernel); omega) hw29 (lv_sub hl32 [0, 1, 2, 3] rfl)
                    · skip
                      have hc_31 := nleE (a := 10) (b := x_26.toInt) (by decide +kernel) rfl c_31
                      refine lv_aload_n (pc := 76) E.1 E.2.1 dX10_spreadSnow_76 rfl (lv_at hl30 2 rfl) ?_
                      refine x_get (pc := 77) (T := TX10) (N := 17) (ci := 10) (v := .ref (mr 7)) E hw29 inX10 0 14 q_491 rfl rfl (by decide) rfl rfl dX10_spreadSnow_77 ?_
                      refine lv_iload_n (pc := 80) E.1 E.2.1 dX10_spreadSnow_80 rfl (lv_at hl30 0 rfl) ?_
                      refine lv_iconst (pc := 81) (v := 0) E.1 E.2.1 dX10_spreadSnow_81 (by decide +kernel) ?_
                      refine x_iastG (pc := 82) (f := g_27) (wf := fun g => (WZ_VO cI cJ mv mr mi (va_up (va_up mf 7 g) 8 g_22) mg)) E hw29 3 rfl (inbE (a := x_26.toInt) rfl (by omega)) (fun _ => rfl) dX10_spreadSnow_82 (fun g_62 H locs eg_62 hw63 => ?_)
                      obtain ⟨v_64, ev_64⟩ : ∃ z : Int32, x_26 + Int32.ofInt (1) = z := ⟨_, rfl⟩
                      have hv_64 : v_64.toInt = x_26.toInt + (1) := by rw [← ev_64]; exact incE rfl (by decide) (by omega)
                      refine lv_iinc (pc := 83) (v := v_64) (lv' := [(3, .int v_64), (2, .int x_15), (0, .ref (mr 0)), (1, .int z_k)]) E.1 E.2.1 dX10_spreadSnow_83 hl30 (k := 0) rfl ev_64 (by decide) rfl (fun ls hl65 => ?_)
                      refine lv_goto (pc := 86) (tgt := 70) E.1 E.2.1 dX10_spreadSnow_86 (by decide) ?_
                      exact ih_28 v_64 g_62 _ _ _ ⟨(by show 0 ≤ v_64.toInt; omega), (by show v_64.toInt ≤ 10; omega)⟩ (by omega) hw63 (lv_sub hl65 [0, 1, 2, 3] rfl)
                exact loop_25 (Int.toNat (10 - 0) + 1) 0 g_16 _ _ _ ⟨(by show 0 ≤ (0 : Int32).toInt; have k_0 : (0 : Int32).toInt = 0 := (by decide +kernel); omega), (by show (0 : Int32).toInt ≤ 10; have k_0 : (0 : Int32).toInt = 0 := (by decide +kernel); omega)⟩ (by have k_0 : (0 : Int32).toInt = 0 := (by decide +kernel); omega) hw23 (lv_sub hl24 [0, 1, 2, 3] rfl)
          exact loop_14 (Int.toNat (z_k.toInt - 0) + 1) 0 g_7 (mf 8) _ _ _ ⟨(by show 0 ≤ (0 : Int32).toInt; have k_0 : (0 : Int32).toInt = 0 := (by decide +kernel); omega), (by show (0 : Int32).toInt ≤ z_k.toInt; have k_0 : (0 : Int32).toInt = 0 := (by decide +kernel); omega)⟩ (by have k_0 : (0 : Int32).toInt = 0 := (by decide +kernel); omega) hw9 (lv_sub hl13 [0, 1, 2] rfl)
        · skip
          have hc_12 := eqE (a := (mi 2).toInt) (b := 0) rfl (by decide +kernel) c_12
          exact em_v (w1 := (fun (u : (Nat → Int32) × (Nat → Int32)) => (WZ_VO cI cJ mv mr mi (va_up (va_up mf 7 u.1) 8 u.2) mg))) E hr hlk (g_7, (mf 8)) hw9 trivial (Nat.le_of_ble_eq_true rfl) (Nat.le_of_ble_eq_true rfl) dX10_spreadSnow_45
      · skip
        have hc_11 := nleE (a := 10) (b := x_6.toInt) (by decide +kernel) rfl c_11
        refine lv_aload_n (pc := 8) E.1 E.2.1 dX10_spreadSnow_8 rfl (lv_at hl10 1 rfl) ?_
        refine x_get (pc := 9) (T := TX10) (N := 17) (ci := 10) (v := .ref (mr 7)) E hw9 inX10 0 14 q_491 rfl rfl (by decide) rfl rfl dX10_spreadSnow_9 ?_
        refine lv_iload_n (pc := 12) E.1 E.2.1 dX10_spreadSnow_12 rfl (lv_at hl10 0 rfl) ?_
        refine lv_iload_n (pc := 13) E.1 E.2.1 dX10_spreadSnow_13 rfl (lv_at hl10 0 rfl) ?_
        refine lv_aload_n (pc := 14) E.1 E.2.1 dX10_spreadSnow_14 rfl (lv_at hl10 1 rfl) ?_
        refine x_get (pc := 15) (T := TX10) (N := 17) (ci := 10) (v := .ref (mr 10)) E hw9 inX10 0 0 q_457 rfl rfl (by decide) rfl rfl dX10_spreadSnow_15 ?_
        refine x_get (pc := 18) (T := TX4) (N := 12) (ci := 4) (v := .int (mi 19)) E hw9 inX4 6 8 q_223 rfl rfl (by decide) rfl rfl dX10_spreadSnow_18 ?_
        refine lv_icmp_ne (pc := 21) (tgt := 30) E.1 E.2.1 dX10_spreadSnow_21 (by decide) (fun c_66 => ?_) (fun c_66 => ?_)
        · skip
          have hc_66 := neE (a := x_6.toInt) (b := (mi 19).toInt) rfl rfl c_66
          refine lv_iconst (pc := 30) (v := 0) E.1 E.2.1 dX10_spreadSnow_30 (by decide +kernel) ?_
          refine x_iastG (pc := 31) (f := g_7) (wf := fun g => (WZ_VO cI cJ mv mr mi (va_up mf 7 g) mg)) E hw9 3 rfl (inbE (a := x_6.toInt) rfl (by omega)) (fun _ => rfl) dX10_spreadSnow_31 (fun g_67 H locs eg_67 hw68 => ?_)
          obtain ⟨v_69, ev_69⟩ : ∃ z : Int32, x_6 + Int32.ofInt (1) = z := ⟨_, rfl⟩
          have hv_69 : v_69.toInt = x_6.toInt + (1) := by rw [← ev_69]; exact incE rfl (by decide) (by omega)
          refine lv_iinc (pc := 32) (v := v_69) (lv' := [(2, .int v_69), (0, .ref (mr 0)), (1, .int z_k)]) E.1 E.2.1 dX10_spreadSnow_32 hl10 (k := 0) rfl ev_69 (by decide) rfl (fun ls hl70 => ?_)
          refine lv_goto (pc := 35) (tgt := 2) E.1 E.2.1 dX10_spreadSnow_35 (by decide) ?_
          exact ih_8 v_69 g_67 _ _ _ ⟨(by show 0 ≤ v_69.toInt; omega), (by show v_69.toInt ≤ 10; omega)⟩ (by omega) hw68 (lv_sub hl70 [0, 1, 2] rfl)
        · skip
          have hc_66 := eqE (a := x_6.toInt) (b := (mi 19).toInt) rfl rfl c_66
          refine lv_ldcw (pc := 24) (v := 1000000) E.1 E.2.1 E.2.2.2.1 (E.2.2.2.2.1 _ q_1312) dX10_spreadSnow_24 ?_
          refine lv_goto (pc := 27) (tgt := 31) E.1 E.2.1 dX10_spreadSnow_27 (by decide) ?_
          refine x_iastG (pc := 31) (f := g_7) (wf := fun g => (WZ_VO cI cJ mv mr mi (va_up mf 7 g) mg)) E hw9 3 rfl (inbE (a := x_6.toInt) rfl (by omega)) (fun _ => rfl) dX10_spreadSnow_31 (fun g_71 H locs eg_71 hw72 => ?_)
          obtain ⟨v_73, ev_73⟩ : ∃ z : Int32, x_6 + Int32.ofInt (1) = z := ⟨_, rfl⟩
          have hv_73 : v_73.toInt = x_6.toInt + (1) := by rw [← ev_73]; exact incE rfl (by decide) (by omega)
          refine lv_iinc (pc := 32) (v := v_73) (lv' := [(2, .int v_73), (0, .ref (mr 0)), (1, .int z_k)]) E.1 E.2.1 dX10_spreadSnow_32 hl10 (k := 0) rfl ev_73 (by decide) rfl (fun ls hl74 => ?_)
          refine lv_goto (pc := 35) (tgt := 2) E.1 E.2.1 dX10_spreadSnow_35 (by decide) ?_
          exact ih_8 v_73 g_71 _ _ _ ⟨(by show 0 ≤ v_73.toInt; omega), (by show v_73.toInt ≤ 10; omega)⟩ (by omega) hw72 (lv_sub hl74 [0, 1, 2] rfl)
  exact loop_5 (Int.toNat (10 - 0) + 1) 0 (mf 7) _ _ _ ⟨(by show 0 ≤ (0 : Int32).toInt; have k_0 : (0 : Int32).toInt = 0 := (by decide +kernel); omega), (by show (0 : Int32).toInt ≤ 10; have k_0 : (0 : Int32).toInt = 0 := (by decide +kernel); omega)⟩ (by have k_0 : (0 : Int32).toInt = 0 := (by decide +kernel); omega) hw1 (lv_sub hl4 [0, 1, 2] rfl)
set_option maxHeartbeats 4000000 in
set_option maxRecDepth 100000 in
theorem t_weighReaching (l : Launch) (D : va_G) (cI cJ : ClassId) (sz : Nat) (mr : Nat → Nat) (mi : Nat → Int32) (mf : Nat → Nat → Int32) (mg : Nat → Nat → Int64) (z_goal : Int32) (z_k : Int32) (mv : Nat → Value) (h0 : 0 ≤ (mi 29).toInt ∧ (mi 29).toInt ≤ 10) (h1 : 0 ≤ (mi 37).toInt ∧ (mi 37).toInt ≤ 40) (h2 : 0 ≤ (mi 46).toInt ∧ (mi 46).toInt ≤ 10) (h3 : 1 ≤ z_k.toInt ∧ z_k.toInt ≤ 9) (a_p_from : p9 (mf 33)) (a_p_to : p9 (mf 34)) : Met l yX10_weighReaching (Cond.code yX10_weighReaching cX10_weighReaching 5 none :: GW) ({ frames := 5, cells := 0, slots := 0, locals := 139 } : Room) (va_Pc [.ref (mr 0), .int z_goal, .int z_k] (PW D cI cJ sz (WZ_VO cI cJ mv mr mi mf mg) xT)) (va_Qv (fun (u : (Nat → Int32) × (Nat → Int32) × (Nat → Int32) × (Nat → Int32) × (Nat → Int32)) => True) (fun u => QW D cI cJ (va_A (WZ_VO cI cJ mv mr mi mf mg) sz) ((fun (u : (Nat → Int32) × (Nat → Int32) × (Nat → Int32) × (Nat → Int32) × (Nat → Int32)) => (WZ_VO cI cJ mv mr mi (va_up (va_up (va_up (va_up (va_up mf 38 u.1) 39 u.2.1) 7 u.2.2.1) 8 u.2.2.2.1) 9 u.2.2.2.2) mg)) u)) (va_A (WZ_VO cI cJ mv mr mi mf mg) sz)) 0 0 (va_A (WZ_VO cI cJ mv mr mi mf mg) sz) := by
  refine mk_met (y := yX10_weighReaching) (bytes := cX10_weighReaching) (maxL := 5) (avs := [.ref (mr 0), .int z_goal, .int z_k]) (WS := (WZ_VO cI cJ mv mr mi mf mg)) (Qf := fun A => va_Qv (fun (u : (Nat → Int32) × (Nat → Int32) × (Nat → Int32) × (Nat → Int32) × (Nat → Int32)) => True) (fun u => QW D cI cJ A ((fun (u : (Nat → Int32) × (Nat → Int32) × (Nat → Int32) × (Nat → Int32) × (Nat → Int32)) => (WZ_VO cI cJ mv mr mi (va_up (va_up (va_up (va_up (va_up mf 38 u.1) 39 u.2.1) 7 u.2.2.1) 8 u.2.2.2.1) 9 u.2.2.2.2) mg)) u)) A) (by decide) (Nat.le_of_ble_eq_true rfl) ?_
  intro p e s m below meth c A ls E hr hlk hnm hX hw1 hl2
  have hl3 : lv_has ls 5 [(0, .ref (mr 0)), (1, .int z_goal), (2, .int z_k)] := hl2
  refine lv_aload_n (pc := 0) E.1 E.2.1 dX10_weighReaching_0 rfl (lv_at hl3 0 rfl) ?_
  refine lv_iload_n (pc := 1) E.1 E.2.1 dX10_weighReaching_1 rfl (lv_at hl3 2 rfl) ?_
  refine ck_v (pc := 2) (ws' := (fun (u : (Nat → Int32) × (Nat → Int32)) => (WZ_VO cI cJ mv mr mi (va_up (va_up mf 7 u.1) 8 u.2) mg))) [true, true, true, true, true, true, true, true, true, true, true, true, true, true, true, true, true, true, true, true, true, true, true, true, true, true, true, true, true, true, true, true, true, true, true, true, true, true, true, true, true, true, true, true, true, true, true, true, true, true] hw1 rfl (fun hC_ => (rn_V (As := [.int z_k]) (rest := []) E hw1 (t_spreadSnow l D cI cJ _ mr mi mf mg z_k (vl [mv 0]) h3) (gdV q_1308 q_1310 q_44 q_152 q_1311) hdV_X10_spreadSnow ⟨rfl, rfl⟩ ⟨(Nat.le_of_ble_eq_true rfl), (Nat.le_of_ble_eq_true rfl)⟩ ⟨(Nat.le_of_ble_eq_true rfl), (Nat.le_of_ble_eq_true rfl)⟩ xT_b xT_at 0 10 rfl rfl rfl _ hC_ (nd_T _ 0) rfl hl3.1 rfl (Nat.le_of_ble_eq_true rfl) dX10_weighReaching_2)) rfl (fun _ => rfl) (fun _ => rfl) (fun u_4 H1 locs hp hw6 => ?_)
  obtain ⟨gchance_7, gchanceAhead_8⟩ := u_4
  generalize H1 = H at hw6 ⊢
  have hw9 : WD D A s.heap (WZ_VO cI cJ mv mr mi (va_up (va_up mf 7 gchance_7) 8 gchanceAhead_8) mg) H locs := hw6
  refine lv_iconst (pc := 5) (v := 0) E.1 E.2.1 dX10_weighReaching_5 (by decide +kernel) ?_
  refine lv_istore_n (pc := 6) (lv' := [(3, .int 0), (0, .ref (mr 0)), (1, .int z_goal), (2, .int z_k)]) E.1 E.2.1 dX10_weighReaching_6 rfl hl3 (by decide) rfl (fun ls hl10 => ?_)
  have loop_11 : ∀ (k : Nat) (x_12 : Int32) (g_13 : Nat → Int32) (H : Heap) (locs : List Loc) (ls : Array Slot), (0 ≤ x_12.toInt) ∧ (x_12.toInt ≤ (mi 29).toInt) → (mi 29).toInt - x_12.toInt < (k : Int) → WD D A s.heap (WZ_VO cI cJ mv mr mi (va_up (va_up (va_up mf 7 gchance_7) 8 gchanceAhead_8) 9 g_13) mg) H locs → lv_has ls 5 [(3, .int x_12), (0, .ref (mr 0)), (1, .int z_goal), (2, .int z_k)] → W p l e ({ frames := 5, cells := 0, slots := 0, locals := 139 } : Room) s m ([.ref (mr 0), .int z_goal, .int z_k] : List Value).toArray below meth c H locs 0 0 (MQ below (va_Qv (fun (u : (Nat → Int32) × (Nat → Int32) × (Nat → Int32) × (Nat → Int32) × (Nat → Int32)) => True) (fun u => QW D cI cJ A ((fun (u : (Nat → Int32) × (Nat → Int32) × (Nat → Int32) × (Nat → Int32) × (Nat → Int32)) => (WZ_VO cI cJ mv mr mi (va_up (va_up (va_up (va_up (va_up mf 38 u.1) 39 u.2.1) 7 u.2.2.1) 8 u.2.2.2.1) 9 u.2.2.2.2) mg)) u)) A) ([.ref (mr 0), .int z_goal, .int z_k] : List Value).toArray s 0 0 A) (F0 m 7 ls []) := by
    intro k
    induction k with
    | zero =>
      intro x_12 g_13 _ _ _ hinv hm
      obtain ⟨hi_13_0, hi_13_1⟩ := hinv
      exact absurd hm (by omega)
    | succ k ih_14 =>
      intro x_12 g_13 H locs ls hinv hm hw15 hl16
      obtain ⟨hi_13_0, hi_13_1⟩ := hinv
      refine lv_iload_n (pc := 7) E.1 E.2.1 dX10_weighReaching_7 rfl (lv_at hl16 0 rfl) ?_
      refine lv_aload_n (pc := 8) E.1 E.2.1 dX10_weighReaching_8 rfl (lv_at hl16 1 rfl) ?_
      refine x_get (pc := 9) (T := TX10) (N := 17) (ci := 10) (v := .ref (mr 23)) E hw15 inX10 0 1 q_460 rfl rfl (by decide) rfl rfl dX10_weighReaching_9 ?_
      refine x_get (pc := 12) (T := TX1) (N := 9) (ci := 1) (v := .int (mi 29)) E hw15 inX1 12 5 q_283 rfl rfl (by decide) rfl rfl dX10_weighReaching_12 ?_
      refine lv_icmp_ge (pc := 15) (tgt := 31) E.1 E.2.1 dX10_weighReaching_15 (by decide) (fun c_17 => ?_) (fun c_17 => ?_)
      · skip
        have hc_17 := leE (a := (mi 29).toInt) (b := x_12.toInt) rfl rfl c_17
        refine lv_iconst (pc := 31) (v := 0) E.1 E.2.1 dX10_weighReaching_31 (by decide +kernel) ?_
        refine lv_istore_n (pc := 32) (lv' := [(3, .int 0), (0, .ref (mr 0)), (1, .int z_goal), (2, .int z_k)]) E.1 E.2.1 dX10_weighReaching_32 rfl hl16 (by decide) rfl (fun ls hl18 => ?_)
        have loop_19 : ∀ (k : Nat) (x_20 : Int32) (g_21 : Nat → Int32) (g_22 : Nat → Int32) (g_23 : Nat → Int32) (H : Heap) (locs : List Loc) (ls : Array Slot), (0 ≤ x_20.toInt) ∧ (x_20.toInt ≤ 10) → 10 - x_20.toInt < (k : Int) → WD D A s.heap (WZ_VO cI cJ mv mr mi (va_up (va_up (va_up (va_up (va_up mf 7 gchance_7) 8 gchanceAhead_8) 9 g_21) 38 g_22) 39 g_23) mg) H locs → lv_has ls 5 [(3, .int x_20), (0, .ref (mr 0)), (1, .int z_goal), (2, .int z_k)] → W p l e ({ frames := 5, cells := 0, slots := 0, locals := 139 } : Room) s m ([.ref (mr 0), .int z_goal, .int z_k] : List Value).toArray below meth c H locs 0 0 (MQ below (va_Qv (fun (u : (Nat → Int32) × (Nat → Int32) × (Nat → Int32) × (Nat → Int32) × (Nat → Int32)) => True) (fun u => QW D cI cJ A ((fun (u : (Nat → Int32) × (Nat → Int32) × (Nat → Int32) × (Nat → Int32) × (Nat → Int32)) => (WZ_VO cI cJ mv mr mi (va_up (va_up (va_up (va_up (va_up mf 38 u.1) 39 u.2.1) 7 u.2.2.1) 8 u.2.2.2.1) 9 u.2.2.2.2) mg)) u)) A) ([.ref (mr 0), .int z_goal, .int z_k] : List Value).toArray s 0 0 A) (F0 m 33 ls []) := by
          intro k
          induction k with
          | zero =>
            intro x_20 g_21 g_22 g_23 _ _ _ hinv hm
            obtain ⟨hi_23_0, hi_23_1⟩ := hinv
            exact absurd hm (by omega)
          | succ k ih_24 =>
            intro x_20 g_21 g_22 g_23 H locs ls hinv hm hw25 hl26
            obtain ⟨hi_23_0, hi_23_1⟩ := hinv
            refine lv_iload_n (pc := 33) E.1 E.2.1 dX10_weighReaching_33 rfl (lv_at hl26 0 rfl) ?_
            refine lv_bipush (pc := 34) (v := 10) E.1 E.2.1 dX10_weighReaching_34 (by decide +kernel) ?_
            refine lv_icmp_ge (pc := 36) (tgt := 102) E.1 E.2.1 dX10_weighReaching_36 (by decide) (fun c_27 => ?_) (fun c_27 => ?_)
            · skip
              have hc_27 := leE (a := 10) (b := x_20.toInt) (by decide +kernel) rfl c_27
              exact em_v (w1 := (fun (u : (Nat → Int32) × (Nat → Int32) × (Nat → Int32) × (Nat → Int32) × (Nat → Int32)) => (WZ_VO cI cJ mv mr mi (va_up (va_up (va_up (va_up (va_up mf 38 u.1) 39 u.2.1) 7 u.2.2.1) 8 u.2.2.2.1) 9 u.2.2.2.2) mg))) E hr hlk (g_22, g_23, gchance_7, gchanceAhead_8, g_21) hw25 trivial (Nat.le_of_ble_eq_true rfl) (Nat.le_of_ble_eq_true rfl) dX10_weighReaching_102
            · skip
              have hc_27 := nleE (a := 10) (b := x_20.toInt) (by decide +kernel) rfl c_27
              refine lv_aload_n (pc := 39) E.1 E.2.1 dX10_weighReaching_39 rfl (lv_at hl26 1 rfl) ?_
              refine x_get (pc := 40) (T := TX10) (N := 17) (ci := 10) (v := .ref (mr 7)) E hw25 inX10 0 14 q_491 rfl rfl (by decide) rfl rfl dX10_weighReaching_40 ?_
              refine lv_iload_n (pc := 43) E.1 E.2.1 dX10_weighReaching_43 rfl (lv_at hl26 0 rfl) ?_
              refine x_iald (pc := 44) (f := gchance_7) E hw25 3 rfl (inbE (a := x_20.toInt) rfl (by omega)) dX10_weighReaching_44 ?_
              refine lv_topi (fun v_28 ev_28 => ?_)
              refine lv_if_le (pc := 45) (tgt := 96) E.1 E.2.1 dX10_weighReaching_45 (by decide) (fun c_29 => ?_) (fun c_29 => ?_)
              · skip
                have hc_29 := leE (a := v_28.toInt) (b := 0) rfl (by decide +kernel) c_29
                obtain ⟨v_30, ev_30⟩ : ∃ z : Int32, x_20 + Int32.ofInt (1) = z := ⟨_, rfl⟩
                have hv_30 : v_30.toInt = x_20.toInt + (1) := by rw [← ev_30]; exact incE rfl (by decide) (by omega)
                refine lv_iinc (pc := 96) (v := v_30) (lv' := [(3, .int v_30), (0, .ref (mr 0)), (1, .int z_goal), (2, .int z_k)]) E.1 E.2.1 dX10_weighReaching_96 hl26 (k := 0) rfl ev_30 (by decide) rfl (fun ls hl31 => ?_)
                refine lv_goto (pc := 99) (tgt := 33) E.1 E.2.1 dX10_weighReaching_99 (by decide) ?_
                exact ih_24 v_30 g_21 g_22 g_23 _ _ _ ⟨(by show 0 ≤ v_30.toInt; omega), (by show v_30.toInt ≤ 10; omega)⟩ (by omega) hw25 (lv_sub hl31 [0, 1, 2, 3] rfl)
              · skip
                have hc_29 := nleE (a := v_28.toInt) (b := 0) rfl (by decide +kernel) c_29
                refine lv_iconst (pc := 48) (v := 0) E.1 E.2.1 dX10_weighReaching_48 (by decide +kernel) ?_
                refine lv_istore (pc := 49) (lv' := [(4, .int 0), (3, .int x_20), (0, .ref (mr 0)), (1, .int z_goal), (2, .int z_k)]) E.1 E.2.1 dX10_weighReaching_49 hl26 (by decide) rfl (fun ls hl32 => ?_)
                have loop_33 : ∀ (k : Nat) (x_34 : Int32) (g_35 : Nat → Int32) (g_36 : Nat → Int32) (g_37 : Nat → Int32) (H : Heap) (locs : List Loc) (ls : Array Slot), (0 ≤ x_34.toInt) ∧ (x_34.toInt ≤ (mi 29).toInt) → (mi 29).toInt - x_34.toInt < (k : Int) → WD D A s.heap (WZ_VO cI cJ mv mr mi (va_up (va_up (va_up (va_up (va_up mf 7 gchance_7) 8 gchanceAhead_8) 9 g_35) 38 g_36) 39 g_37) mg) H locs → lv_has ls 5 [(4, .int x_34), (3, .int x_20), (0, .ref (mr 0)), (1, .int z_goal), (2, .int z_k)] → W p l e ({ frames := 5, cells := 0, slots := 0, locals := 139 } : Room) s m ([.ref (mr 0), .int z_goal, .int z_k] : List Value).toArray below meth c H locs 0 0 (MQ below (va_Qv (fun (u : (Nat → Int32) × (Nat → Int32) × (Nat → Int32) × (Nat → Int32) × (Nat → Int32)) => True) (fun u => QW D cI cJ A ((fun (u : (Nat → Int32) × (Nat → Int32) × (Nat → Int32) × (Nat → Int32) × (Nat → Int32)) => (WZ_VO cI cJ mv mr mi (va_up (va_up (va_up (va_up (va_up mf 38 u.1) 39 u.2.1) 7 u.2.2.1) 8 u.2.2.2.1) 9 u.2.2.2.2) mg)) u)) A) ([.ref (mr 0), .int z_goal, .int z_k] : List Value).toArray s 0 0 A) (F0 m 51 ls []) := by
                  intro k
                  induction k with
                  | zero =>
                    intro x_34 g_35 g_36 g_37 _ _ _ hinv hm
                    obtain ⟨hi_37_0, hi_37_1⟩ := hinv
                    exact absurd hm (by omega)
                  | succ k ih_38 =>
                    intro x_34 g_35 g_36 g_37 H locs ls hinv hm hw39 hl40
                    obtain ⟨hi_37_0, hi_37_1⟩ := hinv
                    refine lv_iload (pc := 51) E.1 E.2.1 dX10_weighReaching_51 (lv_at hl40 0 rfl) ?_
                    refine lv_aload_n (pc := 53) E.1 E.2.1 dX10_weighReaching_53 rfl (lv_at hl40 2 rfl) ?_
                    refine x_get (pc := 54) (T := TX10) (N := 17) (ci := 10) (v := .ref (mr 23)) E hw39 inX10 0 1 q_460 rfl rfl (by decide) rfl rfl dX10_weighReaching_54 ?_
                    refine x_get (pc := 57) (T := TX1) (N := 9) (ci := 1) (v := .int (mi 29)) E hw39 inX1 12 5 q_283 rfl rfl (by decide) rfl rfl dX10_weighReaching_57 ?_
                    refine lv_icmp_ge (pc := 60) (tgt := 96) E.1 E.2.1 dX10_weighReaching_60 (by decide) (fun c_41 => ?_) (fun c_41 => ?_)
                    · skip
                      have hc_41 := leE (a := (mi 29).toInt) (b := x_34.toInt) rfl rfl c_41
                      obtain ⟨v_42, ev_42⟩ : ∃ z : Int32, x_20 + Int32.ofInt (1) = z := ⟨_, rfl⟩
                      have hv_42 : v_42.toInt = x_20.toInt + (1) := by rw [← ev_42]; exact incE rfl (by decide) (by omega)
                      refine lv_iinc (pc := 96) (v := v_42) (lv' := [(3, .int v_42), (4, .int x_34), (0, .ref (mr 0)), (1, .int z_goal), (2, .int z_k)]) E.1 E.2.1 dX10_weighReaching_96 hl40 (k := 1) rfl ev_42 (by decide) rfl (fun ls hl43 => ?_)
                      refine lv_goto (pc := 99) (tgt := 33) E.1 E.2.1 dX10_weighReaching_99 (by decide) ?_
                      exact ih_24 v_42 g_35 g_36 g_37 _ _ _ ⟨(by show 0 ≤ v_42.toInt; omega), (by show v_42.toInt ≤ 10; omega)⟩ (by omega) hw39 (lv_sub hl43 [0, 2, 3, 4] rfl)
                    · skip
                      have hc_41 := nleE (a := (mi 29).toInt) (b := x_34.toInt) rfl rfl c_41
                      refine lv_aload_n (pc := 63) E.1 E.2.1 dX10_weighReaching_63 rfl (lv_at hl40 2 rfl) ?_
                      refine lv_iload_n (pc := 64) E.1 E.2.1 dX10_weighReaching_64 rfl (lv_at hl40 3 rfl) ?_
                      refine lv_iload (pc := 65) E.1 E.2.1 dX10_weighReaching_65 (lv_at hl40 0 rfl) ?_
                      refine lv_iload_n (pc := 67) E.1 E.2.1 dX10_weighReaching_67 rfl (lv_at hl40 1 rfl) ?_
                      refine ck_i (pc := 68) (ws' := (fun (u : (Nat → Int32) × (Nat → Int32)) => (WZ_VO cI cJ mv mr mi (va_up (va_up (va_up (va_up (va_up mf 7 gchance_7) 8 gchanceAhead_8) 9 g_35) 38 u.1) 39 u.2) mg))) [true, true, true, true, true, true, true, true, true, true, true, true, true, true, true, true, true, true, true, true, true, true, true, true, true, true, true, true, true, true, true, true, true, true, true, true, true, true, true, true, true, true, true, true, true, true, true, true, true, true] hw39 rfl (fun hC_ => (rn_V (As := [.int z_goal, .int x_34, .int x_20]) (rest := []) E hw39 (t_isReached l D cI cJ _ mr mi (va_up (va_up (va_up (va_up (va_up mf 7 gchance_7) 8 gchanceAhead_8) 9 g_35) 38 g_36) 39 g_37) mg z_goal x_34 x_20 (vl [mv 0]) h0 h1 h2 a_p_from a_p_to) (gdV q_1012 q_1013 q_1014 q_152 q_1015) hdV_X10_isReached ⟨rfl, rfl⟩ ⟨(Nat.le_of_ble_eq_true rfl), (Nat.le_of_ble_eq_true rfl)⟩ ⟨(Nat.le_of_ble_eq_true rfl), (Nat.le_of_ble_eq_true rfl)⟩ xT_b xT_at 0 10 rfl rfl rfl _ hC_ (nd_T _ 0) rfl hl40.1 rfl (Nat.le_of_ble_eq_true rfl) dX10_weighReaching_68)) rfl (fun _ => rfl) (fun _ => rfl) (fun r_45 u_44 H1 locs hp hw46 => ?_)
                      obtain ⟨gpmeasured_47, gpmeasuredIn_48⟩ := u_44
                      generalize H1 = H at hw46 ⊢
                      have hw49 : WD D A s.heap (WZ_VO cI cJ mv mr mi (va_up (va_up (va_up (va_up (va_up mf 7 gchance_7) 8 gchanceAhead_8) 9 g_35) 38 gpmeasured_47) 39 gpmeasuredIn_48) mg) H locs := hw46
                      obtain ⟨hp_50, hp_51⟩ := hp
                      have hp_50 : 0 ≤ r_45.toInt := hp_50
                      have hp_51 : r_45.toInt ≤ 1 := hp_51
                      refine lv_if_eq (pc := 71) (tgt := 90) E.1 E.2.1 dX10_weighReaching_71 (by decide) (fun c_52 => ?_) (fun c_52 => ?_)
                      · skip
                        have hc_52 := eqE (a := r_45.toInt) (b := 0) rfl (by decide +kernel) c_52
                        obtain ⟨v_53, ev_53⟩ : ∃ z : Int32, x_34 + Int32.ofInt (1) = z := ⟨_, rfl⟩
                        have hv_53 : v_53.toInt = x_34.toInt + (1) := by rw [← ev_53]; exact incE rfl (by decide) (by omega)
                        refine lv_iinc (pc := 90) (v := v_53) (lv' := [(4, .int v_53), (3, .int x_20), (0, .ref (mr 0)), (1, .int z_goal), (2, .int z_k)]) E.1 E.2.1 dX10_weighReaching_90 hl40 (k := 0) rfl ev_53 (by decide) rfl (fun ls hl54 => ?_)
                        refine lv_goto (pc := 93) (tgt := 51) E.1 E.2.1 dX10_weighReaching_93 (by decide) ?_
                        exact ih_38 v_53 g_35 gpmeasured_47 gpmeasuredIn_48 _ _ _ ⟨(by show 0 ≤ v_53.toInt; omega), (by show v_53.toInt ≤ (mi 29).toInt; omega)⟩ (by omega) hw49 (lv_sub hl54 [0, 1, 2, 3, 4] rfl)
                      · skip
                        have hc_52 := neE (a := r_45.toInt) (b := 0) rfl (by decide +kernel) c_52
                        refine lv_aload_n (pc := 74) E.1 E.2.1 dX10_weighReaching_74 rfl (lv_at hl40 2 rfl) ?_
                        refine x_get (pc := 75) (T := TX10) (N := 17) (ci := 10) (v := .ref (mr 9)) E hw49 inX10 0 16 q_493 rfl rfl (by decide) rfl rfl dX10_weighReaching_75 ?_
                        refine lv_iload (pc := 78) E.1 E.2.1 dX10_weighReaching_78 (lv_at hl40 0 rfl) ?_
                        refine lv_dup2_11 (pc := 80) E.1 E.2.1 dX10_weighReaching_80 rfl rfl ?_
                        refine x_iald (pc := 81) (f := g_35) E hw49 5 rfl (inbE (a := x_34.toInt) rfl (by omega)) dX10_weighReaching_81 ?_
                        refine lv_topi (fun v_55 ev_55 => ?_)
                        refine lv_aload_n (pc := 82) E.1 E.2.1 dX10_weighReaching_82 rfl (lv_at hl40 2 rfl) ?_
                        refine x_get (pc := 83) (T := TX10) (N := 17) (ci := 10) (v := .ref (mr 7)) E hw49 inX10 0 14 q_491 rfl rfl (by decide) rfl rfl dX10_weighReaching_83 ?_
                        refine lv_iload_n (pc := 86) E.1 E.2.1 dX10_weighReaching_86 rfl (lv_at hl40 1 rfl) ?_
                        refine x_iald (pc := 87) (f := gchance_7) E hw49 3 rfl (inbE (a := x_20.toInt) rfl (by omega)) dX10_weighReaching_87 ?_
                        refine lv_topi (fun v_56 ev_56 => ?_)
                        have hsv_56 : v_56.toInt = v_28.toInt := by rw [ev_56, ev_28]
                        refine lv_iadd (pc := 88) E.1 E.2.1 dX10_weighReaching_88 ?_
                        refine lv_topi (fun v_57 ev_57 => ?_)
                        refine x_iastG (pc := 89) (f := g_35) (wf := fun g => (WZ_VO cI cJ mv mr mi (va_up (va_up (va_up (va_up (va_up mf 7 gchance_7) 8 gchanceAhead_8) 9 g) 38 gpmeasured_47) 39 gpmeasuredIn_48) mg)) E hw49 5 rfl (inbE (a := x_34.toInt) rfl (by omega)) (fun _ => rfl) dX10_weighReaching_89 (fun g_58 H locs eg_58 hw59 => ?_)
                        obtain ⟨v_60, ev_60⟩ : ∃ z : Int32, x_34 + Int32.ofInt (1) = z := ⟨_, rfl⟩
                        have hv_60 : v_60.toInt = x_34.toInt + (1) := by rw [← ev_60]; exact incE rfl (by decide) (by omega)
                        refine lv_iinc (pc := 90) (v := v_60) (lv' := [(4, .int v_60), (3, .int x_20), (0, .ref (mr 0)), (1, .int z_goal), (2, .int z_k)]) E.1 E.2.1 dX10_weighReaching_90 hl40 (k := 0) rfl ev_60 (by decide) rfl (fun ls hl61 => ?_)
                        refine lv_goto (pc := 93) (tgt := 51) E.1 E.2.1 dX10_weighReaching_93 (by decide) ?_
                        exact ih_38 v_60 g_58 gpmeasured_47 gpmeasuredIn_48 _ _ _ ⟨(by show 0 ≤ v_60.toInt; omega), (by show v_60.toInt ≤ (mi 29).toInt; omega)⟩ (by omega) hw59 (lv_sub hl61 [0, 1, 2, 3, 4] rfl)
                exact loop_33 (Int.toNat ((mi 29).toInt - 0) + 1) 0 g_21 g_22 g_23 _ _ _ ⟨(by show 0 ≤ (0 : Int32).toInt; have k_0 : (0 : Int32).toInt = 0 := (by decide +kernel); omega), (by show (0 : Int32).toInt ≤ (mi 29).toInt; have k_0 : (0 : Int32).toInt = 0 := (by decide +kernel); omega)⟩ (by have k_0 : (0 : Int32).toInt = 0 := (by decide +kernel); omega) hw25 (lv_sub hl32 [0, 1, 2, 3, 4] rfl)
        exact loop_19 (Int.toNat (10 - 0) + 1) 0 g_13 (mf 38) (mf 39) _ _ _ ⟨(by show 0 ≤ (0 : Int32).toInt; have k_0 : (0 : Int32).toInt = 0 := (by decide +kernel); omega), (by show (0 : Int32).toInt ≤ 10; have k_0 : (0 : Int32).toInt = 0 := (by decide +kernel); omega)⟩ (by have k_0 : (0 : Int32).toInt = 0 := (by decide +kernel); omega) hw15 (lv_sub hl18 [0, 1, 2, 3] rfl)
      · skip
        have hc_17 := nleE (a := (mi 29).toInt) (b := x_12.toInt) rfl rfl c_17
        refine lv_aload_n (pc := 18) E.1 E.2.1 dX10_weighReaching_18 rfl (lv_at hl16 1 rfl) ?_
        refine x_get (pc := 19) (T := TX10) (N := 17) (ci := 10) (v := .ref (mr 9)) E hw15 inX10 0 16 q_493 rfl rfl (by decide) rfl rfl dX10_weighReaching_19 ?_
        refine lv_iload_n (pc := 22) E.1 E.2.1 dX10_weighReaching_22 rfl (lv_at hl16 0 rfl) ?_
        refine lv_iconst (pc := 23) (v := 0) E.1 E.2.1 dX10_weighReaching_23 (by decide +kernel) ?_
        refine x_iastG (pc := 24) (f := g_13) (wf := fun g => (WZ_VO cI cJ mv mr mi (va_up (va_up (va_up mf 7 gchance_7) 8 gchanceAhead_8) 9 g) mg)) E hw15 5 rfl (inbE (a := x_12.toInt) rfl (by omega)) (fun _ => rfl) dX10_weighReaching_24 (fun g_62 H locs eg_62 hw63 => ?_)
        obtain ⟨v_64, ev_64⟩ : ∃ z : Int32, x_12 + Int32.ofInt (1) = z := ⟨_, rfl⟩
        have hv_64 : v_64.toInt = x_12.toInt + (1) := by rw [← ev_64]; exact incE rfl (by decide) (by omega)
        refine lv_iinc (pc := 25) (v := v_64) (lv' := [(3, .int v_64), (0, .ref (mr 0)), (1, .int z_goal), (2, .int z_k)]) E.1 E.2.1 dX10_weighReaching_25 hl16 (k := 0) rfl ev_64 (by decide) rfl (fun ls hl65 => ?_)
        refine lv_goto (pc := 28) (tgt := 7) E.1 E.2.1 dX10_weighReaching_28 (by decide) ?_
        exact ih_14 v_64 g_62 _ _ _ ⟨(by show 0 ≤ v_64.toInt; omega), (by show v_64.toInt ≤ (mi 29).toInt; omega)⟩ (by omega) hw63 (lv_sub hl65 [0, 1, 2, 3] rfl)
  exact loop_11 (Int.toNat ((mi 29).toInt - 0) + 1) 0 (mf 9) _ _ _ ⟨(by show 0 ≤ (0 : Int32).toInt; have k_0 : (0 : Int32).toInt = 0 := (by decide +kernel); omega), (by show (0 : Int32).toInt ≤ (mi 29).toInt; have k_0 : (0 : Int32).toInt = 0 := (by decide +kernel); omega)⟩ (by have k_0 : (0 : Int32).toInt = 0 := (by decide +kernel); omega) hw9 (lv_sub hl10 [0, 1, 2, 3] rfl)
set_option maxHeartbeats 4000000 in
set_option maxRecDepth 100000 in
theorem t_readHouse (l : Launch) (D : va_G) (cI cJ : ClassId) (sz : Nat) (mr : Nat → Nat) (mi : Nat → Int32) (mf : Nat → Nat → Int32) (mg : Nat → Nat → Int64) (z_h : Int32) (mv : Nat → Value) (h0 : 0 ≤ (mi 29).toInt ∧ (mi 29).toInt ≤ 10) (h1 : 0 ≤ (mi 37).toInt ∧ (mi 37).toInt ≤ 40) (h2 : 0 ≤ (mi 46).toInt ∧ (mi 46).toInt ≤ 10) (h3 : 0 ≤ z_h.toInt ∧ z_h.toInt ≤ 9) (a_p_from : p9 (mf 33)) (a_p_to : p9 (mf 34)) : Met l yX10_readHouse (Cond.code yX10_readHouse cX10_readHouse 4 none :: GW) ({ frames := 4, cells := 0, slots := 0, locals := 115 } : Room) (va_Pc [.ref (mr 0), .ref (mr 10), .int z_h] (PW D cI cJ sz (WZ_VO cI cJ mv mr mi mf mg) xT)) (va_Qv (fun (u : (Nat → Int32) × (Nat → Int32) × (Nat → Int32)) => True) (fun u => QW D cI cJ (va_A (WZ_VO cI cJ mv mr mi mf mg) sz) ((fun (u : (Nat → Int32) × (Nat → Int32) × (Nat → Int32)) => (WZ_VO cI cJ mv mr mi (va_up (va_up (va_up mf 6 u.1) 38 u.2.1) 39 u.2.2) mg)) u)) (va_A (WZ_VO cI cJ mv mr mi mf mg) sz)) 0 0 (va_A (WZ_VO cI cJ mv mr mi mf mg) sz) := by
  refine mk_met (y := yX10_readHouse) (bytes := cX10_readHouse) (maxL := 4) (avs := [.ref (mr 0), .ref (mr 10), .int z_h]) (WS := (WZ_VO cI cJ mv mr mi mf mg)) (Qf := fun A => va_Qv (fun (u : (Nat → Int32) × (Nat → Int32) × (Nat → Int32)) => True) (fun u => QW D cI cJ A ((fun (u : (Nat → Int32) × (Nat → Int32) × (Nat → Int32)) => (WZ_VO cI cJ mv mr mi (va_up (va_up (va_up mf 6 u.1) 38 u.2.1) 39 u.2.2) mg)) u)) A) (by decide) (Nat.le_of_ble_eq_true rfl) ?_
  intro p e s m below meth c A ls E hr hlk hnm hX hw1 hl2
  have hl3 : lv_has ls 4 [(0, .ref (mr 0)), (1, .ref (mr 10)), (2, .int z_h)] := hl2
  refine lv_aload_n (pc := 0) E.1 E.2.1 dX10_readHouse_0 rfl (lv_at hl3 0 rfl) ?_
  refine x_get (pc := 1) (T := TX10) (N := 17) (ci := 10) (v := .ref (mr 32)) E hw1 inX10 0 2 q_464 rfl rfl (by decide) rfl rfl dX10_readHouse_1 ?_
  refine lv_aload_n (pc := 4) E.1 E.2.1 dX10_readHouse_4 rfl (lv_at hl3 1 rfl) ?_
  refine x_get (pc := 5) (T := TX4) (N := 12) (ci := 4) (v := .int (mi 17)) E hw1 inX4 6 6 q_215 rfl rfl (by decide) rfl rfl dX10_readHouse_5 ?_
  refine lv_iload_n (pc := 8) E.1 E.2.1 dX10_readHouse_8 rfl (lv_at hl3 2 rfl) ?_
  refine lv_aload_n (pc := 9) E.1 E.2.1 dX10_readHouse_9 rfl (lv_at hl3 1 rfl) ?_
  refine x_get (pc := 10) (T := TX4) (N := 12) (ci := 4) (v := .int (mi 19)) E hw1 inX4 6 8 q_223 rfl rfl (by decide) rfl rfl dX10_readHouse_10 ?_
  refine ck_i (pc := 13) (ws' := (fun (u : (Nat → Int32) × (Nat → Int32)) => (WZ_VO cI cJ mv mr mi (va_up (va_up mf 38 u.1) 39 u.2) mg))) [false, false, false, false, false, false, false, false, false, false, false, false, false, false, false, false, false, false, false, false, true, true, true, true, true, true, true, false, false, false, false, false, false, false, false, false, false, false, false, false, false, false, false, false, false, false, false, false, false, false] hw1 rfl (fun hC_ => (rn_V (As := [.int (mi 17), .int z_h, .int (mi 19)]) (rest := []) E hw1 (t_apart l D cI cJ _ (shf 32 mr) (shf 32 mi) (shf 32 mf) (shf 32 mg) (mi 17) z_h (mi 19) h1 a_p_from a_p_to) (gdV q_1016 q_1017 q_1018 q_155 q_1019) hdV_X5_apart ⟨rfl, rfl⟩ ⟨(Nat.le_of_ble_eq_true rfl), (Nat.le_of_ble_eq_true rfl)⟩ ⟨(Nat.le_of_ble_eq_true rfl), (Nat.le_of_ble_eq_true rfl)⟩ xT_b xT_at 20 5 rfl rfl rfl _ hC_ (nd_T _ 0) rfl hl3.1 rfl (Nat.le_of_ble_eq_true rfl) dX10_readHouse_13)) rfl (fun _ => rfl) (fun _ => rfl) (fun r_5 u_4 H1 locs hp hw6 => ?_)
  obtain ⟨gmeasured_7, gmeasuredIn_8⟩ := u_4
  generalize H1 = H at hw6 ⊢
  have hw9 : WD D A s.heap (WZ_VO cI cJ mv mr mi (va_up (va_up mf 38 gmeasured_7) 39 gmeasuredIn_8) mg) H locs := hw6
  refine lv_istore_n (pc := 16) (lv' := [(3, .int r_5), (0, .ref (mr 0)), (1, .ref (mr 10)), (2, .int z_h)]) E.1 E.2.1 dX10_readHouse_16 rfl hl3 (by decide) rfl (fun ls hl10 => ?_)
  refine lv_aload_n (pc := 17) E.1 E.2.1 dX10_readHouse_17 rfl (lv_at hl10 1 rfl) ?_
  refine x_get (pc := 18) (T := TX10) (N := 17) (ci := 10) (v := .ref (mr 6)) E hw9 inX10 0 13 q_490 rfl rfl (by decide) rfl rfl dX10_readHouse_18 ?_
  refine lv_iconst (pc := 21) (v := 0) E.1 E.2.1 dX10_readHouse_21 (by decide +kernel) ?_
  refine lv_iload_n (pc := 22) E.1 E.2.1 dX10_readHouse_22 rfl (lv_at hl10 3 rfl) ?_
  refine x_iastG (pc := 23) (f := (mf 6)) (wf := fun g => (WZ_VO cI cJ mv mr mi (va_up (va_up (va_up mf 6 g) 38 gmeasured_7) 39 gmeasuredIn_8) mg)) E hw9 2 rfl (inbE (a := 0) (by decide +kernel) (by omega)) (fun _ => rfl) dX10_readHouse_23 (fun g_11 H locs eg_11 hw12 => ?_)
  refine lv_aload_n (pc := 24) E.1 E.2.1 dX10_readHouse_24 rfl (lv_at hl10 1 rfl) ?_
  refine x_get (pc := 25) (T := TX10) (N := 17) (ci := 10) (v := .ref (mr 6)) E hw12 inX10 0 13 q_490 rfl rfl (by decide) rfl rfl dX10_readHouse_25 ?_
  refine lv_iconst (pc := 28) (v := 1) E.1 E.2.1 dX10_readHouse_28 (by decide +kernel) ?_
  refine lv_aload_n (pc := 29) E.1 E.2.1 dX10_readHouse_29 rfl (lv_at hl10 2 rfl) ?_
  refine x_get (pc := 30) (T := TX4) (N := 12) (ci := 4) (v := .ref (mr 12)) E hw12 inX4 6 1 q_195 rfl rfl (by decide) rfl rfl dX10_readHouse_30 ?_
  refine lv_iload_n (pc := 33) E.1 E.2.1 dX10_readHouse_33 rfl (lv_at hl10 3 rfl) ?_
  refine x_iald (pc := 34) (f := (mf 12)) E hw12 8 rfl (inbE (a := z_h.toInt) rfl (by omega)) dX10_readHouse_34 ?_
  refine lv_topi (fun v_13 ev_13 => ?_)
  refine x_iastG (pc := 35) (f := g_11) (wf := fun g => (WZ_VO cI cJ mv mr mi (va_up (va_up (va_up mf 6 g) 38 gmeasured_7) 39 gmeasuredIn_8) mg)) E hw12 2 rfl (inbE (a := 1) (by decide +kernel) (by omega)) (fun _ => rfl) dX10_readHouse_35 (fun g_14 H locs eg_14 hw15 => ?_)
  refine lv_aload_n (pc := 36) E.1 E.2.1 dX10_readHouse_36 rfl (lv_at hl10 1 rfl) ?_
  refine x_get (pc := 37) (T := TX10) (N := 17) (ci := 10) (v := .ref (mr 6)) E hw15 inX10 0 13 q_490 rfl rfl (by decide) rfl rfl dX10_readHouse_37 ?_
  refine lv_iconst (pc := 40) (v := 2) E.1 E.2.1 dX10_readHouse_40 (by decide +kernel) ?_
  refine lv_aload_n (pc := 41) E.1 E.2.1 dX10_readHouse_41 rfl (lv_at hl10 2 rfl) ?_
  refine lv_iload_n (pc := 42) E.1 E.2.1 dX10_readHouse_42 rfl (lv_at hl10 3 rfl) ?_
  refine ck_i (pc := 43) (ws' := (fun (u : Unit) => (WZ_VO cI cJ mv mr mi (va_up (va_up (va_up mf 6 g_14) 38 gmeasured_7) 39 gmeasuredIn_8) mg))) [false, false, false, false, false, false, true, true, true, true, true, true, false, false, false, false, false, false, false, false, false, false, false, false, false, false, false, false, false, false, false, false, false, false, false, false, false, false, false, false, false, false, false, false, false, false, false, false, false, false] hw15 rfl (fun hC_ => (rn_V (As := [.int z_h]) (rest := [.int 2, .ref (mr 6)]) E hw15 (t_waited l D cI cJ _ (shf 10 mr) (shf 10 mi) (shf 10 (va_up (va_up (va_up mf 6 g_14) 38 gmeasured_7) 39 gmeasuredIn_8)) (shf 10 mg) z_h h3) (gdV q_1036 q_1037 q_1038 q_153 q_1039) hdV_X4_waited ⟨rfl, rfl⟩ ⟨(Nat.le_of_ble_eq_true rfl), (Nat.le_of_ble_eq_true rfl)⟩ ⟨(Nat.le_of_ble_eq_true rfl), (Nat.le_of_ble_eq_true rfl)⟩ xT_b xT_at 6 4 rfl rfl rfl _ hC_ (nd_T _ 0) rfl hl10.1 rfl (Nat.le_of_ble_eq_true rfl) dX10_readHouse_43)) rfl (fun _ => rfl) (fun _ => rfl) (fun r_17 u_16 H1 locs hp hw18 => ?_)
  generalize H1 = H at hw18 ⊢
  have hw19 : WD D A s.heap (WZ_VO cI cJ mv mr mi (va_up (va_up (va_up mf 6 g_14) 38 gmeasured_7) 39 gmeasuredIn_8) mg) H locs := hw18
  refine x_iastG (pc := 46) (f := g_14) (wf := fun g => (WZ_VO cI cJ mv mr mi (va_up (va_up (va_up mf 6 g) 38 gmeasured_7) 39 gmeasuredIn_8) mg)) E hw19 2 rfl (inbE (a := 2) (by decide +kernel) (by omega)) (fun _ => rfl) dX10_readHouse_46 (fun g_20 H locs eg_20 hw21 => ?_)
  refine lv_aload_n (pc := 47) E.1 E.2.1 dX10_readHouse_47 rfl (lv_at hl10 1 rfl) ?_
  refine x_get (pc := 48) (T := TX10) (N := 17) (ci := 10) (v := .ref (mr 6)) E hw21 inX10 0 13 q_490 rfl rfl (by decide) rfl rfl dX10_readHouse_48 ?_
  refine lv_iconst (pc := 51) (v := 3) E.1 E.2.1 dX10_readHouse_51 (by decide +kernel) ?_
  refine lv_aload_n (pc := 52) E.1 E.2.1 dX10_readHouse_52 rfl (lv_at hl10 2 rfl) ?_
  refine x_get (pc := 53) (T := TX4) (N := 12) (ci := 4) (v := .int (mi 19)) E hw21 inX4 6 8 q_223 rfl rfl (by decide) rfl rfl dX10_readHouse_53 ?_
  refine x_iastG (pc := 56) (f := g_20) (wf := fun g => (WZ_VO cI cJ mv mr mi (va_up (va_up (va_up mf 6 g) 38 gmeasured_7) 39 gmeasuredIn_8) mg)) E hw21 2 rfl (inbE (a := 3) (by decide +kernel) (by omega)) (fun _ => rfl) dX10_readHouse_56 (fun g_22 H locs eg_22 hw23 => ?_)
  refine lv_aload_n (pc := 57) E.1 E.2.1 dX10_readHouse_57 rfl (lv_at hl10 1 rfl) ?_
  refine x_get (pc := 58) (T := TX10) (N := 17) (ci := 10) (v := .ref (mr 6)) E hw23 inX10 0 13 q_490 rfl rfl (by decide) rfl rfl dX10_readHouse_58 ?_
  refine lv_iconst (pc := 61) (v := 4) E.1 E.2.1 dX10_readHouse_61 (by decide +kernel) ?_
  refine lv_aload_n (pc := 62) E.1 E.2.1 dX10_readHouse_62 rfl (lv_at hl10 2 rfl) ?_
  refine x_get (pc := 63) (T := TX4) (N := 12) (ci := 4) (v := .ref (mr 11)) E hw23 inX4 6 0 q_193 rfl rfl (by decide) rfl rfl dX10_readHouse_63 ?_
  refine lv_iload_n (pc := 66) E.1 E.2.1 dX10_readHouse_66 rfl (lv_at hl10 3 rfl) ?_
  refine x_iald (pc := 67) (f := (mf 11)) E hw23 7 rfl (inbE (a := z_h.toInt) rfl (by omega)) dX10_readHouse_67 ?_
  refine lv_topi (fun v_24 ev_24 => ?_)
  refine x_iastG (pc := 68) (f := g_22) (wf := fun g => (WZ_VO cI cJ mv mr mi (va_up (va_up (va_up mf 6 g) 38 gmeasured_7) 39 gmeasuredIn_8) mg)) E hw23 2 rfl (inbE (a := 4) (by decide +kernel) (by omega)) (fun _ => rfl) dX10_readHouse_68 (fun g_25 H locs eg_25 hw26 => ?_)
  refine lv_aload_n (pc := 69) E.1 E.2.1 dX10_readHouse_69 rfl (lv_at hl10 1 rfl) ?_
  refine x_get (pc := 70) (T := TX10) (N := 17) (ci := 10) (v := .ref (mr 6)) E hw26 inX10 0 13 q_490 rfl rfl (by decide) rfl rfl dX10_readHouse_70 ?_
  refine lv_iconst (pc := 73) (v := 5) E.1 E.2.1 dX10_readHouse_73 (by decide +kernel) ?_
  refine lv_aload_n (pc := 74) E.1 E.2.1 dX10_readHouse_74 rfl (lv_at hl10 2 rfl) ?_
  refine x_get (pc := 75) (T := TX4) (N := 12) (ci := 4) (v := .int (mi 18)) E hw26 inX4 6 7 q_220 rfl rfl (by decide) rfl rfl dX10_readHouse_75 ?_
  refine lv_bipush (pc := 78) (v := 120) E.1 E.2.1 dX10_readHouse_78 (by decide +kernel) ?_
  refine lv_irem (pc := 80) E.1 E.2.1 dX10_readHouse_80 (by decide +kernel) ?_
  refine lv_topi (fun v_27 ev_27 => ?_)
  refine lv_bipush (pc := 81) (v := 30) E.1 E.2.1 dX10_readHouse_81 (by decide +kernel) ?_
  refine lv_idiv (pc := 83) E.1 E.2.1 dX10_readHouse_83 (by decide +kernel) ?_
  refine lv_topi (fun v_28 ev_28 => ?_)
  refine x_iastG (pc := 84) (f := g_25) (wf := fun g => (WZ_VO cI cJ mv mr mi (va_up (va_up (va_up mf 6 g) 38 gmeasured_7) 39 gmeasuredIn_8) mg)) E hw26 2 rfl (inbE (a := 5) (by decide +kernel) (by omega)) (fun _ => rfl) dX10_readHouse_84 (fun g_29 H locs eg_29 hw30 => ?_)
  refine lv_aload_n (pc := 85) E.1 E.2.1 dX10_readHouse_85 rfl (lv_at hl10 1 rfl) ?_
  refine x_get (pc := 86) (T := TX10) (N := 17) (ci := 10) (v := .ref (mr 6)) E hw30 inX10 0 13 q_490 rfl rfl (by decide) rfl rfl dX10_readHouse_86 ?_
  refine lv_bipush (pc := 89) (v := 6) E.1 E.2.1 dX10_readHouse_89 (by decide +kernel) ?_
  refine lv_aload_n (pc := 91) E.1 E.2.1 dX10_readHouse_91 rfl (lv_at hl10 1 rfl) ?_
  refine x_get (pc := 92) (T := TX10) (N := 17) (ci := 10) (v := .ref (mr 23)) E hw30 inX10 0 1 q_460 rfl rfl (by decide) rfl rfl dX10_readHouse_92 ?_
  refine x_get (pc := 95) (T := TX1) (N := 9) (ci := 1) (v := .ref (mr 25)) E hw30 inX1 12 1 q_270 rfl rfl (by decide) rfl rfl dX10_readHouse_95 ?_
  refine lv_iload_n (pc := 98) E.1 E.2.1 dX10_readHouse_98 rfl (lv_at hl10 3 rfl) ?_
  refine x_iald (pc := 99) (f := (mf 25)) E hw30 14 rfl (inbE (a := z_h.toInt) rfl (by omega)) dX10_readHouse_99 ?_
  refine lv_topi (fun v_31 ev_31 => ?_)
  refine x_iastG (pc := 100) (f := g_29) (wf := fun g => (WZ_VO cI cJ mv mr mi (va_up (va_up (va_up mf 6 g) 38 gmeasured_7) 39 gmeasuredIn_8) mg)) E hw30 2 rfl (inbE (a := 6) (by decide +kernel) (by omega)) (fun _ => rfl) dX10_readHouse_100 (fun g_32 H locs eg_32 hw33 => ?_)
  refine lv_aload_n (pc := 101) E.1 E.2.1 dX10_readHouse_101 rfl (lv_at hl10 1 rfl) ?_
  refine x_get (pc := 102) (T := TX10) (N := 17) (ci := 10) (v := .ref (mr 6)) E hw33 inX10 0 13 q_490 rfl rfl (by decide) rfl rfl dX10_readHouse_102 ?_
  refine lv_bipush (pc := 105) (v := 7) E.1 E.2.1 dX10_readHouse_105 (by decide +kernel) ?_
  refine lv_aload_n (pc := 107) E.1 E.2.1 dX10_readHouse_107 rfl (lv_at hl10 1 rfl) ?_
  refine x_get (pc := 108) (T := TX10) (N := 17) (ci := 10) (v := .ref (mr 40)) E hw33 inX10 0 3 q_467 rfl rfl (by decide) rfl rfl dX10_readHouse_108 ?_
  refine lv_iload_n (pc := 111) E.1 E.2.1 dX10_readHouse_111 rfl (lv_at hl10 3 rfl) ?_
  refine lv_aload_n (pc := 112) E.1 E.2.1 dX10_readHouse_112 rfl (lv_at hl10 2 rfl) ?_
  refine cq_i (pc := 113) (ws' := (fun (u : Unit) => (WZ_VO cI cJ mv mr mi (va_up (va_up (va_up mf 6 g_32) 38 gmeasured_7) 39 gmeasuredIn_8) mg))) hw33 [27, 28, 29, 30, 31, 32, 6, 7, 8, 9, 10, 11] [0, 1, 2, 3, 4, 5, 12, 13, 14, 15, 16, 17, 18, 19, 20, 21, 22, 23, 24, 25, 26, 33, 34, 35, 36, 37, 38, 39, 40, 41, 42, 43, 44, 45, 46, 47, 48, 49] [0, 1, 2, 3, 4, 5, 44, 45, 46, 47, 48, 49, 6, 7, 8, 9, 10, 11, 12, 13, 14, 15, 16, 17, 18, 19, 20, 38, 39, 40, 41, 42, 43, 21, 22, 23, 24, 25, 26, 27, 28, 29, 30, 31, 32, 33, 34, 35, 36, 37] rfl rfl (by decide) (by decide) (fun _ => rfl) (by decide) (rn_V (As := [.int z_h, .ref (mr 10)]) (rest := [.int 7, .ref (mr 6)]) E hw33 (t_openWorth l D cI cJ _ (shg 7 40 3 mr) (shg 7 40 3 mi) (shg 7 40 3 (va_up (va_up (va_up mf 6 g_32) 38 gmeasured_7) 39 gmeasuredIn_8)) (shg 7 40 3 mg) z_h h2) (gdV q_1040 q_1041 q_1042 q_156 q_1043) hdV_X3_openWorth ⟨rfl, rfl⟩ ⟨(Nat.le_of_ble_eq_true rfl), (Nat.le_of_ble_eq_true rfl)⟩ ⟨(Nat.le_of_ble_eq_true rfl), (Nat.le_of_ble_eq_true rfl)⟩ xT_b xT_at 27 3 rfl rfl rfl [27, 28, 29, 30, 31, 32, 6, 7, 8, 9, 10, 11] rfl (by decide) rfl hl10.1 rfl (Nat.le_of_ble_eq_true rfl) dX10_readHouse_113) (fun r_35 u_34 H1 locs hp hw36 => ?_)
  generalize H1 = H at hw36 ⊢
  have hw37 : WD D A s.heap (WZ_VO cI cJ mv mr mi (va_up (va_up (va_up mf 6 g_32) 38 gmeasured_7) 39 gmeasuredIn_8) mg) H locs := hw36
  refine x_iastG (pc := 116) (f := g_32) (wf := fun g => (WZ_VO cI cJ mv mr mi (va_up (va_up (va_up mf 6 g) 38 gmeasured_7) 39 gmeasuredIn_8) mg)) E hw37 2 rfl (inbE (a := 7) (by decide +kernel) (by omega)) (fun _ => rfl) dX10_readHouse_116 (fun g_38 H locs eg_38 hw39 => ?_)
  refine lv_aload_n (pc := 117) E.1 E.2.1 dX10_readHouse_117 rfl (lv_at hl10 1 rfl) ?_
  refine x_get (pc := 118) (T := TX10) (N := 17) (ci := 10) (v := .ref (mr 6)) E hw39 inX10 0 13 q_490 rfl rfl (by decide) rfl rfl dX10_readHouse_118 ?_
  refine lv_bipush (pc := 121) (v := 8) E.1 E.2.1 dX10_readHouse_121 (by decide +kernel) ?_
  refine lv_iload_n (pc := 123) E.1 E.2.1 dX10_readHouse_123 rfl (lv_at hl10 0 rfl) ?_
  refine lv_iconst (pc := 124) (v := (-1)) E.1 E.2.1 dX10_readHouse_124 (by decide +kernel) ?_
  refine lv_icmp_ne (pc := 125) (tgt := 133) E.1 E.2.1 dX10_readHouse_125 (by decide) (fun c_40 => ?_) (fun c_40 => ?_)
  · skip
    have hc_40 := neE (a := r_5.toInt) (b := (-1)) rfl (by decide +kernel) c_40
    refine lv_iload_n (pc := 133) E.1 E.2.1 dX10_readHouse_133 rfl (lv_at hl10 0 rfl) ?_
    refine x_iastG (pc := 134) (f := g_38) (wf := fun g => (WZ_VO cI cJ mv mr mi (va_up (va_up (va_up mf 6 g) 38 gmeasured_7) 39 gmeasuredIn_8) mg)) E hw39 2 rfl (inbE (a := 8) (by decide +kernel) (by omega)) (fun _ => rfl) dX10_readHouse_134 (fun g_41 H locs eg_41 hw42 => ?_)
    refine lv_aload_n (pc := 135) E.1 E.2.1 dX10_readHouse_135 rfl (lv_at hl10 1 rfl) ?_
    refine x_get (pc := 136) (T := TX10) (N := 17) (ci := 10) (v := .ref (mr 6)) E hw42 inX10 0 13 q_490 rfl rfl (by decide) rfl rfl dX10_readHouse_136 ?_
    refine lv_bipush (pc := 139) (v := 9) E.1 E.2.1 dX10_readHouse_139 (by decide +kernel) ?_
    refine lv_aload_n (pc := 141) E.1 E.2.1 dX10_readHouse_141 rfl (lv_at hl10 1 rfl) ?_
    refine x_get (pc := 142) (T := TX10) (N := 17) (ci := 10) (v := .ref (mr 23)) E hw42 inX10 0 1 q_460 rfl rfl (by decide) rfl rfl dX10_readHouse_142 ?_
    refine x_get (pc := 145) (T := TX1) (N := 9) (ci := 1) (v := .ref (mr 26)) E hw42 inX1 12 2 q_272 rfl rfl (by decide) rfl rfl dX10_readHouse_145 ?_
    refine lv_iload_n (pc := 148) E.1 E.2.1 dX10_readHouse_148 rfl (lv_at hl10 3 rfl) ?_
    refine x_iald (pc := 149) (f := (mf 26)) E hw42 15 rfl (inbE (a := z_h.toInt) rfl (by omega)) dX10_readHouse_149 ?_
    refine lv_topi (fun v_43 ev_43 => ?_)
    refine x_iastG (pc := 150) (f := g_41) (wf := fun g => (WZ_VO cI cJ mv mr mi (va_up (va_up (va_up mf 6 g) 38 gmeasured_7) 39 gmeasuredIn_8) mg)) E hw42 2 rfl (inbE (a := 9) (by decide +kernel) (by omega)) (fun _ => rfl) dX10_readHouse_150 (fun g_44 H locs eg_44 hw45 => ?_)
    exact em_v (w1 := (fun (u : (Nat → Int32) × (Nat → Int32) × (Nat → Int32)) => (WZ_VO cI cJ mv mr mi (va_up (va_up (va_up mf 6 u.1) 38 u.2.1) 39 u.2.2) mg))) E hr hlk (g_44, gmeasured_7, gmeasuredIn_8) hw45 trivial (Nat.le_of_ble_eq_true rfl) (Nat.le_of_ble_eq_true rfl) dX10_readHouse_151
  · skip
    have hc_40 := eqE (a := r_5.toInt) (b := (-1)) rfl (by decide +kernel) c_40
    refine lv_bipush (pc := 128) (v := 99) E.1 E.2.1 dX10_readHouse_128 (by decide +kernel) ?_
    refine lv_goto (pc := 130) (tgt := 134) E.1 E.2.1 dX10_readHouse_130 (by decide) ?_
    refine x_iastG (pc := 134) (f := g_38) (wf := fun g => (WZ_VO cI cJ mv mr mi (va_up (va_up (va_up mf 6 g) 38 gmeasured_7) 39 gmeasuredIn_8) mg)) E hw39 2 rfl (inbE (a := 8) (by decide +kernel) (by omega)) (fun _ => rfl) dX10_readHouse_134 (fun g_46 H locs eg_46 hw47 => ?_)
    refine lv_aload_n (pc := 135) E.1 E.2.1 dX10_readHouse_135 rfl (lv_at hl10 1 rfl) ?_
    refine x_get (pc := 136) (T := TX10) (N := 17) (ci := 10) (v := .ref (mr 6)) E hw47 inX10 0 13 q_490 rfl rfl (by decide) rfl rfl dX10_readHouse_136 ?_
    refine lv_bipush (pc := 139) (v := 9) E.1 E.2.1 dX10_readHouse_139 (by decide +kernel) ?_
    refine lv_aload_n (pc := 141) E.1 E.2.1 dX10_readHouse_141 rfl (lv_at hl10 1 rfl) ?_
    refine x_get (pc := 142) (T := TX10) (N := 17) (ci := 10) (v := .ref (mr 23)) E hw47 inX10 0 1 q_460 rfl rfl (by decide) rfl rfl dX10_readHouse_142 ?_
    refine x_get (pc := 145) (T := TX1) (N := 9) (ci := 1) (v := .ref (mr 26)) E hw47 inX1 12 2 q_272 rfl rfl (by decide) rfl rfl dX10_readHouse_145 ?_
    refine lv_iload_n (pc := 148) E.1 E.2.1 dX10_readHouse_148 rfl (lv_at hl10 3 rfl) ?_
    refine x_iald (pc := 149) (f := (mf 26)) E hw47 15 rfl (inbE (a := z_h.toInt) rfl (by omega)) dX10_readHouse_149 ?_
    refine lv_topi (fun v_48 ev_48 => ?_)
    refine x_iastG (pc := 150) (f := g_46) (wf := fun g => (WZ_VO cI cJ mv mr mi (va_up (va_up (va_up mf 6 g) 38 gmeasured_7) 39 gmeasuredIn_8) mg)) E hw47 2 rfl (inbE (a := 9) (by decide +kernel) (by omega)) (fun _ => rfl) dX10_readHouse_150 (fun g_49 H locs eg_49 hw50 => ?_)
    exact em_v (w1 := (fun (u : (Nat → Int32) × (Nat → Int32) × (Nat → Int32)) => (WZ_VO cI cJ mv mr mi (va_up (va_up (va_up mf 6 u.1) 38 u.2.1) 39 u.2.2) mg))) E hr hlk (g_49, gmeasured_7, gmeasuredIn_8) hw50 trivial (Nat.le_of_ble_eq_true rfl) (Nat.le_of_ble_eq_true rfl) dX10_readHouse_151
set_option maxHeartbeats 4000000 in
set_option maxRecDepth 100000 in
theorem t_turnsOf (l : Launch) (D : va_G) (cI cJ : ClassId) (sz : Nat) (mr : Nat → Nat) (mi : Nat → Int32) (mf : Nat → Nat → Int32) (mg : Nat → Nat → Int64) (z_h : Int32) (mv : Nat → Value) (h0 : 0 ≤ (mi 29).toInt ∧ (mi 29).toInt ≤ 10) (h1 : 0 ≤ (mi 37).toInt ∧ (mi 37).toInt ≤ 40) (h2 : 0 ≤ (mi 46).toInt ∧ (mi 46).toInt ≤ 10) (h3 : 0 ≤ z_h.toInt ∧ z_h.toInt ≤ 9) (a_p_from : p9 (mf 33)) (a_p_to : p9 (mf 34)) (a_t_marks : m4 (mf 50)) : Met l yX10_turnsOf (Cond.code yX10_turnsOf cX10_turnsOf 3 (some .int) :: GW) ({ frames := 5, cells := 0, slots := 0, locals := 138 } : Room) (va_Pc [.ref (mr 0), .ref (mr 10), .int z_h] (PW D cI cJ sz (WZ_VO cI cJ mv mr mi mf mg) xT)) (va_Qi (fun (r : Int32) (u : (Nat → Int32) × (Nat → Int32) × (Nat → Int32) × (Nat → Int32)) => True) (fun u => QW D cI cJ (va_A (WZ_VO cI cJ mv mr mi mf mg) sz) ((fun (u : (Nat → Int32) × (Nat → Int32) × (Nat → Int32) × (Nat → Int32)) => (WZ_VO cI cJ mv mr mi (va_up (va_up (va_up (va_up mf 6 u.1) 38 u.2.1) 39 u.2.2.1) 52 u.2.2.2) mg)) u)) (va_A (WZ_VO cI cJ mv mr mi mf mg) sz)) 0 0 (va_A (WZ_VO cI cJ mv mr mi mf mg) sz) := by
  refine mk_met (y := yX10_turnsOf) (bytes := cX10_turnsOf) (maxL := 3) (avs := [.ref (mr 0), .ref (mr 10), .int z_h]) (WS := (WZ_VO cI cJ mv mr mi mf mg)) (Qf := fun A => va_Qi (fun (r : Int32) (u : (Nat → Int32) × (Nat → Int32) × (Nat → Int32) × (Nat → Int32)) => True) (fun u => QW D cI cJ A ((fun (u : (Nat → Int32) × (Nat → Int32) × (Nat → Int32) × (Nat → Int32)) => (WZ_VO cI cJ mv mr mi (va_up (va_up (va_up (va_up mf 6 u.1) 38 u.2.1) 39 u.2.2.1) 52 u.2.2.2) mg)) u)) A) (by decide) (Nat.le_of_ble_eq_true rfl) ?_
  intro p e s m below meth c A ls E hr hlk hnm hX hw1 hl2
  have hl3 : lv_has ls 3 [(0, .ref (mr 0)), (1, .ref (mr 10)), (2, .int z_h)] := hl2
  refine lv_aload_n (pc := 0) E.1 E.2.1 dX10_turnsOf_0 rfl (lv_at hl3 0 rfl) ?_
  refine lv_aload_n (pc := 1) E.1 E.2.1 dX10_turnsOf_1 rfl (lv_at hl3 1 rfl) ?_
  refine lv_iload_n (pc := 2) E.1 E.2.1 dX10_turnsOf_2 rfl (lv_at hl3 2 rfl) ?_
  refine ck_v (pc := 3) (ws' := (fun (u : (Nat → Int32) × (Nat → Int32) × (Nat → Int32)) => (WZ_VO cI cJ mv mr mi (va_up (va_up (va_up mf 6 u.1) 38 u.2.1) 39 u.2.2) mg))) [true, true, true, true, true, true, true, true, true, true, true, true, true, true, true, true, true, true, true, true, true, true, true, true, true, true, true, true, true, true, true, true, true, true, true, true, true, true, true, true, true, true, true, true, true, true, true, true, true, true] hw1 rfl (fun hC_ => (rn_V (As := [.ref (mr 10), .int z_h]) (rest := []) E hw1 (t_readHouse l D cI cJ _ mr mi mf mg z_h (vl [mv 0]) h0 h1 h2 h3 a_p_from a_p_to) (gdV q_1032 q_1034 q_23 q_152 q_1035) hdV_X10_readHouse ⟨rfl, rfl⟩ ⟨(Nat.le_of_ble_eq_true rfl), (Nat.le_of_ble_eq_true rfl)⟩ ⟨(Nat.le_of_ble_eq_true rfl), (Nat.le_of_ble_eq_true rfl)⟩ xT_b xT_at 0 10 rfl rfl rfl _ hC_ (nd_T _ 0) rfl hl3.1 rfl (Nat.le_of_ble_eq_true rfl) dX10_turnsOf_3)) rfl (fun _ => rfl) (fun _ => rfl) (fun u_4 H1 locs hp hw6 => ?_)
  obtain ⟨greadings_7, gpmeasured_8, gpmeasuredIn_9⟩ := u_4
  generalize H1 = H at hw6 ⊢
  have hw10 : WD D A s.heap (WZ_VO cI cJ mv mr mi (va_up (va_up (va_up mf 6 greadings_7) 38 gpmeasured_8) 39 gpmeasuredIn_9) mg) H locs := hw6
  refine lv_aload_n (pc := 6) E.1 E.2.1 dX10_turnsOf_6 rfl (lv_at hl3 0 rfl) ?_
  refine x_get (pc := 7) (T := TX10) (N := 17) (ci := 10) (v := .ref (mr 47)) E hw10 inX10 0 4 q_470 rfl rfl (by decide) rfl rfl dX10_turnsOf_7 ?_
  refine lv_aload_n (pc := 10) E.1 E.2.1 dX10_turnsOf_10 rfl (lv_at hl3 0 rfl) ?_
  refine x_get (pc := 11) (T := TX10) (N := 17) (ci := 10) (v := .ref (mr 6)) E hw10 inX10 0 13 q_490 rfl rfl (by decide) rfl rfl dX10_turnsOf_11 ?_
  refine lv_aload_n (pc := 14) E.1 E.2.1 dX10_turnsOf_14 rfl (lv_at hl3 0 rfl) ?_
  refine x_get (pc := 15) (T := TX10) (N := 17) (ci := 10) (v := .ref (mr 6)) E hw10 inX10 0 13 q_490 rfl rfl (by decide) rfl rfl dX10_turnsOf_15 ?_
  refine lv_iconst (pc := 18) (v := 2) E.1 E.2.1 dX10_turnsOf_18 (by decide +kernel) ?_
  refine x_iald (pc := 19) (f := greadings_7) E hw10 2 rfl (inbE (a := 2) (by decide +kernel) (by omega)) dX10_turnsOf_19 ?_
  refine lv_topi (fun v_11 ev_11 => ?_)
  refine cq_i (pc := 20) (ws' := (fun (u : (Nat → Int32)) => (WZ_VO cI cJ mv mr mi (va_up (va_up (va_up (va_up mf 6 greadings_7) 38 gpmeasured_8) 39 gpmeasuredIn_9) 52 u) mg))) hw10 [33, 34, 35, 36, 37, 2] [0, 1, 3, 4, 5, 6, 7, 8, 9, 10, 11, 12, 13, 14, 15, 16, 17, 18, 19, 20, 21, 22, 23, 24, 25, 26, 27, 28, 29, 30, 31, 32, 38, 39, 40, 41, 42, 43, 44, 45, 46, 47, 48, 49] [0, 1, 49, 2, 3, 4, 5, 6, 7, 8, 9, 10, 11, 12, 13, 14, 15, 16, 17, 18, 19, 20, 21, 22, 23, 24, 25, 26, 27, 28, 29, 30, 31, 44, 45, 46, 47, 48, 32, 33, 34, 35, 36, 37, 38, 39, 40, 41, 42, 43] rfl rfl (by decide) (by decide) (fun _ => rfl) (by decide) (rn_V (As := [.ref (mr 6), .int v_11]) (rest := []) E hw10 (t_tells l D cI cJ _ (shs [(0, 47, 10), (10, 6, 1)] mr) (shs [(0, 47, 10), (10, 6, 1)] mi) (shs [(0, 47, 10), (10, 6, 1)] (va_up (va_up (va_up mf 6 greadings_7) 38 gpmeasured_8) 39 gpmeasuredIn_9)) (shs [(0, 47, 10), (10, 6, 1)] mg) v_11 a_t_marks) (gdV q_1048 q_1049 q_1050 q_157 q_1051) hdV_X2_tells ⟨rfl, rfl⟩ ⟨(Nat.le_of_ble_eq_true rfl), (Nat.le_of_ble_eq_true rfl)⟩ ⟨(Nat.le_of_ble_eq_true rfl), (Nat.le_of_ble_eq_true rfl)⟩ xT_b xT_at 33 2 rfl rfl rfl [33, 34, 35, 36, 37, 2] rfl (by decide) rfl hl3.1 rfl (Nat.le_of_ble_eq_true rfl) dX10_turnsOf_20) (fun r_13 u_12 H1 locs hp hw14 => ?_)
  obtain ⟨gstack_15, rfl⟩ : ∃ z, z = u_12 := ⟨_, rfl⟩
  generalize H1 = H at hw14 ⊢
  have hw16 : WD D A s.heap (WZ_VO cI cJ mv mr mi (va_up (va_up (va_up (va_up mf 6 greadings_7) 38 gpmeasured_8) 39 gpmeasuredIn_9) 52 gstack_15) mg) H locs := hw14
  exact em_i (w1 := (fun (u : (Nat → Int32) × (Nat → Int32) × (Nat → Int32) × (Nat → Int32)) => (WZ_VO cI cJ mv mr mi (va_up (va_up (va_up (va_up mf 6 u.1) 38 u.2.1) 39 u.2.2.1) 52 u.2.2.2) mg))) E hr hlk (greadings_7, gpmeasured_8, gpmeasuredIn_9, gstack_15) hw16 trivial (Nat.le_of_ble_eq_true rfl) (Nat.le_of_ble_eq_true rfl) dX10_turnsOf_23
set_option maxHeartbeats 4000000 in
set_option maxRecDepth 100000 in
theorem t_burningOf (l : Launch) (D : va_G) (cI cJ : ClassId) (sz : Nat) (mr : Nat → Nat) (mi : Nat → Int32) (mf : Nat → Nat → Int32) (mg : Nat → Nat → Int64) (z_h : Int32) (mv : Nat → Value) (h0 : 0 ≤ (mi 29).toInt ∧ (mi 29).toInt ≤ 10) (h1 : 0 ≤ (mi 37).toInt ∧ (mi 37).toInt ≤ 40) (h2 : 0 ≤ (mi 46).toInt ∧ (mi 46).toInt ≤ 10) (h3 : 0 ≤ z_h.toInt ∧ z_h.toInt ≤ 9) (a_p_from : p9 (mf 33)) (a_p_to : p9 (mf 34)) (a_u_marks : m4 (mf 60)) : Met l yX10_burningOf (Cond.code yX10_burningOf cX10_burningOf 3 (some .int) :: GW) ({ frames := 5, cells := 0, slots := 0, locals := 138 } : Room) (va_Pc [.ref (mr 0), .ref (mr 10), .int z_h] (PW D cI cJ sz (WZ_VO cI cJ mv mr mi mf mg) xT)) (va_Qi (fun (r : Int32) (u : (Nat → Int32) × (Nat → Int32) × (Nat → Int32) × (Nat → Int32)) => (0 ≤ r.toInt) ∧ (r.toInt ≤ 99)) (fun u => QW D cI cJ (va_A (WZ_VO cI cJ mv mr mi mf mg) sz) ((fun (u : (Nat → Int32) × (Nat → Int32) × (Nat → Int32) × (Nat → Int32)) => (WZ_VO cI cJ mv mr mi (va_up (va_up (va_up (va_up mf 6 u.1) 38 u.2.1) 39 u.2.2.1) 62 u.2.2.2) mg)) u)) (va_A (WZ_VO cI cJ mv mr mi mf mg) sz)) 0 0 (va_A (WZ_VO cI cJ mv mr mi mf mg) sz) := by
  refine mk_met (y := yX10_burningOf) (bytes := cX10_burningOf) (maxL := 3) (avs := [.ref (mr 0), .ref (mr 10), .int z_h]) (WS := (WZ_VO cI cJ mv mr mi mf mg)) (Qf := fun A => va_Qi (fun (r : Int32) (u : (Nat → Int32) × (Nat → Int32) × (Nat → Int32) × (Nat → Int32)) => (0 ≤ r.toInt) ∧ (r.toInt ≤ 99)) (fun u => QW D cI cJ A ((fun (u : (Nat → Int32) × (Nat → Int32) × (Nat → Int32) × (Nat → Int32)) => (WZ_VO cI cJ mv mr mi (va_up (va_up (va_up (va_up mf 6 u.1) 38 u.2.1) 39 u.2.2.1) 62 u.2.2.2) mg)) u)) A) (by decide) (Nat.le_of_ble_eq_true rfl) ?_
  intro p e s m below meth c A ls E hr hlk hnm hX hw1 hl2
  have hl3 : lv_has ls 3 [(0, .ref (mr 0)), (1, .ref (mr 10)), (2, .int z_h)] := hl2
  refine lv_aload_n (pc := 0) E.1 E.2.1 dX10_burningOf_0 rfl (lv_at hl3 0 rfl) ?_
  refine lv_aload_n (pc := 1) E.1 E.2.1 dX10_burningOf_1 rfl (lv_at hl3 1 rfl) ?_
  refine lv_iload_n (pc := 2) E.1 E.2.1 dX10_burningOf_2 rfl (lv_at hl3 2 rfl) ?_
  refine ck_v (pc := 3) (ws' := (fun (u : (Nat → Int32) × (Nat → Int32) × (Nat → Int32)) => (WZ_VO cI cJ mv mr mi (va_up (va_up (va_up mf 6 u.1) 38 u.2.1) 39 u.2.2) mg))) [true, true, true, true, true, true, true, true, true, true, true, true, true, true, true, true, true, true, true, true, true, true, true, true, true, true, true, true, true, true, true, true, true, true, true, true, true, true, true, true, true, true, true, true, true, true, true, true, true, true] hw1 rfl (fun hC_ => (rn_V (As := [.ref (mr 10), .int z_h]) (rest := []) E hw1 (t_readHouse l D cI cJ _ mr mi mf mg z_h (vl [mv 0]) h0 h1 h2 h3 a_p_from a_p_to) (gdV q_1032 q_1034 q_23 q_152 q_1035) hdV_X10_readHouse ⟨rfl, rfl⟩ ⟨(Nat.le_of_ble_eq_true rfl), (Nat.le_of_ble_eq_true rfl)⟩ ⟨(Nat.le_of_ble_eq_true rfl), (Nat.le_of_ble_eq_true rfl)⟩ xT_b xT_at 0 10 rfl rfl rfl _ hC_ (nd_T _ 0) rfl hl3.1 rfl (Nat.le_of_ble_eq_true rfl) dX10_burningOf_3)) rfl (fun _ => rfl) (fun _ => rfl) (fun u_4 H1 locs hp hw6 => ?_)
  obtain ⟨greadings_7, gpmeasured_8, gpmeasuredIn_9⟩ := u_4
  generalize H1 = H at hw6 ⊢
  have hw10 : WD D A s.heap (WZ_VO cI cJ mv mr mi (va_up (va_up (va_up mf 6 greadings_7) 38 gpmeasured_8) 39 gpmeasuredIn_9) mg) H locs := hw6
  refine lv_iconst (pc := 6) (v := 0) E.1 E.2.1 dX10_burningOf_6 (by decide +kernel) ?_
  refine lv_bipush (pc := 7) (v := 99) E.1 E.2.1 dX10_burningOf_7 (by decide +kernel) ?_
  refine lv_aload_n (pc := 9) E.1 E.2.1 dX10_burningOf_9 rfl (lv_at hl3 0 rfl) ?_
  refine x_get (pc := 10) (T := TX10) (N := 17) (ci := 10) (v := .ref (mr 57)) E hw10 inX10 0 5 q_472 rfl rfl (by decide) rfl rfl dX10_burningOf_10 ?_
  refine lv_aload_n (pc := 13) E.1 E.2.1 dX10_burningOf_13 rfl (lv_at hl3 0 rfl) ?_
  refine x_get (pc := 14) (T := TX10) (N := 17) (ci := 10) (v := .ref (mr 6)) E hw10 inX10 0 13 q_490 rfl rfl (by decide) rfl rfl dX10_burningOf_14 ?_
  refine lv_iconst (pc := 17) (v := 1) E.1 E.2.1 dX10_burningOf_17 (by decide +kernel) ?_
  refine cq_i (pc := 18) (ws' := (fun (u : (Nat → Int32)) => (WZ_VO cI cJ mv mr mi (va_up (va_up (va_up (va_up mf 6 greadings_7) 38 gpmeasured_8) 39 gpmeasuredIn_9) 62 u) mg))) hw10 [38, 39, 40, 41, 42, 2] [0, 1, 3, 4, 5, 6, 7, 8, 9, 10, 11, 12, 13, 14, 15, 16, 17, 18, 19, 20, 21, 22, 23, 24, 25, 26, 27, 28, 29, 30, 31, 32, 33, 34, 35, 36, 37, 43, 44, 45, 46, 47, 48, 49] [0, 1, 49, 2, 3, 4, 5, 6, 7, 8, 9, 10, 11, 12, 13, 14, 15, 16, 17, 18, 19, 20, 21, 22, 23, 24, 25, 26, 27, 28, 29, 30, 31, 32, 33, 34, 35, 36, 44, 45, 46, 47, 48, 37, 38, 39, 40, 41, 42, 43] rfl rfl (by decide) (by decide) (fun _ => rfl) (by decide) (rn_V (As := [.ref (mr 6), .int 1]) (rest := [.int 99, .int 0]) E hw10 (t_tells l D cI cJ _ (shs [(0, 57, 10), (10, 6, 1)] mr) (shs [(0, 57, 10), (10, 6, 1)] mi) (shs [(0, 57, 10), (10, 6, 1)] (va_up (va_up (va_up mf 6 greadings_7) 38 gpmeasured_8) 39 gpmeasuredIn_9)) (shs [(0, 57, 10), (10, 6, 1)] mg) 1 a_u_marks) (gdV q_1048 q_1049 q_1050 q_157 q_1051) hdV_X2_tells ⟨rfl, rfl⟩ ⟨(Nat.le_of_ble_eq_true rfl), (Nat.le_of_ble_eq_true rfl)⟩ ⟨(Nat.le_of_ble_eq_true rfl), (Nat.le_of_ble_eq_true rfl)⟩ xT_b xT_at 38 2 rfl rfl rfl [38, 39, 40, 41, 42, 2] rfl (by decide) rfl hl3.1 rfl (Nat.le_of_ble_eq_true rfl) dX10_burningOf_18) (fun r_12 u_11 H1 locs hp hw13 => ?_)
  obtain ⟨gstack_14, rfl⟩ : ∃ z, z = u_11 := ⟨_, rfl⟩
  generalize H1 = H at hw13 ⊢
  have hw15 : WD D A s.heap (WZ_VO cI cJ mv mr mi (va_up (va_up (va_up (va_up mf 6 greadings_7) 38 gpmeasured_8) 39 gpmeasuredIn_9) 62 gstack_14) mg) H locs := hw13
  refine x_min (pc := 21) E hl3.1 q_1067 q_808 q_167 q_809 (Nat.le_of_ble_eq_true rfl) (Nat.le_of_ble_eq_true rfl) (Nat.le_of_ble_eq_true rfl) (Nat.le_of_ble_eq_true rfl) dX10_burningOf_21 (fun v_16 hv_16 => ?_)
  rw [show (99 : Int32).toInt = 99 from by decide +kernel] at hv_16
  have hv_16a : v_16.toInt ≤ 99 ∧ v_16.toInt ≤ r_12.toInt := by omega
  clear hv_16
  refine x_max (pc := 24) E hl3.1 q_1068 q_805 q_167 q_806 (Nat.le_of_ble_eq_true rfl) (Nat.le_of_ble_eq_true rfl) (Nat.le_of_ble_eq_true rfl) (Nat.le_of_ble_eq_true rfl) dX10_burningOf_24 (fun v_17 hv_17 => ?_)
  rw [show (0 : Int32).toInt = 0 from by decide +kernel] at hv_17
  have hv_17a : 0 ≤ v_17.toInt ∧ v_16.toInt ≤ v_17.toInt := by omega
  have hv_17b : v_17.toInt ≤ 99 := by omega
  clear hv_17
  exact em_i (w1 := (fun (u : (Nat → Int32) × (Nat → Int32) × (Nat → Int32) × (Nat → Int32)) => (WZ_VO cI cJ mv mr mi (va_up (va_up (va_up (va_up mf 6 u.1) 38 u.2.1) 39 u.2.2.1) 62 u.2.2.2) mg))) E hr hlk (greadings_7, gpmeasured_8, gpmeasuredIn_9, gstack_14) hw15 ⟨(by show 0 ≤ v_17.toInt; omega), (by show v_17.toInt ≤ 99; omega)⟩ (Nat.le_of_ble_eq_true rfl) (Nat.le_of_ble_eq_true rfl) dX10_burningOf_27
