set_option maxHeartbeats 4000000 in
set_option maxRecDepth 100000 in
theorem t_append (l : Launch) (D : va_G) (cI cJ : ClassId) (sz : Nat) (mr : Nat → Nat) (mi : Nat → Int32) (mf : Nat → Nat → Int32) (mg : Nat → Nat → Int64) (z_number : Int32) (ad : Nat → Nat) (h0 : 0 ≤ (mi 2).toInt) (h1 : (mi 2).toInt ≤ 396) : Met l yX8_append (Cond.code yX8_append cX8_append 3 none :: GW) ({ frames := 1, cells := 0, slots := 0, locals := 40 } : Room) (va_Pc [.ref (mr 0), .int z_number] (PW D cI cJ sz (WZ_Tape cI cJ ad mr mi mf mg) xT)) (va_Qv (fun (u : (Nat → Int32) × Int32) => (u.2.toInt = (mi 2).toInt + 4)) (fun u => QW D cI cJ (va_A (WZ_Tape cI cJ ad mr mi mf mg) sz) ((fun (u : (Nat → Int32) × Int32) => (WZ_Tape cI cJ ad mr (upd mi 2 u.2) (va_up mf 1 u.1) mg)) u)) (va_A (WZ_Tape cI cJ ad mr mi mf mg) sz)) 0 0 (va_A (WZ_Tape cI cJ ad mr mi mf mg) sz) := by
  refine mk_met (y := yX8_append) (bytes := cX8_append) (maxL := 3) (avs := [.ref (mr 0), .int z_number]) (WS := (WZ_Tape cI cJ ad mr mi mf mg)) (Qf := fun A => va_Qv (fun (u : (Nat → Int32) × Int32) => (u.2.toInt = (mi 2).toInt + 4)) (fun u => QW D cI cJ A ((fun (u : (Nat → Int32) × Int32) => (WZ_Tape cI cJ ad mr (upd mi 2 u.2) (va_up mf 1 u.1) mg)) u)) A) (by decide) (Nat.le_of_ble_eq_true rfl) ?_
  intro p e s m below meth c A ls E hr hlk hnm hX hw1 hl2
  have hl3 : lv_has ls 3 [(0, .ref (mr 0)), (1, .int z_number)] := hl2
  refine lv_bipush (pc := 0) (v := 24) E.1 E.2.1 dX8_append_0 (by decide +kernel) ?_
  refine lv_istore_n (pc := 2) (lv' := [(2, .int 24), (0, .ref (mr 0)), (1, .int z_number)]) E.1 E.2.1 dX8_append_2 rfl hl3 (by decide) rfl (fun ls hl4 => ?_)
  have loop_5 : ∀ (k : Nat) (x_6 : Int32) (x_7 : Int32) (g_8 : Nat → Int32) (H : Heap) (locs : List Loc) (ls : Array Slot), ((-8) ≤ x_6.toInt) ∧ (x_6.toInt ≤ 24) ∧ (8 * x_7.toInt = 8 * (mi 2).toInt + 24 - x_6.toInt) → x_6.toInt + 8 < (k : Int) → WD D A s.heap (WZ_Tape cI cJ ad mr (upd mi 2 x_7) (va_up mf 1 g_8) mg) H locs → lv_has ls 3 [(2, .int x_6), (0, .ref (mr 0)), (1, .int z_number)] → W p l e ({ frames := 1, cells := 0, slots := 0, locals := 40 } : Room) s m ([.ref (mr 0), .int z_number] : List Value).toArray below meth c H locs 0 0 (MQ below (va_Qv (fun (u : (Nat → Int32) × Int32) => (u.2.toInt = (mi 2).toInt + 4)) (fun u => QW D cI cJ A ((fun (u : (Nat → Int32) × Int32) => (WZ_Tape cI cJ ad mr (upd mi 2 u.2) (va_up mf 1 u.1) mg)) u)) A) ([.ref (mr 0), .int z_number] : List Value).toArray s 0 0 A) (F0 m 3 ls []) := by
    intro k
    induction k with
    | zero =>
      intro x_6 x_7 g_8 _ _ _ hinv hm
      obtain ⟨hi_8_0, hi_8_1, hi_8_2⟩ := hinv
      exact absurd hm (by omega)
    | succ k ih_9 =>
      intro x_6 x_7 g_8 H locs ls hinv hm hw10 hl11
      obtain ⟨hi_8_0, hi_8_1, hi_8_2⟩ := hinv
      refine lv_iload_n (pc := 3) E.1 E.2.1 dX8_append_3 rfl (lv_at hl11 0 rfl) ?_
      refine lv_if_lt (pc := 4) (tgt := 49) E.1 E.2.1 dX8_append_4 (by decide) (fun c_12 => ?_) (fun c_12 => ?_)
      · skip
        have hc_12 := ltE (a := x_6.toInt) (b := 0) rfl (by decide +kernel) c_12
        exact em_v (w1 := (fun (u : (Nat → Int32) × Int32) => (WZ_Tape cI cJ ad mr (upd mi 2 u.2) (va_up mf 1 u.1) mg))) E hr hlk (g_8, x_7) hw10 (by show x_7.toInt = (mi 2).toInt + 4; omega) (Nat.le_of_ble_eq_true rfl) (Nat.le_of_ble_eq_true rfl) dX8_append_49
      · skip
        have hc_12 := nltE (a := x_6.toInt) (b := 0) rfl (by decide +kernel) c_12
        refine lv_aload_n (pc := 7) E.1 E.2.1 dX8_append_7 rfl (lv_at hl11 1 rfl) ?_
        refine x_get (pc := 8) (T := TX8) (N := 9) (ci := 8) (v := .int x_7) E hw10 inX8 0 1 q_538 rfl rfl (by decide) rfl rfl dX8_append_8 ?_
        refine lv_sipush (pc := 11) (v := 400) E.1 E.2.1 dX8_append_11 (by decide +kernel) ?_
        refine lv_icmp_ge (pc := 14) (tgt := 43) E.1 E.2.1 dX8_append_14 (by decide) (fun c_13 => absurd c_13 (mnleE (a := 400) (b := x_7.toInt) (by decide +kernel) rfl (by omega))) (fun _ => ?_)
        refine lv_aload_n (pc := 17) E.1 E.2.1 dX8_append_17 rfl (lv_at hl11 1 rfl) ?_
        refine x_get (pc := 18) (T := TX8) (N := 9) (ci := 8) (v := .ref (mr 1)) E hw10 inX8 0 0 q_537 rfl rfl (by decide) rfl rfl dX8_append_18 ?_
        refine lv_aload_n (pc := 21) E.1 E.2.1 dX8_append_21 rfl (lv_at hl11 1 rfl) ?_
        refine x_get (pc := 22) (T := TX8) (N := 9) (ci := 8) (v := .int x_7) E hw10 inX8 0 1 q_538 rfl rfl (by decide) rfl rfl dX8_append_22 ?_
        refine lv_iload_n (pc := 25) E.1 E.2.1 dX8_append_25 rfl (lv_at hl11 2 rfl) ?_
        refine lv_iload_n (pc := 26) E.1 E.2.1 dX8_append_26 rfl (lv_at hl11 0 rfl) ?_
        refine lv_iushr (pc := 27) E.1 E.2.1 dX8_append_27 rfl ?_
        refine lv_topi (fun v_14 ev_14 => ?_)
        refine lv_sipush (pc := 28) (v := 255) E.1 E.2.1 dX8_append_28 (by decide +kernel) ?_
        refine lv_iand (pc := 31) E.1 E.2.1 dX8_append_31 ?_
        refine lv_topi (fun v_15 ev_15 => ?_)
        refine x_iastG (pc := 32) (f := g_8) (wf := fun g => (WZ_Tape cI cJ ad mr (upd mi 2 x_7) (va_up mf 1 g) mg)) E hw10 1 rfl (inbE (a := x_7.toInt) rfl (by omega)) (fun _ => rfl) dX8_append_32 (fun g_16 H locs eg_16 hw17 => ?_)
        refine lv_aload_n (pc := 33) E.1 E.2.1 dX8_append_33 rfl (lv_at hl11 1 rfl) ?_
        refine lv_dup (pc := 34) E.1 E.2.1 dX8_append_34 rfl ?_
        refine x_get (pc := 35) (T := TX8) (N := 9) (ci := 8) (v := .int x_7) E hw17 inX8 0 1 q_538 rfl rfl (by decide) rfl rfl dX8_append_35 ?_
        refine lv_iconst (pc := 38) (v := 1) E.1 E.2.1 dX8_append_38 (by decide +kernel) ?_
        refine lv_iadd (pc := 39) E.1 E.2.1 dX8_append_39 ?_
        refine lv_topi (fun v_18 ev_18 => ?_)
        have hv_18 : v_18.toInt = x_7.toInt + 1 := by rw [ev_18]; exact addE rfl (by decide +kernel) (by omega)
        refine x_put (pc := 40) (T := TX8) (N := 9) (ci := 8) (ws' := (WZ_Tape cI cJ ad mr (upd mi 2 v_18) (va_up mf 1 g_16) mg)) E hw17 inX8 tyX8_ok nmX8 0 1 q_538 rfl rfl (by decide) rfl rfl rfl rfl (Nat.le_of_ble_eq_true rfl) rfl dX8_append_40 (fun H locs hw19 => ?_)
        obtain ⟨v_20, ev_20⟩ : ∃ z : Int32, x_6 + Int32.ofInt (-8) = z := ⟨_, rfl⟩
        have hv_20 : v_20.toInt = x_6.toInt + (-8) := by rw [← ev_20]; exact incE rfl (by decide) (by omega)
        refine lv_iinc (pc := 43) (v := v_20) (lv' := [(2, .int v_20), (0, .ref (mr 0)), (1, .int z_number)]) E.1 E.2.1 dX8_append_43 hl11 (k := 0) rfl ev_20 (by decide) rfl (fun ls hl21 => ?_)
        refine lv_goto (pc := 46) (tgt := 3) E.1 E.2.1 dX8_append_46 (by decide) ?_
        exact ih_9 v_20 v_18 g_16 _ _ _ ⟨(by show (-8) ≤ v_20.toInt; omega), (by show v_20.toInt ≤ 24; omega), (by show 8 * v_18.toInt = 8 * (mi 2).toInt + 24 - v_20.toInt; omega)⟩ (by omega) hw19 (lv_sub hl21 [0, 1, 2] rfl)
  exact loop_5 (Int.toNat (24 + 8) + 1) 24 (mi 2) (mf 1) _ _ _ ⟨(by show (-8) ≤ (24 : Int32).toInt; have k_0 : (24 : Int32).toInt = 24 := (by decide +kernel); omega), (by show (24 : Int32).toInt ≤ 24; have k_0 : (24 : Int32).toInt = 24 := (by decide +kernel); omega), (by show 8 * (mi 2).toInt = 8 * (mi 2).toInt + 24 - (24 : Int32).toInt; have k_0 : (24 : Int32).toInt = 24 := (by decide +kernel); omega)⟩ (by have k_0 : (24 : Int32).toInt = 24 := (by decide +kernel); omega) hw1 (lv_sub hl4 [0, 1, 2] rfl)
set_option maxHeartbeats 4000000 in
set_option maxRecDepth 100000 in
theorem t_goesOn (l : Launch) (D : va_G) (cI cJ : ClassId) (sz : Nat) (mr : Nat → Nat) (mi : Nat → Int32) (mf : Nat → Nat → Int32) (mg : Nat → Nat → Int64)  (ad : Nat → Nat)  : Met l yX8_goesOn (Cond.code yX8_goesOn cX8_goesOn 1 (some .boolean) :: GW) ({ frames := 1, cells := 0, slots := 0, locals := 40 } : Room) (va_Pc [.ref (mr 0)] (PW D cI cJ sz (WZ_Tape cI cJ ad mr mi mf mg) xT)) (va_Qi (fun (r : Int32) (u : Unit) => ((r = 1 ∧ (mi 8).toInt = 0 ∧ ¬ (mi 5).toInt = 0) ∨ (r = 0 ∧ ¬ (mi 8).toInt = 0) ∨ (r = 0 ∧ (mi 5).toInt = 0))) (fun u => QW D cI cJ (va_A (WZ_Tape cI cJ ad mr mi mf mg) sz) ((fun (u : Unit) => (WZ_Tape cI cJ ad mr mi mf mg)) u)) (va_A (WZ_Tape cI cJ ad mr mi mf mg) sz)) 0 0 (va_A (WZ_Tape cI cJ ad mr mi mf mg) sz) := by
  refine mk_met (y := yX8_goesOn) (bytes := cX8_goesOn) (maxL := 1) (avs := [.ref (mr 0)]) (WS := (WZ_Tape cI cJ ad mr mi mf mg)) (Qf := fun A => va_Qi (fun (r : Int32) (u : Unit) => ((r = 1 ∧ (mi 8).toInt = 0 ∧ ¬ (mi 5).toInt = 0) ∨ (r = 0 ∧ ¬ (mi 8).toInt = 0) ∨ (r = 0 ∧ (mi 5).toInt = 0))) (fun u => QW D cI cJ A ((fun (u : Unit) => (WZ_Tape cI cJ ad mr mi mf mg)) u)) A) (by decide) (Nat.le_of_ble_eq_true rfl) ?_
  intro p e s m below meth c A ls E hr hlk hnm hX hw1 hl2
  have hl3 : lv_has ls 1 [(0, .ref (mr 0))] := hl2
  refine lv_aload_n (pc := 0) E.1 E.2.1 dX8_goesOn_0 rfl (lv_at hl3 0 rfl) ?_
  refine x_get (pc := 1) (T := TX8) (N := 9) (ci := 8) (v := .int (mi 8)) E hw1 inX8 0 7 q_550 rfl rfl (by decide) rfl rfl dX8_goesOn_1 ?_
  refine lv_if_ne (pc := 4) (tgt := 18) E.1 E.2.1 dX8_goesOn_4 (by decide) (fun c_4 => ?_) (fun c_4 => ?_)
  · skip
    have hc_4 := neE (a := (mi 8).toInt) (b := 0) rfl (by decide +kernel) c_4
    refine lv_iconst (pc := 18) (v := 0) E.1 E.2.1 dX8_goesOn_18 (by decide +kernel) ?_
    exact em_z (w1 := (fun (u : Unit) => (WZ_Tape cI cJ ad mr mi mf mg))) E hr hlk () hw1 (Or.inr (Or.inl ⟨rfl, (by show ¬ (mi 8).toInt = 0; omega)⟩)) (by decide +kernel) (Nat.le_of_ble_eq_true rfl) (Nat.le_of_ble_eq_true rfl) dX8_goesOn_19
  · skip
    have hc_4 := eqE (a := (mi 8).toInt) (b := 0) rfl (by decide +kernel) c_4
    refine lv_aload_n (pc := 7) E.1 E.2.1 dX8_goesOn_7 rfl (lv_at hl3 0 rfl) ?_
    refine x_get (pc := 8) (T := TX8) (N := 9) (ci := 8) (v := .int (mi 5)) E hw1 inX8 0 4 q_546 rfl rfl (by decide) rfl rfl dX8_goesOn_8 ?_
    refine lv_if_eq (pc := 11) (tgt := 18) E.1 E.2.1 dX8_goesOn_11 (by decide) (fun c_5 => ?_) (fun c_5 => ?_)
    · skip
      have hc_5 := eqE (a := (mi 5).toInt) (b := 0) rfl (by decide +kernel) c_5
      refine lv_iconst (pc := 18) (v := 0) E.1 E.2.1 dX8_goesOn_18 (by decide +kernel) ?_
      exact em_z (w1 := (fun (u : Unit) => (WZ_Tape cI cJ ad mr mi mf mg))) E hr hlk () hw1 (Or.inr (Or.inr (⟨rfl, (by show (mi 5).toInt = 0; omega)⟩))) (by decide +kernel) (Nat.le_of_ble_eq_true rfl) (Nat.le_of_ble_eq_true rfl) dX8_goesOn_19
    · skip
      have hc_5 := neE (a := (mi 5).toInt) (b := 0) rfl (by decide +kernel) c_5
      refine lv_iconst (pc := 14) (v := 1) E.1 E.2.1 dX8_goesOn_14 (by decide +kernel) ?_
      refine lv_goto (pc := 15) (tgt := 19) E.1 E.2.1 dX8_goesOn_15 (by decide) ?_
      exact em_z (w1 := (fun (u : Unit) => (WZ_Tape cI cJ ad mr mi mf mg))) E hr hlk () hw1 (Or.inl ⟨rfl, (by show (mi 8).toInt = 0; omega), (by show ¬ (mi 5).toInt = 0; omega)⟩) (by decide +kernel) (Nat.le_of_ble_eq_true rfl) (Nat.le_of_ble_eq_true rfl) dX8_goesOn_19
set_option maxHeartbeats 4000000 in
set_option maxRecDepth 100000 in
theorem t_refuse (l : Launch) (D : va_G) (cI cJ : ClassId) (sz : Nat) (mr : Nat → Nat) (mi : Nat → Int32) (mf : Nat → Nat → Int32) (mg : Nat → Nat → Int64) (z_why : Int32) (ad : Nat → Nat) (h0 : 1 ≤ z_why.toInt ∧ z_why.toInt ≤ 4) (h1 : 0 ≤ (mi 8).toInt ∧ (mi 8).toInt ≤ 4) : Met l yX8_refuse (Cond.code yX8_refuse cX8_refuse 2 none :: GW) ({ frames := 1, cells := 0, slots := 0, locals := 40 } : Room) (va_Pc [.ref (mr 0), .int z_why] (PW D cI cJ sz (WZ_Tape cI cJ ad mr mi mf mg) xT)) (va_Qv (fun (u : Int32 × Int32) => (1 ≤ u.1.toInt) ∧ (u.1.toInt ≤ 4)) (fun u => QW D cI cJ (va_A (WZ_Tape cI cJ ad mr mi mf mg) sz) ((fun (u : Int32 × Int32) => (WZ_Tape cI cJ ad mr (upd (upd mi 8 u.1) 9 u.2) mf mg)) u)) (va_A (WZ_Tape cI cJ ad mr mi mf mg) sz)) 0 0 (va_A (WZ_Tape cI cJ ad mr mi mf mg) sz) := by
  refine mk_met (y := yX8_refuse) (bytes := cX8_refuse) (maxL := 2) (avs := [.ref (mr 0), .int z_why]) (WS := (WZ_Tape cI cJ ad mr mi mf mg)) (Qf := fun A => va_Qv (fun (u : Int32 × Int32) => (1 ≤ u.1.toInt) ∧ (u.1.toInt ≤ 4)) (fun u => QW D cI cJ A ((fun (u : Int32 × Int32) => (WZ_Tape cI cJ ad mr (upd (upd mi 8 u.1) 9 u.2) mf mg)) u)) A) (by decide) (Nat.le_of_ble_eq_true rfl) ?_
  intro p e s m below meth c A ls E hr hlk hnm hX hw1 hl2
  have hl3 : lv_has ls 2 [(0, .ref (mr 0)), (1, .int z_why)] := hl2
  refine lv_aload_n (pc := 0) E.1 E.2.1 dX8_refuse_0 rfl (lv_at hl3 0 rfl) ?_
  refine x_get (pc := 1) (T := TX8) (N := 9) (ci := 8) (v := .int (mi 8)) E hw1 inX8 0 7 q_550 rfl rfl (by decide) rfl rfl dX8_refuse_1 ?_
  refine lv_if_ne (pc := 4) (tgt := 20) E.1 E.2.1 dX8_refuse_4 (by decide) (fun c_4 => ?_) (fun c_4 => ?_)
  · skip
    have hc_4 := neE (a := (mi 8).toInt) (b := 0) rfl (by decide +kernel) c_4
    exact em_v (w1 := (fun (u : Int32 × Int32) => (WZ_Tape cI cJ ad mr (upd (upd mi 8 u.1) 9 u.2) mf mg))) E hr hlk ((mi 8), (mi 9)) hw1 ⟨(by show 1 ≤ (mi 8).toInt; omega), h1.2⟩ (Nat.le_of_ble_eq_true rfl) (Nat.le_of_ble_eq_true rfl) dX8_refuse_20
  · skip
    have hc_4 := eqE (a := (mi 8).toInt) (b := 0) rfl (by decide +kernel) c_4
    refine lv_aload_n (pc := 7) E.1 E.2.1 dX8_refuse_7 rfl (lv_at hl3 0 rfl) ?_
    refine lv_iload_n (pc := 8) E.1 E.2.1 dX8_refuse_8 rfl (lv_at hl3 1 rfl) ?_
    refine x_put (pc := 9) (T := TX8) (N := 9) (ci := 8) (ws' := (WZ_Tape cI cJ ad mr (upd mi 8 z_why) mf mg)) E hw1 inX8 tyX8_ok nmX8 0 7 q_550 rfl rfl (by decide) rfl rfl rfl rfl (Nat.le_of_ble_eq_true rfl) rfl dX8_refuse_9 (fun H locs hw5 => ?_)
    refine lv_aload_n (pc := 12) E.1 E.2.1 dX8_refuse_12 rfl (lv_at hl3 0 rfl) ?_
    refine lv_aload_n (pc := 13) E.1 E.2.1 dX8_refuse_13 rfl (lv_at hl3 0 rfl) ?_
    refine x_get (pc := 14) (T := TX8) (N := 9) (ci := 8) (v := .int (mi 7)) E hw5 inX8 0 6 q_549 rfl rfl (by decide) rfl rfl dX8_refuse_14 ?_
    refine x_put (pc := 17) (T := TX8) (N := 9) (ci := 8) (ws' := (WZ_Tape cI cJ ad mr (upd (upd mi 8 z_why) 9 (mi 7)) mf mg)) E hw5 inX8 tyX8_ok nmX8 0 8 q_556 rfl rfl (by decide) rfl rfl rfl rfl (Nat.le_of_ble_eq_true rfl) rfl dX8_refuse_17 (fun H locs hw6 => ?_)
    exact em_v (w1 := (fun (u : Int32 × Int32) => (WZ_Tape cI cJ ad mr (upd (upd mi 8 u.1) 9 u.2) mf mg))) E hr hlk (z_why, (mi 7)) hw6 ⟨h0.1, h0.2⟩ (Nat.le_of_ble_eq_true rfl) (Nat.le_of_ble_eq_true rfl) dX8_refuse_20
set_option maxHeartbeats 4000000 in
set_option maxRecDepth 100000 in
theorem t_isLetter (l : Launch) (D : va_G) (cI cJ : ClassId) (sz : Nat) (mr : Nat → Nat) (mi : Nat → Int32) (mf : Nat → Nat → Int32) (mg : Nat → Nat → Int64) (z_sign : Int32)  : Met l yX8_isLetter (Cond.code yX8_isLetter cX8_isLetter 1 (some .boolean) :: GW) ({ frames := 1, cells := 0, slots := 0, locals := 40 } : Room) (va_Pc [.int z_sign] (PW D cI cJ sz (WZ_Et1 cI cJ mr mi mf mg) xT)) (va_Qi (fun (r : Int32) (u : Unit) => (0 ≤ r.toInt) ∧ (r.toInt ≤ 1)) (fun u => QW D cI cJ (va_A (WZ_Et1 cI cJ mr mi mf mg) sz) ((fun (u : Unit) => (WZ_Et1 cI cJ mr mi mf mg)) u)) (va_A (WZ_Et1 cI cJ mr mi mf mg) sz)) 0 0 (va_A (WZ_Et1 cI cJ mr mi mf mg) sz) := by
  refine mk_met (y := yX8_isLetter) (bytes := cX8_isLetter) (maxL := 1) (avs := [.int z_sign]) (WS := (WZ_Et1 cI cJ mr mi mf mg)) (Qf := fun A => va_Qi (fun (r : Int32) (u : Unit) => (0 ≤ r.toInt) ∧ (r.toInt ≤ 1)) (fun u => QW D cI cJ A ((fun (u : Unit) => (WZ_Et1 cI cJ mr mi mf mg)) u)) A) (by decide) (Nat.le_of_ble_eq_true rfl) ?_
  intro p e s m below meth c A ls E hr hlk hnm hX hw1 hl2
  have hl3 : lv_has ls 1 [(0, .int z_sign)] := hl2
  refine lv_iload_n (pc := 0) E.1 E.2.1 dX8_isLetter_0 rfl (lv_at hl3 0 rfl) ?_
  refine lv_bipush (pc := 1) (v := 97) E.1 E.2.1 dX8_isLetter_1 (by decide +kernel) ?_
  refine lv_icmp_lt (pc := 3) (tgt := 12) E.1 E.2.1 dX8_isLetter_3 (by decide) (fun c_4 => ?_) (fun c_4 => ?_)
  · skip
    have hc_4 := ltE (a := z_sign.toInt) (b := 97) rfl (by decide +kernel) c_4
    refine lv_iload_n (pc := 12) E.1 E.2.1 dX8_isLetter_12 rfl (lv_at hl3 0 rfl) ?_
    refine lv_bipush (pc := 13) (v := 65) E.1 E.2.1 dX8_isLetter_13 (by decide +kernel) ?_
    refine lv_icmp_lt (pc := 15) (tgt := 28) E.1 E.2.1 dX8_isLetter_15 (by decide) (fun c_5 => ?_) (fun c_5 => ?_)
    · skip
      have hc_5 := ltE (a := z_sign.toInt) (b := 65) rfl (by decide +kernel) c_5
      refine lv_iconst (pc := 28) (v := 0) E.1 E.2.1 dX8_isLetter_28 (by decide +kernel) ?_
      exact em_z (w1 := (fun (u : Unit) => (WZ_Et1 cI cJ mr mi mf mg))) E hr hlk () hw1 ⟨(by show 0 ≤ (0 : Int32).toInt; have k_0 : (0 : Int32).toInt = 0 := (by decide +kernel); omega), (by show (0 : Int32).toInt ≤ 1; have k_0 : (0 : Int32).toInt = 0 := (by decide +kernel); omega)⟩ (by decide +kernel) (Nat.le_of_ble_eq_true rfl) (Nat.le_of_ble_eq_true rfl) dX8_isLetter_29
    · skip
      have hc_5 := nltE (a := z_sign.toInt) (b := 65) rfl (by decide +kernel) c_5
      refine lv_iload_n (pc := 18) E.1 E.2.1 dX8_isLetter_18 rfl (lv_at hl3 0 rfl) ?_
      refine lv_bipush (pc := 19) (v := 90) E.1 E.2.1 dX8_isLetter_19 (by decide +kernel) ?_
      refine lv_icmp_gt (pc := 21) (tgt := 28) E.1 E.2.1 dX8_isLetter_21 (by decide) (fun c_6 => ?_) (fun c_6 => ?_)
      · skip
        have hc_6 := ltE (a := 90) (b := z_sign.toInt) (by decide +kernel) rfl c_6
        refine lv_iconst (pc := 28) (v := 0) E.1 E.2.1 dX8_isLetter_28 (by decide +kernel) ?_
        exact em_z (w1 := (fun (u : Unit) => (WZ_Et1 cI cJ mr mi mf mg))) E hr hlk () hw1 ⟨(by show 0 ≤ (0 : Int32).toInt; have k_0 : (0 : Int32).toInt = 0 := (by decide +kernel); omega), (by show (0 : Int32).toInt ≤ 1; have k_0 : (0 : Int32).toInt = 0 := (by decide +kernel); omega)⟩ (by decide +kernel) (Nat.le_of_ble_eq_true rfl) (Nat.le_of_ble_eq_true rfl) dX8_isLetter_29
      · skip
        have hc_6 := nltE (a := 90) (b := z_sign.toInt) (by decide +kernel) rfl c_6
        refine lv_iconst (pc := 24) (v := 1) E.1 E.2.1 dX8_isLetter_24 (by decide +kernel) ?_
        refine lv_goto (pc := 25) (tgt := 29) E.1 E.2.1 dX8_isLetter_25 (by decide) ?_
        exact em_z (w1 := (fun (u : Unit) => (WZ_Et1 cI cJ mr mi mf mg))) E hr hlk () hw1 ⟨(by show 0 ≤ (1 : Int32).toInt; have k_0 : (1 : Int32).toInt = 1 := (by decide +kernel); omega), (by show (1 : Int32).toInt ≤ 1; have k_0 : (1 : Int32).toInt = 1 := (by decide +kernel); omega)⟩ (by decide +kernel) (Nat.le_of_ble_eq_true rfl) (Nat.le_of_ble_eq_true rfl) dX8_isLetter_29
  · skip
    have hc_4 := nltE (a := z_sign.toInt) (b := 97) rfl (by decide +kernel) c_4
    refine lv_iload_n (pc := 6) E.1 E.2.1 dX8_isLetter_6 rfl (lv_at hl3 0 rfl) ?_
    refine lv_bipush (pc := 7) (v := 122) E.1 E.2.1 dX8_isLetter_7 (by decide +kernel) ?_
    refine lv_icmp_le (pc := 9) (tgt := 24) E.1 E.2.1 dX8_isLetter_9 (by decide) (fun c_7 => ?_) (fun c_7 => ?_)
    · skip
      have hc_7 := leE (a := z_sign.toInt) (b := 122) rfl (by decide +kernel) c_7
      refine lv_iconst (pc := 24) (v := 1) E.1 E.2.1 dX8_isLetter_24 (by decide +kernel) ?_
      refine lv_goto (pc := 25) (tgt := 29) E.1 E.2.1 dX8_isLetter_25 (by decide) ?_
      exact em_z (w1 := (fun (u : Unit) => (WZ_Et1 cI cJ mr mi mf mg))) E hr hlk () hw1 ⟨(by show 0 ≤ (1 : Int32).toInt; have k_0 : (1 : Int32).toInt = 1 := (by decide +kernel); omega), (by show (1 : Int32).toInt ≤ 1; have k_0 : (1 : Int32).toInt = 1 := (by decide +kernel); omega)⟩ (by decide +kernel) (Nat.le_of_ble_eq_true rfl) (Nat.le_of_ble_eq_true rfl) dX8_isLetter_29
    · skip
      have hc_7 := nleE (a := z_sign.toInt) (b := 122) rfl (by decide +kernel) c_7
      refine lv_iload_n (pc := 12) E.1 E.2.1 dX8_isLetter_12 rfl (lv_at hl3 0 rfl) ?_
      refine lv_bipush (pc := 13) (v := 65) E.1 E.2.1 dX8_isLetter_13 (by decide +kernel) ?_
      refine lv_icmp_lt (pc := 15) (tgt := 28) E.1 E.2.1 dX8_isLetter_15 (by decide) (fun c_8 => absurd c_8 (mnltE (a := z_sign.toInt) (b := 65) rfl (by decide +kernel) (by omega))) (fun _ => ?_)
      refine lv_iload_n (pc := 18) E.1 E.2.1 dX8_isLetter_18 rfl (lv_at hl3 0 rfl) ?_
      refine lv_bipush (pc := 19) (v := 90) E.1 E.2.1 dX8_isLetter_19 (by decide +kernel) ?_
      refine lv_icmp_gt (pc := 21) (tgt := 28) E.1 E.2.1 dX8_isLetter_21 (by decide) (fun _ => ?_) (fun c_9 => absurd (mltE (a := 90) (b := z_sign.toInt) (by decide +kernel) rfl (by omega)) c_9)
      refine lv_iconst (pc := 28) (v := 0) E.1 E.2.1 dX8_isLetter_28 (by decide +kernel) ?_
      exact em_z (w1 := (fun (u : Unit) => (WZ_Et1 cI cJ mr mi mf mg))) E hr hlk () hw1 ⟨(by show 0 ≤ (0 : Int32).toInt; have k_0 : (0 : Int32).toInt = 0 := (by decide +kernel); omega), (by show (0 : Int32).toInt ≤ 1; have k_0 : (0 : Int32).toInt = 0 := (by decide +kernel); omega)⟩ (by decide +kernel) (Nat.le_of_ble_eq_true rfl) (Nat.le_of_ble_eq_true rfl) dX8_isLetter_29
set_option maxHeartbeats 4000000 in
set_option maxRecDepth 100000 in
theorem t_isDigit (l : Launch) (D : va_G) (cI cJ : ClassId) (sz : Nat) (mr : Nat → Nat) (mi : Nat → Int32) (mf : Nat → Nat → Int32) (mg : Nat → Nat → Int64) (z_sign : Int32)  : Met l yX8_isDigit (Cond.code yX8_isDigit cX8_isDigit 1 (some .boolean) :: GW) ({ frames := 1, cells := 0, slots := 0, locals := 40 } : Room) (va_Pc [.int z_sign] (PW D cI cJ sz (WZ_Et2 cI cJ mr mi mf mg) xT)) (va_Qi (fun (r : Int32) (u : Unit) => (0 ≤ r.toInt) ∧ (r.toInt ≤ 1)) (fun u => QW D cI cJ (va_A (WZ_Et2 cI cJ mr mi mf mg) sz) ((fun (u : Unit) => (WZ_Et2 cI cJ mr mi mf mg)) u)) (va_A (WZ_Et2 cI cJ mr mi mf mg) sz)) 0 0 (va_A (WZ_Et2 cI cJ mr mi mf mg) sz) := by
  refine mk_met (y := yX8_isDigit) (bytes := cX8_isDigit) (maxL := 1) (avs := [.int z_sign]) (WS := (WZ_Et2 cI cJ mr mi mf mg)) (Qf := fun A => va_Qi (fun (r : Int32) (u : Unit) => (0 ≤ r.toInt) ∧ (r.toInt ≤ 1)) (fun u => QW D cI cJ A ((fun (u : Unit) => (WZ_Et2 cI cJ mr mi mf mg)) u)) A) (by decide) (Nat.le_of_ble_eq_true rfl) ?_
  intro p e s m below meth c A ls E hr hlk hnm hX hw1 hl2
  have hl3 : lv_has ls 1 [(0, .int z_sign)] := hl2
  refine lv_iload_n (pc := 0) E.1 E.2.1 dX8_isDigit_0 rfl (lv_at hl3 0 rfl) ?_
  refine lv_bipush (pc := 1) (v := 48) E.1 E.2.1 dX8_isDigit_1 (by decide +kernel) ?_
  refine lv_icmp_lt (pc := 3) (tgt := 16) E.1 E.2.1 dX8_isDigit_3 (by decide) (fun c_4 => ?_) (fun c_4 => ?_)
  · skip
    have hc_4 := ltE (a := z_sign.toInt) (b := 48) rfl (by decide +kernel) c_4
    refine lv_iconst (pc := 16) (v := 0) E.1 E.2.1 dX8_isDigit_16 (by decide +kernel) ?_
    exact em_z (w1 := (fun (u : Unit) => (WZ_Et2 cI cJ mr mi mf mg))) E hr hlk () hw1 ⟨(by show 0 ≤ (0 : Int32).toInt; have k_0 : (0 : Int32).toInt = 0 := (by decide +kernel); omega), (by show (0 : Int32).toInt ≤ 1; have k_0 : (0 : Int32).toInt = 0 := (by decide +kernel); omega)⟩ (by decide +kernel) (Nat.le_of_ble_eq_true rfl) (Nat.le_of_ble_eq_true rfl) dX8_isDigit_17
  · skip
    have hc_4 := nltE (a := z_sign.toInt) (b := 48) rfl (by decide +kernel) c_4
    refine lv_iload_n (pc := 6) E.1 E.2.1 dX8_isDigit_6 rfl (lv_at hl3 0 rfl) ?_
    refine lv_bipush (pc := 7) (v := 57) E.1 E.2.1 dX8_isDigit_7 (by decide +kernel) ?_
    refine lv_icmp_gt (pc := 9) (tgt := 16) E.1 E.2.1 dX8_isDigit_9 (by decide) (fun c_5 => ?_) (fun c_5 => ?_)
    · skip
      have hc_5 := ltE (a := 57) (b := z_sign.toInt) (by decide +kernel) rfl c_5
      refine lv_iconst (pc := 16) (v := 0) E.1 E.2.1 dX8_isDigit_16 (by decide +kernel) ?_
      exact em_z (w1 := (fun (u : Unit) => (WZ_Et2 cI cJ mr mi mf mg))) E hr hlk () hw1 ⟨(by show 0 ≤ (0 : Int32).toInt; have k_0 : (0 : Int32).toInt = 0 := (by decide +kernel); omega), (by show (0 : Int32).toInt ≤ 1; have k_0 : (0 : Int32).toInt = 0 := (by decide +kernel); omega)⟩ (by decide +kernel) (Nat.le_of_ble_eq_true rfl) (Nat.le_of_ble_eq_true rfl) dX8_isDigit_17
    · skip
      have hc_5 := nltE (a := 57) (b := z_sign.toInt) (by decide +kernel) rfl c_5
      refine lv_iconst (pc := 12) (v := 1) E.1 E.2.1 dX8_isDigit_12 (by decide +kernel) ?_
      refine lv_goto (pc := 13) (tgt := 17) E.1 E.2.1 dX8_isDigit_13 (by decide) ?_
      exact em_z (w1 := (fun (u : Unit) => (WZ_Et2 cI cJ mr mi mf mg))) E hr hlk () hw1 ⟨(by show 0 ≤ (1 : Int32).toInt; have k_0 : (1 : Int32).toInt = 1 := (by decide +kernel); omega), (by show (1 : Int32).toInt ≤ 1; have k_0 : (1 : Int32).toInt = 1 := (by decide +kernel); omega)⟩ (by decide +kernel) (Nat.le_of_ble_eq_true rfl) (Nat.le_of_ble_eq_true rfl) dX8_isDigit_17
set_option maxHeartbeats 4000000 in
set_option maxRecDepth 100000 in
theorem t_readNumberT (l : Launch) (D : va_G) (cI cJ : ClassId) (sz : Nat) (mr : Nat → Nat) (mi : Nat → Int32) (mf : Nat → Nat → Int32) (mg : Nat → Nat → Int64)  (ad : Nat → Nat) (h0 : 0 ≤ (mi 2).toInt ∧ (mi 2).toInt ≤ 400) (h1 : 0 ≤ (mi 4).toInt) (h2 : (mi 4).toInt ≤ (mi 2).toInt) (h3 : 0 ≤ (mi 7).toInt) (h4 : (mi 7).toInt ≤ (mi 4).toInt) : Met l yX8_readNumber (Cond.code yX8_readNumber cX8_readNumber 1 none :: GW) ({ frames := 2, cells := 0, slots := 0, locals := 60 } : Room) (va_Pc [.ref (mr 0)] (PW D cI cJ sz (WZ_Tape cI cJ ad mr mi mf mg) xT)) (va_Qv (fun (u : Int32 × Int32 × Int32) => (0 ≤ u.2.1.toInt) ∧ (u.2.1.toInt ≤ (mi 2).toInt) ∧ ((mi 4).toInt ≤ u.2.1.toInt)) (fun u => QW D cI cJ (va_A (WZ_Tape cI cJ ad mr mi mf mg) sz) ((fun (u : Int32 × Int32 × Int32) => (WZ_Tape cI cJ ad mr (upd (upd (upd mi 6 u.1) 4 u.2.1) 5 u.2.2) mf mg)) u)) (va_A (WZ_Tape cI cJ ad mr mi mf mg) sz)) 0 0 (va_A (WZ_Tape cI cJ ad mr mi mf mg) sz) := by
  refine mk_met (y := yX8_readNumber) (bytes := cX8_readNumber) (maxL := 1) (avs := [.ref (mr 0)]) (WS := (WZ_Tape cI cJ ad mr mi mf mg)) (Qf := fun A => va_Qv (fun (u : Int32 × Int32 × Int32) => (0 ≤ u.2.1.toInt) ∧ (u.2.1.toInt ≤ (mi 2).toInt) ∧ ((mi 4).toInt ≤ u.2.1.toInt)) (fun u => QW D cI cJ A ((fun (u : Int32 × Int32 × Int32) => (WZ_Tape cI cJ ad mr (upd (upd (upd mi 6 u.1) 4 u.2.1) 5 u.2.2) mf mg)) u)) A) (by decide) (Nat.le_of_ble_eq_true rfl) ?_
  intro p e s m below meth c A ls E hr hlk hnm hX hw1 hl2
  have hl3 : lv_has ls 1 [(0, .ref (mr 0))] := hl2
  refine lv_aload_n (pc := 0) E.1 E.2.1 dX8_readNumber_0 rfl (lv_at hl3 0 rfl) ?_
  refine lv_iconst (pc := 1) (v := 0) E.1 E.2.1 dX8_readNumber_1 (by decide +kernel) ?_
  refine x_put (pc := 2) (T := TX8) (N := 9) (ci := 8) (ws' := (WZ_Tape cI cJ ad mr (upd mi 6 0) mf mg)) E hw1 inX8 tyX8_ok nmX8 0 5 q_548 rfl rfl (by decide) rfl rfl rfl rfl (Nat.le_of_ble_eq_true rfl) rfl dX8_readNumber_2 (fun H locs hw4 => ?_)
  have loop_5 : ∀ (k : Nat) (x_6 : Int32) (x_7 : Int32) (H : Heap) (locs : List Loc) (ls : Array Slot), (0 ≤ x_6.toInt) ∧ (x_6.toInt ≤ (mi 2).toInt) ∧ ((mi 4).toInt ≤ x_6.toInt) → (mi 2).toInt - x_6.toInt < (k : Int) → WD D A s.heap (WZ_Tape cI cJ ad mr (upd (upd mi 4 x_6) 6 x_7) mf mg) H locs → lv_has ls 1 [(0, .ref (mr 0))] → W p l e ({ frames := 2, cells := 0, slots := 0, locals := 60 } : Room) s m ([.ref (mr 0)] : List Value).toArray below meth c H locs 0 0 (MQ below (va_Qv (fun (u : Int32 × Int32 × Int32) => (0 ≤ u.2.1.toInt) ∧ (u.2.1.toInt ≤ (mi 2).toInt) ∧ ((mi 4).toInt ≤ u.2.1.toInt)) (fun u => QW D cI cJ A ((fun (u : Int32 × Int32 × Int32) => (WZ_Tape cI cJ ad mr (upd (upd (upd mi 6 u.1) 4 u.2.1) 5 u.2.2) mf mg)) u)) A) ([.ref (mr 0)] : List Value).toArray s 0 0 A) (F0 m 5 ls []) := by
    intro k
    induction k with
    | zero =>
      intro x_6 x_7 _ _ _ hinv hm
      obtain ⟨hi_7_0, hi_7_1, hi_7_2⟩ := hinv
      exact absurd hm (by omega)
    | succ k ih_8 =>
      intro x_6 x_7 H locs ls hinv hm hw9 hl10
      obtain ⟨hi_7_0, hi_7_1, hi_7_2⟩ := hinv
      refine lv_aload_n (pc := 5) E.1 E.2.1 dX8_readNumber_5 rfl (lv_at hl10 0 rfl) ?_
      refine x_get (pc := 6) (T := TX8) (N := 9) (ci := 8) (v := .int x_6) E hw9 inX8 0 3 q_541 rfl rfl (by decide) rfl rfl dX8_readNumber_6 ?_
      refine lv_aload_n (pc := 9) E.1 E.2.1 dX8_readNumber_9 rfl (lv_at hl10 0 rfl) ?_
      refine x_get (pc := 10) (T := TX8) (N := 9) (ci := 8) (v := .int (mi 2)) E hw9 inX8 0 1 q_538 rfl rfl (by decide) rfl rfl dX8_readNumber_10 ?_
      refine lv_icmp_ge (pc := 13) (tgt := 81) E.1 E.2.1 dX8_readNumber_13 (by decide) (fun c_11 => ?_) (fun c_11 => ?_)
      · skip
        have hc_11 := leE (a := (mi 2).toInt) (b := x_6.toInt) rfl rfl c_11
        refine lv_aload_n (pc := 81) E.1 E.2.1 dX8_readNumber_81 rfl (lv_at hl10 0 rfl) ?_
        refine lv_aload_n (pc := 82) E.1 E.2.1 dX8_readNumber_82 rfl (lv_at hl10 0 rfl) ?_
        refine x_get (pc := 83) (T := TX8) (N := 9) (ci := 8) (v := .int x_6) E hw9 inX8 0 3 q_541 rfl rfl (by decide) rfl rfl dX8_readNumber_83 ?_
        refine lv_aload_n (pc := 86) E.1 E.2.1 dX8_readNumber_86 rfl (lv_at hl10 0 rfl) ?_
        refine x_get (pc := 87) (T := TX8) (N := 9) (ci := 8) (v := .int (mi 7)) E hw9 inX8 0 6 q_549 rfl rfl (by decide) rfl rfl dX8_readNumber_87 ?_
        refine lv_isub (pc := 90) E.1 E.2.1 dX8_readNumber_90 ?_
        refine lv_topi (fun v_12 ev_12 => ?_)
        have hv_12 : v_12.toInt = x_6.toInt - (mi 7).toInt := by rw [ev_12]; exact subE rfl rfl (by omega)
        refine lv_iconst (pc := 91) (v := 4) E.1 E.2.1 dX8_readNumber_91 (by decide +kernel) ?_
        refine lv_icmp_gt (pc := 92) (tgt := 99) E.1 E.2.1 dX8_readNumber_92 (by decide) (fun c_13 => ?_) (fun c_13 => ?_)
        · skip
          have hc_13 := ltE (a := 4) (b := v_12.toInt) (by decide +kernel) rfl c_13
          refine lv_iconst (pc := 99) (v := 2) E.1 E.2.1 dX8_readNumber_99 (by decide +kernel) ?_
          refine x_put (pc := 100) (T := TX8) (N := 9) (ci := 8) (ws' := (WZ_Tape cI cJ ad mr (upd (upd (upd mi 4 x_6) 5 2) 6 x_7) mf mg)) E hw9 inX8 tyX8_ok nmX8 0 4 q_546 rfl rfl (by decide) rfl rfl rfl rfl (Nat.le_of_ble_eq_true rfl) rfl dX8_readNumber_100 (fun H locs hw14 => ?_)
          exact em_v (w1 := (fun (u : Int32 × Int32 × Int32) => (WZ_Tape cI cJ ad mr (upd (upd (upd mi 6 u.1) 4 u.2.1) 5 u.2.2) mf mg))) E hr hlk (x_7, x_6, 2) hw14 ⟨hi_7_0, hi_7_1, hi_7_2⟩ (Nat.le_of_ble_eq_true rfl) (Nat.le_of_ble_eq_true rfl) dX8_readNumber_103
        · skip
          have hc_13 := nltE (a := 4) (b := v_12.toInt) (by decide +kernel) rfl c_13
          refine lv_iconst (pc := 95) (v := 1) E.1 E.2.1 dX8_readNumber_95 (by decide +kernel) ?_
          refine lv_goto (pc := 96) (tgt := 100) E.1 E.2.1 dX8_readNumber_96 (by decide) ?_
          refine x_put (pc := 100) (T := TX8) (N := 9) (ci := 8) (ws' := (WZ_Tape cI cJ ad mr (upd (upd (upd mi 4 x_6) 5 1) 6 x_7) mf mg)) E hw9 inX8 tyX8_ok nmX8 0 4 q_546 rfl rfl (by decide) rfl rfl rfl rfl (Nat.le_of_ble_eq_true rfl) rfl dX8_readNumber_100 (fun H locs hw15 => ?_)
          exact em_v (w1 := (fun (u : Int32 × Int32 × Int32) => (WZ_Tape cI cJ ad mr (upd (upd (upd mi 6 u.1) 4 u.2.1) 5 u.2.2) mf mg))) E hr hlk (x_7, x_6, 1) hw15 ⟨hi_7_0, hi_7_1, hi_7_2⟩ (Nat.le_of_ble_eq_true rfl) (Nat.le_of_ble_eq_true rfl) dX8_readNumber_103
      · skip
        have hc_11 := nleE (a := (mi 2).toInt) (b := x_6.toInt) rfl rfl c_11
        refine lv_aload_n (pc := 16) E.1 E.2.1 dX8_readNumber_16 rfl (lv_at hl10 0 rfl) ?_
        refine x_get (pc := 17) (T := TX8) (N := 9) (ci := 8) (v := .ref (mr 1)) E hw9 inX8 0 0 q_537 rfl rfl (by decide) rfl rfl dX8_readNumber_17 ?_
        refine lv_aload_n (pc := 20) E.1 E.2.1 dX8_readNumber_20 rfl (lv_at hl10 0 rfl) ?_
        refine x_get (pc := 21) (T := TX8) (N := 9) (ci := 8) (v := .int x_6) E hw9 inX8 0 3 q_541 rfl rfl (by decide) rfl rfl dX8_readNumber_21 ?_
        refine x_iald (pc := 24) (f := (mf 1)) E hw9 1 rfl (inbE (a := x_6.toInt) rfl (by omega)) dX8_readNumber_24 ?_
        refine lv_topi (fun v_16 ev_16 => ?_)
        refine ck_i (pc := 25) (ws' := (fun (u : Unit) => (WZ_Tape cI cJ ad mr (upd (upd mi 4 x_6) 6 x_7) mf mg))) [false, false] hw9 rfl (fun hC_ => (rn_S (As := [.int v_16]) (rest := []) E hw9 (t_isDigit l D cI cJ _ mr (upd (upd mi 4 x_6) 6 x_7) mf mg v_16) (gdS q_781 q_782 q_160 q_783) hdV_X8_isDigit ⟨rfl, rfl⟩ ⟨(Nat.le_of_ble_eq_true rfl), (Nat.le_of_ble_eq_true rfl)⟩ ⟨(Nat.le_of_ble_eq_true rfl), (Nat.le_of_ble_eq_true rfl)⟩ xT_b xT_at _ hC_ (nd_T _ 0) rfl hl10.1 rfl (Nat.le_of_ble_eq_true rfl) dX8_readNumber_25)) rfl (fun _ => rfl) (fun _ => rfl) (fun r_18 u_17 H1 locs hp hw19 => ?_)
        generalize H1 = H at hw19 ⊢
        have hw20 : WD D A s.heap (WZ_Tape cI cJ ad mr (upd (upd mi 4 x_6) 6 x_7) mf mg) H locs := hw19
        obtain ⟨hp_21, hp_22⟩ := hp
        have hp_21 : 0 ≤ r_18.toInt := hp_21
        have hp_22 : r_18.toInt ≤ 1 := hp_22
        refine lv_if_eq (pc := 28) (tgt := 81) E.1 E.2.1 dX8_readNumber_28 (by decide) (fun c_23 => ?_) (fun c_23 => ?_)
        · skip
          have hc_23 := eqE (a := r_18.toInt) (b := 0) rfl (by decide +kernel) c_23
          refine lv_aload_n (pc := 81) E.1 E.2.1 dX8_readNumber_81 rfl (lv_at hl10 0 rfl) ?_
          refine lv_aload_n (pc := 82) E.1 E.2.1 dX8_readNumber_82 rfl (lv_at hl10 0 rfl) ?_
          refine x_get (pc := 83) (T := TX8) (N := 9) (ci := 8) (v := .int x_6) E hw20 inX8 0 3 q_541 rfl rfl (by decide) rfl rfl dX8_readNumber_83 ?_
          refine lv_aload_n (pc := 86) E.1 E.2.1 dX8_readNumber_86 rfl (lv_at hl10 0 rfl) ?_
          refine x_get (pc := 87) (T := TX8) (N := 9) (ci := 8) (v := .int (mi 7)) E hw20 inX8 0 6 q_549 rfl rfl (by decide) rfl rfl dX8_readNumber_87 ?_
          refine lv_isub (pc := 90) E.1 E.2.1 dX8_readNumber_90 ?_
          refine lv_topi (fun v_24 ev_24 => ?_)
          have hv_24 : v_24.toInt = x_6.toInt - (mi 7).toInt := by rw [ev_24]; exact subE rfl rfl (by omega)
          refine lv_iconst (pc := 91) (v := 4) E.1 E.2.1 dX8_readNumber_91 (by decide +kernel) ?_
          refine lv_icmp_gt (pc := 92) (tgt := 99) E.1 E.2.1 dX8_readNumber_92 (by decide) (fun c_25 => ?_) (fun c_25 => ?_)
          · skip
            have hc_25 := ltE (a := 4) (b := v_24.toInt) (by decide +kernel) rfl c_25
            refine lv_iconst (pc := 99) (v := 2) E.1 E.2.1 dX8_readNumber_99 (by decide +kernel) ?_
            refine x_put (pc := 100) (T := TX8) (N := 9) (ci := 8) (ws' := (WZ_Tape cI cJ ad mr (upd (upd (upd mi 4 x_6) 5 2) 6 x_7) mf mg)) E hw20 inX8 tyX8_ok nmX8 0 4 q_546 rfl rfl (by decide) rfl rfl rfl rfl (Nat.le_of_ble_eq_true rfl) rfl dX8_readNumber_100 (fun H locs hw26 => ?_)
            exact em_v (w1 := (fun (u : Int32 × Int32 × Int32) => (WZ_Tape cI cJ ad mr (upd (upd (upd mi 6 u.1) 4 u.2.1) 5 u.2.2) mf mg))) E hr hlk (x_7, x_6, 2) hw26 ⟨hi_7_0, hi_7_1, hi_7_2⟩ (Nat.le_of_ble_eq_true rfl) (Nat.le_of_ble_eq_true rfl) dX8_readNumber_103
          · skip
            have hc_25 := nltE (a := 4) (b := v_24.toInt) (by decide +kernel) rfl c_25
            refine lv_iconst (pc := 95) (v := 1) E.1 E.2.1 dX8_readNumber_95 (by decide +kernel) ?_
            refine lv_goto (pc := 96) (tgt := 100) E.1 E.2.1 dX8_readNumber_96 (by decide) ?_
            refine x_put (pc := 100) (T := TX8) (N := 9) (ci := 8) (ws' := (WZ_Tape cI cJ ad mr (upd (upd (upd mi 4 x_6) 5 1) 6 x_7) mf mg)) E hw20 inX8 tyX8_ok nmX8 0 4 q_546 rfl rfl (by decide) rfl rfl rfl rfl (Nat.le_of_ble_eq_true rfl) rfl dX8_readNumber_100 (fun H locs hw27 => ?_)
            exact em_v (w1 := (fun (u : Int32 × Int32 × Int32) => (WZ_Tape cI cJ ad mr (upd (upd (upd mi 6 u.1) 4 u.2.1) 5 u.2.2) mf mg))) E hr hlk (x_7, x_6, 1) hw27 ⟨hi_7_0, hi_7_1, hi_7_2⟩ (Nat.le_of_ble_eq_true rfl) (Nat.le_of_ble_eq_true rfl) dX8_readNumber_103
        · skip
          have hc_23 := neE (a := r_18.toInt) (b := 0) rfl (by decide +kernel) c_23
          refine lv_aload_n (pc := 31) E.1 E.2.1 dX8_readNumber_31 rfl (lv_at hl10 0 rfl) ?_
          refine x_get (pc := 32) (T := TX8) (N := 9) (ci := 8) (v := .int x_6) E hw20 inX8 0 3 q_541 rfl rfl (by decide) rfl rfl dX8_readNumber_32 ?_
          refine lv_aload_n (pc := 35) E.1 E.2.1 dX8_readNumber_35 rfl (lv_at hl10 0 rfl) ?_
          refine x_get (pc := 36) (T := TX8) (N := 9) (ci := 8) (v := .int (mi 7)) E hw20 inX8 0 6 q_549 rfl rfl (by decide) rfl rfl dX8_readNumber_36 ?_
          refine lv_isub (pc := 39) E.1 E.2.1 dX8_readNumber_39 ?_
          refine lv_topi (fun v_28 ev_28 => ?_)
          have hv_28 : v_28.toInt = x_6.toInt - (mi 7).toInt := by rw [ev_28]; exact subE rfl rfl (by omega)
          refine lv_iconst (pc := 40) (v := 4) E.1 E.2.1 dX8_readNumber_40 (by decide +kernel) ?_
          refine lv_icmp_ge (pc := 41) (tgt := 68) E.1 E.2.1 dX8_readNumber_41 (by decide) (fun c_29 => ?_) (fun c_29 => ?_)
          · skip
            have hc_29 := leE (a := 4) (b := v_28.toInt) (by decide +kernel) rfl c_29
            refine lv_aload_n (pc := 68) E.1 E.2.1 dX8_readNumber_68 rfl (lv_at hl10 0 rfl) ?_
            refine lv_dup (pc := 69) E.1 E.2.1 dX8_readNumber_69 rfl ?_
            refine x_get (pc := 70) (T := TX8) (N := 9) (ci := 8) (v := .int x_6) E hw20 inX8 0 3 q_541 rfl rfl (by decide) rfl rfl dX8_readNumber_70 ?_
            refine lv_iconst (pc := 73) (v := 1) E.1 E.2.1 dX8_readNumber_73 (by decide +kernel) ?_
            refine lv_iadd (pc := 74) E.1 E.2.1 dX8_readNumber_74 ?_
            refine lv_topi (fun v_30 ev_30 => ?_)
            have hv_30 : v_30.toInt = x_6.toInt + 1 := by rw [ev_30]; exact addE rfl (by decide +kernel) (by omega)
            refine x_put (pc := 75) (T := TX8) (N := 9) (ci := 8) (ws' := (WZ_Tape cI cJ ad mr (upd (upd mi 4 v_30) 6 x_7) mf mg)) E hw20 inX8 tyX8_ok nmX8 0 3 q_541 rfl rfl (by decide) rfl rfl rfl rfl (Nat.le_of_ble_eq_true rfl) rfl dX8_readNumber_75 (fun H locs hw31 => ?_)
            refine lv_goto (pc := 78) (tgt := 5) E.1 E.2.1 dX8_readNumber_78 (by decide) ?_
            exact ih_8 v_30 x_7 _ _ _ ⟨(by show 0 ≤ v_30.toInt; omega), (by show v_30.toInt ≤ (mi 2).toInt; omega), (by show (mi 4).toInt ≤ v_30.toInt; omega)⟩ (by omega) hw31 (lv_sub hl10 [0] rfl)
          · skip
            have hc_29 := nleE (a := 4) (b := v_28.toInt) (by decide +kernel) rfl c_29
            refine lv_aload_n (pc := 44) E.1 E.2.1 dX8_readNumber_44 rfl (lv_at hl10 0 rfl) ?_
            refine lv_bipush (pc := 45) (v := 10) E.1 E.2.1 dX8_readNumber_45 (by decide +kernel) ?_
            refine lv_aload_n (pc := 47) E.1 E.2.1 dX8_readNumber_47 rfl (lv_at hl10 0 rfl) ?_
            refine x_get (pc := 48) (T := TX8) (N := 9) (ci := 8) (v := .int x_7) E hw20 inX8 0 5 q_548 rfl rfl (by decide) rfl rfl dX8_readNumber_48 ?_
            refine lv_imul (pc := 51) E.1 E.2.1 dX8_readNumber_51 ?_
            refine lv_topi (fun v_32 ev_32 => ?_)
            refine lv_aload_n (pc := 52) E.1 E.2.1 dX8_readNumber_52 rfl (lv_at hl10 0 rfl) ?_
            refine x_get (pc := 53) (T := TX8) (N := 9) (ci := 8) (v := .ref (mr 1)) E hw20 inX8 0 0 q_537 rfl rfl (by decide) rfl rfl dX8_readNumber_53 ?_
            refine lv_aload_n (pc := 56) E.1 E.2.1 dX8_readNumber_56 rfl (lv_at hl10 0 rfl) ?_
            refine x_get (pc := 57) (T := TX8) (N := 9) (ci := 8) (v := .int x_6) E hw20 inX8 0 3 q_541 rfl rfl (by decide) rfl rfl dX8_readNumber_57 ?_
            refine x_iald (pc := 60) (f := (mf 1)) E hw20 1 rfl (inbE (a := x_6.toInt) rfl (by omega)) dX8_readNumber_60 ?_
            refine lv_topi (fun v_33 ev_33 => ?_)
            have hsv_33 : v_33.toInt = v_16.toInt := by rw [ev_33, ev_16]
            refine lv_iadd (pc := 61) E.1 E.2.1 dX8_readNumber_61 ?_
            refine lv_topi (fun v_34 ev_34 => ?_)
            refine lv_bipush (pc := 62) (v := 48) E.1 E.2.1 dX8_readNumber_62 (by decide +kernel) ?_
            refine lv_isub (pc := 64) E.1 E.2.1 dX8_readNumber_64 ?_
            refine lv_topi (fun v_35 ev_35 => ?_)
            refine x_put (pc := 65) (T := TX8) (N := 9) (ci := 8) (ws' := (WZ_Tape cI cJ ad mr (upd (upd mi 4 x_6) 6 v_35) mf mg)) E hw20 inX8 tyX8_ok nmX8 0 5 q_548 rfl rfl (by decide) rfl rfl rfl rfl (Nat.le_of_ble_eq_true rfl) rfl dX8_readNumber_65 (fun H locs hw36 => ?_)
            refine lv_aload_n (pc := 68) E.1 E.2.1 dX8_readNumber_68 rfl (lv_at hl10 0 rfl) ?_
            refine lv_dup (pc := 69) E.1 E.2.1 dX8_readNumber_69 rfl ?_
            refine x_get (pc := 70) (T := TX8) (N := 9) (ci := 8) (v := .int x_6) E hw36 inX8 0 3 q_541 rfl rfl (by decide) rfl rfl dX8_readNumber_70 ?_
            refine lv_iconst (pc := 73) (v := 1) E.1 E.2.1 dX8_readNumber_73 (by decide +kernel) ?_
            refine lv_iadd (pc := 74) E.1 E.2.1 dX8_readNumber_74 ?_
            refine lv_topi (fun v_37 ev_37 => ?_)
            have hv_37 : v_37.toInt = x_6.toInt + 1 := by rw [ev_37]; exact addE rfl (by decide +kernel) (by omega)
            refine x_put (pc := 75) (T := TX8) (N := 9) (ci := 8) (ws' := (WZ_Tape cI cJ ad mr (upd (upd mi 4 v_37) 6 v_35) mf mg)) E hw36 inX8 tyX8_ok nmX8 0 3 q_541 rfl rfl (by decide) rfl rfl rfl rfl (Nat.le_of_ble_eq_true rfl) rfl dX8_readNumber_75 (fun H locs hw38 => ?_)
            refine lv_goto (pc := 78) (tgt := 5) E.1 E.2.1 dX8_readNumber_78 (by decide) ?_
            exact ih_8 v_37 v_35 _ _ _ ⟨(by show 0 ≤ v_37.toInt; omega), (by show v_37.toInt ≤ (mi 2).toInt; omega), (by show (mi 4).toInt ≤ v_37.toInt; omega)⟩ (by omega) hw38 (lv_sub hl10 [0] rfl)
  exact loop_5 (Int.toNat ((mi 2).toInt - (mi 4).toInt) + 1) (mi 4) 0 _ _ _ ⟨h1, h2, (by show (mi 4).toInt ≤ (mi 4).toInt; omega)⟩ (by have k_1 : (0 : Int32).toInt = 0 := (by decide +kernel); omega) hw4 (lv_sub hl3 [0] rfl)
